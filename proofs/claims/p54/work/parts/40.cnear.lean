/-! the class: the nearest tag -/
abbrev okG (D : ZD) (g i : Nat) : Prop := i < dG D ∧ D 51 i = 0 ∧ i ≠ g
/-- the nearest of the first tags -/
def nrD (D : ZD) (g : Nat) : Nat → Option Nat
  | 0 => none
  | i + 1 => match nrD D g i with
    | none => if okG D g i then some i else none
    | some b => if okG D g i ∧ lvD D g i < lvD D g b then some i else some b
theorem nrD_no {D : ZD} {g i : Nat} (h : ¬ okG D g i) : nrD D g (i + 1) = nrD D g i := by
  simp only [nrD]
  cases nrD D g i with
  | none => exact if_neg h
  | some b => exact if_neg (fun q => h q.1)
theorem nrD_first {D : ZD} {g i : Nat} (h : okG D g i) (e : nrD D g i = none) : nrD D g (i + 1) = some i := by
  simp only [nrD, e]; exact if_pos h
theorem nrD_new {D : ZD} {g i b : Nat} (h : okG D g i) (e : nrD D g i = some b) (h2 : lvD D g i < lvD D g b) : nrD D g (i + 1) = some i := by
  simp only [nrD, e]; exact if_pos ⟨h, h2⟩
theorem nrD_old {D : ZD} {g i b : Nat} (e : nrD D g i = some b) (h2 : ¬ lvD D g i < lvD D g b) : nrD D g (i + 1) = some b := by
  simp only [nrD, e]; exact if_neg (fun q => h2 q.2)
theorem nrD_lt {D : ZD} {g : Nat} : ∀ {i b : Nat}, nrD D g i = some b → okG D g b := by
  intro i
  induction i with
  | zero => intro b h; cases h
  | succ i ih =>
    intro b h
    simp only [nrD] at h
    cases e : nrD D g i with
    | none =>
      rw [e] at h
      by_cases q : okG D g i
      · rw [if_pos q] at h; cases h; exact q
      · rw [if_neg q] at h; cases h
    | some c =>
      rw [e] at h
      have h : (if okG D g i ∧ lvD D g i < lvD D g c then some i else some c) = some b := h
      by_cases q : okG D g i ∧ lvD D g i < lvD D g c
      · rw [if_pos q] at h; cases h; exact q.1
      · rw [if_neg q] at h; cases h; exact ih e
theorem tG_in {D : ZD} {J : Nat → Int64} {lk : ZL} {as : Nat → Nat} {S : ZM} {L T : Nat → Nat} (h : cR D J lk as S L T) {i a : Nat} (hi : i < 16) (ha : tQ S (L 2) i = some a) (hb : mQ S 13 a = none) : i < dG D ∧ D 51 i = 0 := by
  obtain ⟨g, hg, hgG, e, h51, -⟩ := tG_some h (x := nI i) (by rw [cAt_nI hi (by decide)]; exact ha) hb
  have : i = g := (nI_eq (by omega) (by omega)).1 e
  subst this; exact ⟨hgG, h51⟩
theorem tG_no1 {D : ZD} {J : Nat → Int64} {lk : ZL} {as : Nat → Nat} {S : ZM} {L T : Nat → Nat} (h : cR D J lk as S L T) {g i : Nat} (ha : tQ S (L 2) i = none) : ¬ okG D g i := by
  intro q
  obtain ⟨b, nm, eb, -⟩ := h.1.2.2.1.2 i q.1
  rw [eb] at ha; cases ha
theorem tG_no2 {D : ZD} {J : Nat → Int64} {lk : ZL} {as : Nat → Nat} {S : ZM} {L T : Nat → Nat} (h : cR D J lk as S L T) {g i a b : Nat} (hi : i < 16) (ha : tQ S (L 2) i = some a) (hb : mQ S 13 a = some b) : ¬ okG D g i := by
  intro q
  refine tG_none h (x := nI i) (fun c hc hd => ?_) ⟨i, hi, q.1, rfl, q.2.1⟩
  rw [cAt_nI hi (by decide), ha] at hc
  cases hc; rw [hb] at hd; cases hd
theorem lvD_lt {D : ZD} {J : Nat → Int64} {lk : ZL} {as : Nat → Nat} {S : ZM} {L T : Nat → Nat} (h : cR D J lk as S L T) {g b : Nat} (hg : g < dG D) (hb : b < dG D) : lvD D g b ≤ 12 := by
  obtain ⟨a, nm, ea, -⟩ := h.1.2.2.1.2 g hg
  obtain ⟨c, nm2, ec, -⟩ := h.1.2.2.1.2 b hb
  have h1 := (rG.tg h hg ea).1.2.2.1
  have h2 := (rG.tg h hb ec).1.2.2.1
  have := lvN_le (cst (fun j => D 50 (6 * g + j)) (fun j => D 50 (6 * b + j))) (ix (D 49 g)) (ix (D 49 b))
  unfold lvD; omega
theorem offT.trans {S : ZM} {L : Nat → Nat} {F G : Nat → Nat → Int32} (h : offT S L F) (h2 : offT (sT S F) L G) : offT S L G := fun x hx => (h2 x hx).trans (h x hx)

theorem bst_none {D : ZD} {J : Nat → Int64} {lk : ZL} {as : Nat → Nat} {S : ZM} {L T : Nat → Nat} (h : cR D J lk as S L T) {g i : Nat} (hq : (nrD D g i).bind (tQ S (L 2)) = none) : nrD D g i = none := by
  cases e : nrD D g i with
  | none => rfl
  | some b =>
    obtain ⟨b8, nm8, eb8, -⟩ := h.1.2.2.1.2 b (nrD_lt e).1
    rw [e, Option.bind_some, eb8] at hq; cases hq
theorem bst_new {D : ZD} {J : Nat → Int64} {lk : ZL} {as : Nat → Nat} {S : ZM} {L T : Nat → Nat} (h : cR D J lk as S L T) {g i a : Nat} (hg : g < dG D) (ok : okG D g i) (hq : (nrD D g i).bind (tQ S (L 2)) = some a) (h2 : ¬ (nrD D g i).elim 0 (fun b => nI (lvD D g b)) ≤ nI (lvD D g i)) : nrD D g (i + 1) = some i := by
  cases e : nrD D g i with
  | none => rw [e] at hq; cases hq
  | some b =>
    refine nrD_new ok e ?_
    rw [e] at h2
    have l1 := lvD_lt h hg ok.1
    have l2 := lvD_lt h hg (nrD_lt e).1
    have h2 : ¬ nI (lvD D g b) ≤ nI (lvD D g i) := h2
    rw [nI_leI (by omega) (by omega)] at h2; omega
theorem bst_old {D : ZD} {J : Nat → Int64} {lk : ZL} {as : Nat → Nat} {S : ZM} {L T : Nat → Nat} (h : cR D J lk as S L T) {g i a : Nat} (hg : g < dG D) (ok : okG D g i) (hq : (nrD D g i).bind (tQ S (L 2)) = some a) (h2 : (nrD D g i).elim 0 (fun b => nI (lvD D g b)) ≤ nI (lvD D g i)) : nrD D g (i + 1) = nrD D g i := by
  cases e : nrD D g i with
  | none => rw [e] at hq; cases hq
  | some b =>
    refine nrD_old e ?_
    rw [e] at h2
    have l1 := lvD_lt h hg ok.1
    have l2 := lvD_lt h hg (nrD_lt e).1
    have h2 : nI (lvD D g b) ≤ nI (lvD D g i) := h2
    rw [nI_leI (by omega) (by omega)] at h2; omega
theorem rG_k4 {D : ZD} {J : Nat → Int64} {lk : ZL} {as : Nat → Nat} {S : ZM} {L T : Nat → Nat} (h : cR D J lk as S L T) {i a : Nat} (hi : i < 16) (ha : tQ S (L 2) i = some a) : mK S a = 4 := (h.1.2.2.1.k i a hi ha).1
set_option maxRecDepth 100000 in
set_option maxHeartbeats 4000000 in
theorem C_nearest {l : Launch} (hl0 : l.stackTraces = false) {D : ZD} {J : Nat → Int64} {lk : ZL} {as : Nat → Nat} {S : ZM} {L T : Nat → Nat} (hR1 : cR D J lk as S L T) (x : Int32) : zMet l yX4_nearest (Cond.code yX4_nearest cX4_nearest 8 (some .int) :: LWc) ({ frames := 7, cells := 2, slots := 12, locals := 108 } : Room) 2 12 [zr (some (L 0)), zi x] S (zPo (fun v S' => ∃ g b : Nat, g < 16 ∧ g < dG D ∧ x = nI g ∧ D 51 g = 0 ∧ nrD D g 16 = some b ∧ v = some (zi (nI b)) ∧ cR D J lk as S' L T) (fun E S' => cR D J lk as S' L T ∧ ((¬ hasTg D x ∧ E = "java/util/NoSuchElementException") ∨ (∃ g : Nat, g < 16 ∧ g < dG D ∧ x = nI g ∧ D 51 g = 0 ∧ nrD D g 16 = none ∧ E = "java/lang/IllegalStateException")))) := by
  refine zMet.of' [some (zr (some (L 0))), some (zi x), none, none, none, none, none, none] hl0 (by decide) rfl (Nat.le_of_ble_eq_true rfl) rfl ?_
  intro X C N hR hN0 hX F
  subst hX
  obtain ⟨hX0, hV, hK, hU, hQ, hF⟩ := id hR1
  obtain ⟨hS, hT, hG, hRR, hLL, hA, hday, hpl, hO, hAc⟩ := id hX0
  refine z_aload_n C rfl dX4_nearest_0 ?_
  refine z_iload_n C rfl dX4_nearest_1 ?_
  refine z_callC 1 [zi x] C rfl (C_needTag hl0 hS hG.k x) rfl (zgoodV LWc_good wc168 wc169 wc170 wc58 wc171) rfl rfl rfl (by decide +kernel) rfl (by rw [hR]; exact ⟨Nat.le_of_ble_eq_true rfl, Nat.le_of_ble_eq_true rfl⟩) hS.c (by rw [hR]; exact ⟨Nat.le_of_ble_eq_true rfl, Nat.le_of_ble_eq_true rfl⟩) (Nat.le_of_ble_eq_true rfl) dX4_nearest_2 (fun v2 S2 h2 => ?_) (fun E2 S2 h2 => ?_)
  · obtain ⟨b9, e2, z2, rfl, q2⟩ := h2
    subst S2
    obtain ⟨g, hg2, hgG2, ex2, h51_2, hl2, ea2, k4_2, n10_2⟩ := tG_some hR1 e2 z2
    refine z_astore_n [_, _, _, _, _, _, _, _] C (by decide) rfl dX4_nearest_5 ?_
    refine z_null C dX4_nearest_6 ?_
    refine z_astore_n [_, _, _, _, _, _, _, _] C (by decide) rfl dX4_nearest_7 ?_
    have loop : ∀ (m i : Nat) (Tb : Nat → Nat → Int32) (w6 w7 : Option ZV), i + m = 16 → offT S L Tb → zW X 8 (0 + 1) (0 + 6) (sT S Tb) 14 [some (zr (some (L 0))), some (zi x), some (zr (some b9)), some (zr ((nrD D g i).bind (tQ S (L 2)))), some (zi ((nrD D g i).elim 0 (fun b => nI (lvD D g b)))), some (zi (nI i)), w6, w7] [] := by
      intro m
      induction m with
      | zero =>
        intro i Tb w6 w7 hi hTb
        obtain rfl : i = 16 := by omega
        have hRi := hR1.sT hTb
        refine z_iload C rfl dX4_nearest_14 ?_
        refine z_bipush 16 (by decide) C dX4_nearest_16 ?_
        refine z_icmp_ge 84 C dX4_nearest_18 (by decide) (fun c18 => ?_) (fun c18 => ?_)
        · refine z_aload_n C rfl dX4_nearest_84 ?_
          refine z_ifnonnull 98 C dX4_nearest_85 (by decide) (fun a85 c85 => ?_) (fun c85 => ?_)
          · obtain ⟨b, hb, eb⟩ := Option.bind_eq_some_iff.mp c85
            have okb := nrD_lt hb
            obtain ⟨b8, nm8, eb8, kb8, nb8, -⟩ := hRi.1.2.2.1.2 b okb.1
            have e8 : b8 = a85 := by
              have eb : tQ S (L 2) b = some a85 := eb
              have eb8 : tQ S (L 2) b = some b8 := eb8
              rw [eb8] at eb; exact Option.some.inj eb
            subst e8
            refine z_aload_n C rfl dX4_nearest_98 ?_
            refine z_ref c85 ?_
            refine zg2_number C (fun w h => List.mem_cons_of_mem _ (uc_wsX20 w h)) kb8 (List.mem_cons_of_mem _ wc61) dX4_nearest_99 ?_
            refine z_int nb8 ?_
            refine z_ireturn C F (Nat.le_of_ble_eq_true rfl) (Nat.le_of_ble_eq_true rfl) dX4_nearest_102 ?_
            exact ⟨g, b, hg2, hgG2, ex2, h51_2, hb, rfl, hRi⟩
          · refine z_throwS (text := "there is no other tag") ["java/lang/RuntimeException", "java/lang/Exception"] C F N (by decide +kernel) (by decide +kernel) (List.mem_cons_of_mem _ wc141) (List.mem_cons_of_mem _ wc142) (by decide +kernel) (fun w h => List.mem_cons_of_mem _ (ac_1 w h)) bc_1 (by decide) (by decide +kernel) dX4_nearest_88 dX4_nearest_91 dX4_nearest_92 dX4_nearest_94 dX4_nearest_97 (by rw [hR]; exact Nat.le_of_ble_eq_true rfl) (by rw [hR]; exact Nat.le_of_ble_eq_true rfl) (by rw [hR]; exact Nat.le_of_ble_eq_true rfl) (by rw [hR]; exact Nat.le_of_ble_eq_true rfl) (Nat.le_of_ble_eq_true rfl) (Nat.le_of_ble_eq_true rfl) ?_
            exact ⟨hRi, Or.inr ⟨g, hg2, hgG2, ex2, h51_2, bst_none hR1 c85, rfl⟩⟩
        · exact absurd (by decide) c18
      | succ m ih =>
        intro i Tb w6 w7 hi hTb
        have hRi := hR1.sT hTb
        have hi16 : i < 16 := by omega
        have fin : ∀ (o : Option Nat) (Tb : Nat → Nat → Int32) (w6 w7 : Option ZV), offT S L Tb → nrD D g (i + 1) = o → zW X 8 (0 + 1) (0 + 6) (sT S Tb) 14 [some (zr (some (L 0))), some (zi x), some (zr (some b9)), some (zr (o.bind (tQ S (L 2)))), some (zi (o.elim 0 (fun b => nI (lvD D g b)))), some (zi (nI i + 1)), w6, w7] [] := by
          intro o Tb w6 w7 h1 e
          have q := ih (i + 1) Tb w6 w7 (by omega) h1
          rw [e, nI_succ] at q
          exact q
        have finS : ∀ (a31 : Nat) (Tb : Nat → Nat → Int32) (w6 w7 : Option ZV), offT S L Tb → tQ S (L 2) i = some a31 → nrD D g (i + 1) = some i → zW X 8 (0 + 1) (0 + 6) (sT S Tb) 14 [some (zr (some (L 0))), some (zi x), some (zr (some b9)), some (zr (some a31)), some (zi (nI (lvD D g i))), some (zi (nI i + 1)), w6, w7] [] := by
          intro a31 Tb w6 w7 h1 h2 e
          have q := fin (some i) Tb w6 w7 h1 e
          rw [Option.bind_some, h2] at q
          exact q
        refine z_iload C rfl dX4_nearest_14 ?_
        refine z_bipush 16 (by decide) C dX4_nearest_16 ?_
        refine z_icmp_ge 84 C dX4_nearest_18 (by decide) (fun c18 => ?_) (fun c18 => ?_)
        · exact absurd c18 (n16 hi16)
        · refine z_aload_n C rfl dX4_nearest_21 ?_
          refine z_iload C rfl dX4_nearest_22 ?_
          refine z_callC 1 [zi (nI i)] C rfl (C_tagOrNull hl0 hRi.1.1 (nI i)) rfl (zgoodV LWc_good wc62 wc63 wc64 wc58 wc65) rfl rfl rfl (by decide +kernel) rfl (by rw [hR]; exact ⟨Nat.le_of_ble_eq_true rfl, Nat.le_of_ble_eq_true rfl⟩) hS.c (by rw [hR]; exact ⟨Nat.le_of_ble_eq_true rfl, Nat.le_of_ble_eq_true rfl⟩) (Nat.le_of_ble_eq_true rfl) dX4_nearest_24 (fun v24 S24 h24 => ?_) (fun E24 S24 h24 => ?_)
          · obtain ⟨rfl, q24⟩ := h24
            subst S24
            refine z_ref (r' := tQ S (L 2) i) (cAt_nI hi16 (by decide)) ?_
            refine z_astore [_, _, _, _, _, _, _, _] C (by decide) rfl dX4_nearest_27 ?_
            refine z_aload C rfl dX4_nearest_29 ?_
            refine z_ref rfl ?_
            refine z_ifnull 78 C dX4_nearest_31 (by decide) (fun c31 => ?_) (fun a31 c31 => ?_)
            · refine z_inc (1) [_, _, _, _, _, _, _, _] C rfl (by decide) (by decide) rfl dX4_nearest_78 ?_
              refine z_goto 14 C dX4_nearest_81 (by decide) ?_
              first
              | exact fin _ _ _ _ hTb (nrD_no (tG_no1 hR1 c31))
              | exact fin _ _ _ _ hTb (nrD_no (tG_no2 hR1 hi16 c31 c39))
              | exact fin _ _ _ _ hTb (nrD_no (fun q => q.2.2 ((nI_eq (by omega) (by omega)).1 c48)))
              | exact finS _ _ _ _ hTd c31 (nrD_first ok (bst_none hR1 c61))
              | exact finS _ _ _ _ hTd c31 (bst_new hR1 hgG2 ok c61 c68)
              | exact fin _ _ _ _ hTd (bst_old hR1 hgG2 ok c61 c68)
            · refine z_aload C rfl dX4_nearest_34 ?_
              refine z_ref c31 ?_
              refine zg2_becomes C (fun w h => List.mem_cons_of_mem _ (uc_wsX20 w h)) (rG_k4 hR1 hi16 c31) (List.mem_cons_of_mem _ wc60) dX4_nearest_36 ?_
              refine z_ifnonnull 78 C dX4_nearest_39 (by decide) (fun a39 c39 => ?_) (fun c39 => ?_)
              · refine z_inc (1) [_, _, _, _, _, _, _, _] C rfl (by decide) (by decide) rfl dX4_nearest_78 ?_
                refine z_goto 14 C dX4_nearest_81 (by decide) ?_
                first
                | exact fin _ _ _ _ hTb (nrD_no (tG_no1 hR1 c31))
                | exact fin _ _ _ _ hTb (nrD_no (tG_no2 hR1 hi16 c31 c39))
                | exact fin _ _ _ _ hTb (nrD_no (fun q => q.2.2 ((nI_eq (by omega) (by omega)).1 c48)))
                | exact finS _ _ _ _ hTd c31 (nrD_first ok (bst_none hR1 c61))
                | exact finS _ _ _ _ hTd c31 (bst_new hR1 hgG2 ok c61 c68)
                | exact fin _ _ _ _ hTd (bst_old hR1 hgG2 ok c61 c68)
              · refine z_iload C rfl dX4_nearest_42 ?_
                refine z_aload_n C rfl dX4_nearest_44 ?_
                refine zg2_number C (fun w h => List.mem_cons_of_mem _ (uc_wsX20 w h)) k4_2 (List.mem_cons_of_mem _ wc61) dX4_nearest_45 ?_
                refine z_int n10_2 ?_
                refine z_icmp_eq 78 C dX4_nearest_48 (by decide) (fun c48 => ?_) (fun c48 => ?_)
                · refine z_inc (1) [_, _, _, _, _, _, _, _] C rfl (by decide) (by decide) rfl dX4_nearest_78 ?_
                  refine z_goto 14 C dX4_nearest_81 (by decide) ?_
                  first
                  | exact fin _ _ _ _ hTb (nrD_no (tG_no1 hR1 c31))
                  | exact fin _ _ _ _ hTb (nrD_no (tG_no2 hR1 hi16 c31 c39))
                  | exact fin _ _ _ _ hTb (nrD_no (fun q => q.2.2 ((nI_eq (by omega) (by omega)).1 c48)))
                  | exact finS _ _ _ _ hTd c31 (nrD_first ok (bst_none hR1 c61))
                  | exact finS _ _ _ _ hTd c31 (bst_new hR1 hgG2 ok c61 c68)
                  | exact fin _ _ _ _ hTd (bst_old hR1 hgG2 ok c61 c68)
                · have ok : okG D g i := ⟨(tG_in hRi hi16 c31 c39).1, (tG_in hRi hi16 c31 c39).2, fun q => c48 (congrArg nI q)⟩
                  refine z_aload_n C rfl dX4_nearest_51 ?_
                  refine z_aload_n C rfl dX4_nearest_52 ?_
                  refine z_aload C rfl dX4_nearest_53 ?_
                  refine z_ref c31 ?_
                  refine z_callC 2 [zr (some b9), zr (some a31)] C rfl (C_distanceByTable hl0 (rG.tg hRi hgG2 ea2).1 (rG.tg hRi ok.1 c31).1 hRi.1.1) rfl (zgoodV LWc_good wc184 wc185 wc186 wc58 wc187) rfl rfl rfl (by decide +kernel) rfl (by rw [hR]; exact ⟨Nat.le_of_ble_eq_true rfl, Nat.le_of_ble_eq_true rfl⟩) hS.c (by rw [hR]; exact ⟨Nat.le_of_ble_eq_true rfl, Nat.le_of_ble_eq_true rfl⟩) (Nat.le_of_ble_eq_true rfl) dX4_nearest_55 (fun v55 S55 h55 => ?_) (fun E55 S55 h55 => ?_)
                  · obtain ⟨rfl, Tc, q55, hTc⟩ := h55
                    subst S55
                    have hTd := hTb.trans hTc
                    refine z_istore [_, _, _, _, _, _, _, _] C (by decide) rfl dX4_nearest_58 ?_
                    refine z_aload_n C rfl dX4_nearest_60 ?_
                    refine z_ifnull 71 C dX4_nearest_61 (by decide) (fun c61 => ?_) (fun a61 c61 => ?_)
                    · refine z_aload C rfl dX4_nearest_71 ?_
                      refine z_ref c31 ?_
                      refine z_astore_n [_, _, _, _, _, _, _, _] C (by decide) rfl dX4_nearest_73 ?_
                      refine z_iload C rfl dX4_nearest_74 ?_
                      refine z_istore [_, _, _, _, _, _, _, _] C (by decide) rfl dX4_nearest_76 ?_
                      refine z_inc (1) [_, _, _, _, _, _, _, _] C rfl (by decide) (by decide) rfl dX4_nearest_78 ?_
                      refine z_goto 14 C dX4_nearest_81 (by decide) ?_
                      first
                      | exact fin _ _ _ _ hTb (nrD_no (tG_no1 hR1 c31))
                      | exact fin _ _ _ _ hTb (nrD_no (tG_no2 hR1 hi16 c31 c39))
                      | exact fin _ _ _ _ hTb (nrD_no (fun q => q.2.2 ((nI_eq (by omega) (by omega)).1 c48)))
                      | exact finS _ _ _ _ hTd c31 (nrD_first ok (bst_none hR1 c61))
                      | exact finS _ _ _ _ hTd c31 (bst_new hR1 hgG2 ok c61 c68)
                      | exact fin _ _ _ _ hTd (bst_old hR1 hgG2 ok c61 c68)
                    · refine z_iload C rfl dX4_nearest_64 ?_
                      refine z_iload C rfl dX4_nearest_66 ?_
                      refine z_icmp_ge 78 C dX4_nearest_68 (by decide) (fun c68 => ?_) (fun c68 => ?_)
                      · refine z_inc (1) [_, _, _, _, _, _, _, _] C rfl (by decide) (by decide) rfl dX4_nearest_78 ?_
                        refine z_goto 14 C dX4_nearest_81 (by decide) ?_
                        first
                        | exact fin _ _ _ _ hTb (nrD_no (tG_no1 hR1 c31))
                        | exact fin _ _ _ _ hTb (nrD_no (tG_no2 hR1 hi16 c31 c39))
                        | exact fin _ _ _ _ hTb (nrD_no (fun q => q.2.2 ((nI_eq (by omega) (by omega)).1 c48)))
                        | exact finS _ _ _ _ hTd c31 (nrD_first ok (bst_none hR1 c61))
                        | exact finS _ _ _ _ hTd c31 (bst_new hR1 hgG2 ok c61 c68)
                        | exact fin _ _ _ _ hTd (bst_old hR1 hgG2 ok c61 c68)
                      · refine z_aload C rfl dX4_nearest_71 ?_
                        refine z_ref c31 ?_
                        refine z_astore_n [_, _, _, _, _, _, _, _] C (by decide) rfl dX4_nearest_73 ?_
                        refine z_iload C rfl dX4_nearest_74 ?_
                        refine z_istore [_, _, _, _, _, _, _, _] C (by decide) rfl dX4_nearest_76 ?_
                        refine z_inc (1) [_, _, _, _, _, _, _, _] C rfl (by decide) (by decide) rfl dX4_nearest_78 ?_
                        refine z_goto 14 C dX4_nearest_81 (by decide) ?_
                        first
                        | exact fin _ _ _ _ hTb (nrD_no (tG_no1 hR1 c31))
                        | exact fin _ _ _ _ hTb (nrD_no (tG_no2 hR1 hi16 c31 c39))
                        | exact fin _ _ _ _ hTb (nrD_no (fun q => q.2.2 ((nI_eq (by omega) (by omega)).1 c48)))
                        | exact finS _ _ _ _ hTd c31 (nrD_first ok (bst_none hR1 c61))
                        | exact finS _ _ _ _ hTd c31 (bst_new hR1 hgG2 ok c61 c68)
                        | exact fin _ _ _ _ hTd (bst_old hR1 hgG2 ok c61 c68)
                  · exact h55.elim
          · exact h24.elim
    refine z_iconst 0 (by decide) C dX4_nearest_8 ?_
    refine z_istore [_, _, _, _, _, _, _, _] C (by decide) rfl dX4_nearest_9 ?_
    refine z_iconst 0 (by decide) C dX4_nearest_11 ?_
    refine z_istore [_, _, _, _, _, _, _, _] C (by decide) rfl dX4_nearest_12 ?_
    exact loop 16 0 (tI S) none none rfl (fun _ _ => rfl)
  · obtain ⟨e2, rfl, q2⟩ := h2
    subst S2
    exact z_out C F N (Nat.le_of_ble_eq_true rfl) (Nat.le_of_ble_eq_true rfl) ⟨hR1, Or.inl ⟨tG_none hR1 e2, rfl⟩⟩
