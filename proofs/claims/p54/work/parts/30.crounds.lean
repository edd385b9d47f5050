/-! the class: filling all lists anew in rounds -/
/-- round r, at list i; c: whether a list of this round changed -/
def ivB (D : ZD) (rk : Nat → Nat) (K : Nat → Int32) (c : Int32) (r i : Nat) : Prop := (∀ l : Nat, l < 8 → subD D (K l)) ∧ (∀ l : Nat, l < 8 → dL D ≤ l → K l = 0) ∧ (∀ l : Nat, l < dL D → (rk l < r ∨ (rk l = r ∧ l < i)) → K l = fixD D l) ∧ (c = 0 → ∀ l : Nat, l < dL D → l < i → K l = chD D K l)
theorem ivB_next {D : ZD} {rk : Nat → Nat} {K : Nat → Int32} {c : Int32} {r : Nat} (h : ivB D rk K c r 8) (h8 : dL D ≤ 8) : (∀ l : Nat, l < 8 → subD D (K l)) ∧ (∀ l : Nat, l < 8 → dL D ≤ l → K l = 0) ∧ (∀ l : Nat, l < dL D → rk l < r + 1 → K l = fixD D l) ∧ (c = 0 → ∀ l : Nat, l < dL D → K l = chD D K l) := ⟨h.1, h.2.1, fun l hl hc => h.2.2.1 l hl (by
  by_cases e : rk l = r
  · exact Or.inr ⟨e, by omega⟩
  · exact Or.inl (by omega)), fun hc l hl => h.2.2.2 hc l hl (by omega)⟩
/-- the list i is as it was -/
theorem ivB_same {D : ZD} {rk : Nat → Nat} {K : Nat → Int32} {c : Int32} {r i : Nat} (h : ivB D rk K c r i) (h1 : i < dL D → K i = chD D K i) (h2 : i < dL D → rk i ≤ r → chD D K i = fixD D i) : ivB D rk K c r (i + 1) := ⟨h.1, h.2.1, fun l hl hc => by
  by_cases hli : l = i
  · subst hli
    rcases hc with q | q
    · exact h.2.2.1 l hl (Or.inl q)
    · rw [h1 hl, h2 hl (by omega)]
  · exact h.2.2.1 l hl (by rcases hc with q | q; exact Or.inl q; exact Or.inr ⟨q.1, by omega⟩), fun hc l hl hlt => by
  by_cases hli : l = i
  · subst hli; exact h1 hl
  · exact h.2.2.2 hc l hl (by omega)⟩
theorem ivB_new {D : ZD} {rk : Nat → Nat} {K : Nat → Int32} {c : Int32} {r i : Nat} (h : ivB D rk K c r i) (hi : i < dL D) (h2 : rk i ≤ r → chD D K i = fixD D i) : ivB D rk (up1 K i (chD D K i)) 1 r (i + 1) := by
  refine ⟨fun l hl => ?_, fun l hl hd => ?_, fun l hl hc => ?_, fun hc => absurd hc (by decide)⟩
  · by_cases hli : l = i
    · subst hli; rw [up1_self]; exact subD_ch D K l
    · rw [up1_ne hli]; exact h.1 l hl
  · rw [up1_ne (by omega)]; exact h.2.1 l hl hd
  · by_cases hli : l = i
    · subst hli; rw [up1_self]; exact h2 (by omega)
    · rw [up1_ne hli]; exact h.2.2.1 l hl (by rcases hc with q | q; exact Or.inl q; exact Or.inr ⟨q.1, by omega⟩)
theorem eI_row (S : ZM) (a i : Nat) (v : Int32) : eI S a i v = eR S a (up1 (tI S a) i v) := (congrArg (fun z => eI z a i v) (eR_self S a)).trans (eI_eR S a i (tI S a) v)
set_option maxRecDepth 100000 in
set_option maxHeartbeats 4000000 in
theorem C_afill {l : Launch} (hl0 : l.stackTraces = false) {S : ZM} {a n : Nat} (hk : mK S a = 10) (hn : mN S a = n) (h31 : n < 2 ^ 31) (v : Int32) : zMet l yJ7_fill_53178 (Cond.code yJ7_fill_53178 cJ7_fill_53178 4 none :: LWc) ({ frames := 0, cells := 0, slots := 0, locals := 0 } : Room) 0 0 [zr (some a), zi v] S (zPo (fun w S' => w = none ∧ S' = (eR S a (fun j => if j < n then v else tI S a j))) (fun _ _ => False)) := by
  refine zMet.of' [some (zr (some a)), some (zi v), none, none] hl0 (by decide) rfl (Nat.le_of_ble_eq_true rfl) rfl ?_
  intro X C N hR hN0 hX F
  subst hX
  have loop : ∀ (m i : Nat), i + m = n → zW X 4 0 0 (eR S a (fun j => if j < i then v else tI S a j)) 5 [some (zr (some a)), some (zi v), some (zi (nI i)), some (zi (nI n))] [] := by
    intro m
    induction m with
    | zero =>
      intro i hi
      obtain rfl : i = n := by omega
      refine z_iload_n C rfl dJ7_fill_53178_5 ?_
      refine z_iload_n C rfl dJ7_fill_53178_6 ?_
      refine z_icmp_ge 20 C dJ7_fill_53178_7 (by decide) (fun c7 => ?_) (fun c7 => ?_)
      · refine z_return C F (Nat.le_of_ble_eq_true rfl) (Nat.le_of_ble_eq_true rfl) dJ7_fill_53178_20 ?_
        exact ⟨rfl, rfl⟩
      · exact absurd (nI_le (Nat.le_refl _) h31) c7
    | succ m ih =>
      intro i hi
      have hin : i < n := by omega
      refine z_iload_n C rfl dJ7_fill_53178_5 ?_
      refine z_iload_n C rfl dJ7_fill_53178_6 ?_
      refine z_icmp_ge 20 C dJ7_fill_53178_7 (by decide) (fun c7 => ?_) (fun c7 => ?_)
      · exact absurd c7 (nI_ge hin h31)
      · refine z_aload_n C rfl dJ7_fill_53178_10 ?_
        refine z_iload_n C rfl dJ7_fill_53178_11 ?_
        refine z_iload_n C rfl dJ7_fill_53178_12 ?_
        refine z_iastore C hk (by show vp_in _ (mN S a); rw [hn]; exact vp_in_nI hin h31) dJ7_fill_53178_13 ?_
        refine z_mem ((congrArg (fun z => eI (eR S a (fun j => if j < i then v else tI S a j)) a z _) (nI_clamp (by omega))).trans (eI_eR S a i _ _)) ?_
        refine z_inc (1) [_, _, _, _] C rfl (by decide) (by decide) rfl dJ7_fill_53178_14 ?_
        refine z_goto 5 C dJ7_fill_53178_17 (by decide) ?_
        have q := ih (i + 1) (by omega)
        rw [nI_succ] at q
        have e : up1 (fun j => if j < i then v else tI S a j) i v = (fun j => if j < i + 1 then v else tI S a j) := by
          funext j
          by_cases hj : j = i
          · subst hj; rw [up1_self, if_pos (Nat.lt_succ_self j)]
          · rw [up1_ne hj]
            by_cases hlt : j < i
            · rw [if_pos hlt, if_pos (by omega)]
            · rw [if_neg hlt, if_neg (by omega)]
        rw [e]
        exact q
  refine z_iconst 0 (by decide) C dJ7_fill_53178_0 ?_
  refine z_istore_n [_, _, _, _] C (by decide) rfl dJ7_fill_53178_1 ?_
  refine z_aload_n C rfl dJ7_fill_53178_2 ?_
  refine z_alen_i (v := nI n) C hk (by rw [hn]; rfl) dJ7_fill_53178_3 ?_
  refine z_istore_n [_, _, _, _] C (by decide) rfl dJ7_fill_53178_4 ?_
  refine z_mem (S' := (eR S a (fun j => if j < 0 then v else tI S a j))) ((eR_self S a).trans (congrArg (eR S a) (funext fun j => (if_neg (Nat.not_lt_zero j)).symm))) ?_
  exact loop n 0 (by omega)
set_option maxRecDepth 100000 in
set_option maxHeartbeats 4000000 in
theorem C_fillByRounds {l : Launch} (hl0 : l.stackTraces = false) {D : ZD} {lk : ZL} {as : Nat → Nat} {S : ZM} {L : Nat → Nat} (hX0 : cX D lk as S L) : zMet l yX4_fillByRounds (Cond.code yX4_fillByRounds cX4_fillByRounds 6 none :: LWc) ({ frames := 43, cells := 0, slots := 0, locals := 956 } : Room) 0 0 [zr (some (L 0))] S (zPo (fun v S' => v = none ∧ ∃ K : Nat → Int32, S' = eR S (L 7) K ∧ ∀ l : Nat, l < dL D → K l = fixD D l) (fun _ _ => False)) := by
  refine zMet.of' [some (zr (some (L 0))), none, none, none, none, none] hl0 (by decide) rfl (Nat.le_of_ble_eq_true rfl) rfl ?_
  intro X C N hR hN0 hX F
  subst hX
  obtain ⟨-, -, -, -, -, ⟨hN, hWR, -⟩, -, -, hO, hA⟩ := id hX0
  have hL8 : dL D ≤ 8 := hN.2.2.2.2
  have h40 : dR D ≤ 40 := hN.2.2.1.2
  have hOl : ∀ {i : Nat}, i < dL D → ix (D 58 i) < dR D := fun h => hO.lt h40 h
  obtain ⟨rk, hrk, hAc⟩ := id hA
  have hXK : ∀ K : Nat → Int32, cX D lk as (eR S (L 7) K) L := fun K => hX0.eR hX0.1.br.2.1 K
  have loop : ∀ (m r : Nat) (K : Nat → Int32) (c : Int32) (w3 w4 w5 : Option ZV), r + m = 9 → (∀ l : Nat, l < 8 → subD D (K l)) ∧ (∀ l : Nat, l < 8 → dL D ≤ l → K l = 0) ∧ (∀ l : Nat, l < dL D → rk l < r → K l = fixD D l) ∧ (c = 0 → ∀ l : Nat, l < dL D → K l = chD D K l) → zW X 6 0 0 (eR S (L 7) K) 12 [some (zr (some (L 0))), some (zi c), some (zi (nI r)), w3, w4, w5] [] := by
    intro m
    induction m with
    | zero =>
      intro r K c w3 w4 w5 hr hI
      obtain rfl : r = 9 := by omega
      have hX := hXK K
      refine z_iload_n C rfl dX4_fillByRounds_12 ?_
      refine z_if_eq 93 C dX4_fillByRounds_13 (by decide) (fun c13 => ?_) (fun c13 => ?_)
      · refine z_return C F (Nat.le_of_ble_eq_true rfl) (Nat.le_of_ble_eq_true rfl) dX4_fillByRounds_93 ?_
        first | exact ⟨rfl, K, rfl, fixD_one hWR hL8 h40 hO hA (hI.2.2.2 c13)⟩ | exact ⟨rfl, K, rfl, fun l hl => hI.2.2.1 l hl (by have := hrk l hl; omega)⟩
      · refine z_iload_n C rfl dX4_fillByRounds_16 ?_
        refine z_bipush 8 (by decide) C dX4_fillByRounds_17 ?_
        refine z_icmp_gt 93 C dX4_fillByRounds_19 (by decide) (fun c19 => ?_) (fun c19 => ?_)
        · refine z_return C F (Nat.le_of_ble_eq_true rfl) (Nat.le_of_ble_eq_true rfl) dX4_fillByRounds_93 ?_
          first | exact ⟨rfl, K, rfl, fixD_one hWR hL8 h40 hO hA (hI.2.2.2 c13)⟩ | exact ⟨rfl, K, rfl, fun l hl => hI.2.2.1 l hl (by have := hrk l hl; omega)⟩
        · exact absurd (by decide) c19
    | succ m ihm =>
      intro r K c w3 w4 w5 hr hI0
      have hr9 : r < 9 := by omega
      have inner : ∀ (n i : Nat) (K : Nat → Int32) (c : Int32) (w4 w5 : Option ZV), i + n = 8 → ivB D rk K c r i → zW X 6 0 0 (eR S (L 7) K) 26 [some (zr (some (L 0))), some (zi c), some (zi (nI r)), some (zi (nI i)), w4, w5] [] := by
        intro n
        induction n with
        | zero =>
          intro i K c w4 w5 hi hI
          obtain rfl : i = 8 := by omega
          have hX := hXK K
          refine z_iload_n C rfl dX4_fillByRounds_26 ?_
          refine z_bipush 8 (by decide) C dX4_fillByRounds_27 ?_
          refine z_icmp_ge 87 C dX4_fillByRounds_29 (by decide) (fun c29 => ?_) (fun c29 => ?_)
          · refine z_inc (1) [_, _, _, _, _, _] C rfl (by decide) (by decide) rfl dX4_fillByRounds_87 ?_
            refine z_goto 12 C dX4_fillByRounds_90 (by decide) ?_
            have q := ihm (r + 1) K c (some (zi (nI 8))) w4 w5 (by omega) (ivB_next hI hL8)
            rw [nI_succ] at q
            exact q
          · exact absurd (by decide) c29
        | succ n ih =>
          intro i K c w4 w5 hi hI
          have hX := hXK K
          have hi8 : i < 8 := by omega
          have hKl : tI (eR S (L 7) K) (L 7) = K := up1_self
          have hfx : i < dL D → rk i ≤ r → chD D K i = fixD D i := fun hl hk => by
            rw [fixD_eq hWR hL8 h40 hO hA hl]
            exact chD_cong hWR hL8 h40 hO hl (fun l2 h2 hb => by have h3 := hAc i l2 hl h2 hb; exact hI.2.2.1 l2 h3.1 (Or.inl (by omega)))
          have fin : ∀ (K : Nat → Int32) (c : Int32) (w4 w5 : Option ZV), ivB D rk K c r (i + 1) → zW X 6 0 0 (eR S (L 7) K) 26 [some (zr (some (L 0))), some (zi c), some (zi (nI r)), some (zi (nI i + 1)), w4, w5] [] := by
            intro K c w4 w5 e
            have q := ih (i + 1) K c w4 w5 (by omega) e
            rw [nI_succ] at q
            exact q
          refine z_iload_n C rfl dX4_fillByRounds_26 ?_
          refine z_bipush 8 (by decide) C dX4_fillByRounds_27 ?_
          refine z_icmp_ge 87 C dX4_fillByRounds_29 (by decide) (fun c29 => ?_) (fun c29 => ?_)
          · exact absurd c29 (n8 hi8)
          · refine z_aload_n C rfl dX4_fillByRounds_32 ?_
            refine z_iload_n C rfl dX4_fillByRounds_33 ?_
            refine z_callC 1 [zi (nI i)] C rfl (C_listOrNull hl0 hX.1 (nI i)) rfl (zgoodV LWc_good wc125 wc126 wc127 wc58 wc128) rfl rfl rfl (by decide +kernel) rfl (by rw [hR]; exact ⟨Nat.le_of_ble_eq_true rfl, Nat.le_of_ble_eq_true rfl⟩) hX.1.c (by rw [hR]; exact ⟨Nat.le_of_ble_eq_true rfl, Nat.le_of_ble_eq_true rfl⟩) (Nat.le_of_ble_eq_true rfl) dX4_fillByRounds_34 (fun v34 S34 h34 => ?_) (fun E34 S34 h34 => ?_)
            · obtain ⟨rfl, q34⟩ := h34
              subst S34
              refine z_ref (cAt_nI hi8 (by decide)) ?_
              refine z_astore [_, _, _, _, _, _] C (by decide) rfl dX4_fillByRounds_37 ?_
              refine z_aload C rfl dX4_fillByRounds_39 ?_
              refine z_ifnonnull 48 C dX4_fillByRounds_41 (by decide) (fun a41 c41 => ?_) (fun c41 => ?_)
              · have hli : i < dL D := by
                  rcases Nat.lt_or_ge i (dL D) with q | q
                  · exact q
                  · rw [hX.2.2.2.2.1.1 i hi8 q] at c41; cases c41
                obtain ⟨a9, e9⟩ : ∃ z, z = a41 := ⟨_, rfl⟩
                subst e9
                have hrd := hOl hli
                have hdeps : ∀ l2 : Nat, l2 < 8 → hasB (lsD D (ix (D 58 i))) (nI l2) = true → subD D (tI (eR S (L 7) K) (L 7) l2) := fun l2 h2 _ => by rw [hKl]; exact hI.1 l2 h2
                refine z_aload_n C rfl dX4_fillByRounds_48 ?_
                refine z_aload C rfl dX4_fillByRounds_49 ?_
                refine z_ref c41 ?_
                refine z_aload_n C rfl dX4_fillByRounds_51 ?_
                refine zg4_byRounds C (fun w h => List.mem_cons_of_mem _ (uc_wsX40 w h)) hX.1.c (List.mem_cons_of_mem _ wc46) dX4_fillByRounds_52 ?_
                refine z_ref hX.1.br.1 ?_
                refine z_callC 2 [zr (some a9), zr (some (L 7))] C rfl (C_chosen hl0 hX.1 hX.2.1 hX.2.2.1 hX.2.2.2.1 hX.2.2.2.2.1 hX.2.2.2.2.2.1 hX.2.2.2.2.2.2.1 hX.2.2.2.2.2.2.2.1 (sa := L 7) hX.1.br.2.1 hX.1.br.2.2 hli c41 hrd hdeps) rfl (zgoodV LWc_good wc129 wc130 wc131 wc58 wc132) rfl rfl rfl (by decide +kernel) rfl (by rw [hR]; exact ⟨Nat.le_of_ble_eq_true rfl, Nat.le_of_ble_eq_true rfl⟩) hX.1.c (by rw [hR]; exact ⟨Nat.le_of_ble_eq_true rfl, Nat.le_of_ble_eq_true rfl⟩) (Nat.le_of_ble_eq_true rfl) dX4_fillByRounds_55 (fun v55 S55 h55 => ?_) (fun E55 S55 h55 => ?_)
                · obtain ⟨rfl, q55⟩ := h55
                  subst S55
                  refine z_int (x' := chD D K i) (by rw [hKl]) ?_
                  refine z_istore [_, _, _, _, _, _] C (by decide) rfl dX4_fillByRounds_58 ?_
                  
                  refine z_iload C rfl dX4_fillByRounds_60 ?_
                  refine z_aload_n C rfl dX4_fillByRounds_62 ?_
                  refine zg4_byRounds C (fun w h => List.mem_cons_of_mem _ (uc_wsX40 w h)) hX.1.c (List.mem_cons_of_mem _ wc46) dX4_fillByRounds_63 ?_
                  refine z_ref hX.1.br.1 ?_
                  refine z_iload_n C rfl dX4_fillByRounds_66 ?_
                  refine z_iaload C hX.1.br.2.1 (by rw [hX.1.br.2.2]; exact vp_in_nI hi8 (by decide)) dX4_fillByRounds_67 ?_
                  refine z_int (x' := K i) (by rw [hKl, nI_clamp (by omega)]) ?_
                  refine z_icmp_eq 81 C dX4_fillByRounds_68 (by decide) (fun c68 => ?_) (fun c68 => ?_)
                  · refine z_inc (1) [_, _, _, _, _, _] C rfl (by decide) (by decide) rfl dX4_fillByRounds_81 ?_
                    refine z_goto 26 C dX4_fillByRounds_84 (by decide) ?_
                    first | exact fin _ _ _ _ (ivB_same hI (fun q => (absurd (c41 : tQ (eR S (L 7) K) (L 4) i = none) (by obtain ⟨a8, r8, e8, -⟩ := hX.2.2.2.2.1.2 i q; rw [e8]; exact fun h => by cases h))) hfx) | exact fin _ _ _ _ (ivB_same hI (fun _ => c68.symm) hfx) | exact fin _ _ _ _ (ivB_new hI hli (hfx hli)) | exact absurd (hI.2.1 i hi8 (by rcases Nat.lt_or_ge i (dL D) with q | q; exact (absurd (c41 : tQ (eR S (L 7) K) (L 4) i = none) (by obtain ⟨a8, r8, e8, -⟩ := hX.2.2.2.2.1.2 i q; rw [e8]; exact fun h => by cases h)); exact q)).symm c68
                  · refine z_aload_n C rfl dX4_fillByRounds_71 ?_
                    refine zg4_byRounds C (fun w h => List.mem_cons_of_mem _ (uc_wsX40 w h)) hX.1.c (List.mem_cons_of_mem _ wc46) dX4_fillByRounds_72 ?_
                    refine z_ref hX.1.br.1 ?_
                    refine z_iload_n C rfl dX4_fillByRounds_75 ?_
                    refine z_iload C rfl dX4_fillByRounds_76 ?_
                    refine z_iastore C hX.1.br.2.1 (by rw [hX.1.br.2.2]; exact vp_in_nI hi8 (by decide)) dX4_fillByRounds_78 ?_
                    refine z_mem ((congrArg (fun z => eI (eR S (L 7) K) (L 7) z _) (nI_clamp (by omega))).trans (eI_eR S (L 7) i K _)) ?_
                    refine z_iconst 1 (by decide) C dX4_fillByRounds_79 ?_
                    refine z_istore_n [_, _, _, _, _, _] C (by decide) rfl dX4_fillByRounds_80 ?_
                    refine z_inc (1) [_, _, _, _, _, _] C rfl (by decide) (by decide) rfl dX4_fillByRounds_81 ?_
                    refine z_goto 26 C dX4_fillByRounds_84 (by decide) ?_
                    first | exact fin _ _ _ _ (ivB_same hI (fun q => (absurd (c41 : tQ (eR S (L 7) K) (L 4) i = none) (by obtain ⟨a8, r8, e8, -⟩ := hX.2.2.2.2.1.2 i q; rw [e8]; exact fun h => by cases h))) hfx) | exact fin _ _ _ _ (ivB_same hI (fun _ => c68.symm) hfx) | exact fin _ _ _ _ (ivB_new hI hli (hfx hli)) | exact absurd (hI.2.1 i hi8 (by rcases Nat.lt_or_ge i (dL D) with q | q; exact (absurd (c41 : tQ (eR S (L 7) K) (L 4) i = none) (by obtain ⟨a8, r8, e8, -⟩ := hX.2.2.2.2.1.2 i q; rw [e8]; exact fun h => by cases h)); exact q)).symm c68
                · exact h55.elim
              · refine z_iconst 0 (by decide) C dX4_fillByRounds_44 ?_
                refine z_goto 58 C dX4_fillByRounds_45 (by decide) ?_
                refine z_istore [_, _, _, _, _, _] C (by decide) rfl dX4_fillByRounds_58 ?_
                
                refine z_iload C rfl dX4_fillByRounds_60 ?_
                refine z_aload_n C rfl dX4_fillByRounds_62 ?_
                refine zg4_byRounds C (fun w h => List.mem_cons_of_mem _ (uc_wsX40 w h)) hX.1.c (List.mem_cons_of_mem _ wc46) dX4_fillByRounds_63 ?_
                refine z_ref hX.1.br.1 ?_
                refine z_iload_n C rfl dX4_fillByRounds_66 ?_
                refine z_iaload C hX.1.br.2.1 (by rw [hX.1.br.2.2]; exact vp_in_nI hi8 (by decide)) dX4_fillByRounds_67 ?_
                refine z_int (x' := K i) (by rw [hKl, nI_clamp (by omega)]) ?_
                refine z_icmp_eq 81 C dX4_fillByRounds_68 (by decide) (fun c68 => ?_) (fun c68 => ?_)
                · refine z_inc (1) [_, _, _, _, _, _] C rfl (by decide) (by decide) rfl dX4_fillByRounds_81 ?_
                  refine z_goto 26 C dX4_fillByRounds_84 (by decide) ?_
                  first | exact fin _ _ _ _ (ivB_same hI (fun q => (absurd (c41 : tQ (eR S (L 7) K) (L 4) i = none) (by obtain ⟨a8, r8, e8, -⟩ := hX.2.2.2.2.1.2 i q; rw [e8]; exact fun h => by cases h))) hfx) | exact fin _ _ _ _ (ivB_same hI (fun _ => c68.symm) hfx) | exact fin _ _ _ _ (ivB_new hI hli (hfx hli)) | exact absurd (hI.2.1 i hi8 (by rcases Nat.lt_or_ge i (dL D) with q | q; exact (absurd (c41 : tQ (eR S (L 7) K) (L 4) i = none) (by obtain ⟨a8, r8, e8, -⟩ := hX.2.2.2.2.1.2 i q; rw [e8]; exact fun h => by cases h)); exact q)).symm c68
                · refine z_aload_n C rfl dX4_fillByRounds_71 ?_
                  refine zg4_byRounds C (fun w h => List.mem_cons_of_mem _ (uc_wsX40 w h)) hX.1.c (List.mem_cons_of_mem _ wc46) dX4_fillByRounds_72 ?_
                  refine z_ref hX.1.br.1 ?_
                  refine z_iload_n C rfl dX4_fillByRounds_75 ?_
                  refine z_iload C rfl dX4_fillByRounds_76 ?_
                  refine z_iastore C hX.1.br.2.1 (by rw [hX.1.br.2.2]; exact vp_in_nI hi8 (by decide)) dX4_fillByRounds_78 ?_
                  refine z_mem ((congrArg (fun z => eI (eR S (L 7) K) (L 7) z _) (nI_clamp (by omega))).trans (eI_eR S (L 7) i K _)) ?_
                  refine z_iconst 1 (by decide) C dX4_fillByRounds_79 ?_
                  refine z_istore_n [_, _, _, _, _, _] C (by decide) rfl dX4_fillByRounds_80 ?_
                  refine z_inc (1) [_, _, _, _, _, _] C rfl (by decide) (by decide) rfl dX4_fillByRounds_81 ?_
                  refine z_goto 26 C dX4_fillByRounds_84 (by decide) ?_
                  first | exact fin _ _ _ _ (ivB_same hI (fun q => (absurd (c41 : tQ (eR S (L 7) K) (L 4) i = none) (by obtain ⟨a8, r8, e8, -⟩ := hX.2.2.2.2.1.2 i q; rw [e8]; exact fun h => by cases h))) hfx) | exact fin _ _ _ _ (ivB_same hI (fun _ => c68.symm) hfx) | exact fin _ _ _ _ (ivB_new hI hli (hfx hli)) | exact absurd (hI.2.1 i hi8 (by rcases Nat.lt_or_ge i (dL D) with q | q; exact (absurd (c41 : tQ (eR S (L 7) K) (L 4) i = none) (by obtain ⟨a8, r8, e8, -⟩ := hX.2.2.2.2.1.2 i q; rw [e8]; exact fun h => by cases h)); exact q)).symm c68
            · exact h34.elim
      have hX := hXK K
      refine z_iload_n C rfl dX4_fillByRounds_12 ?_
      refine z_if_eq 93 C dX4_fillByRounds_13 (by decide) (fun c13 => ?_) (fun c13 => ?_)
      · refine z_return C F (Nat.le_of_ble_eq_true rfl) (Nat.le_of_ble_eq_true rfl) dX4_fillByRounds_93 ?_
        first | exact ⟨rfl, K, rfl, fixD_one hWR hL8 h40 hO hA (hI0.2.2.2 c13)⟩ | exact absurd c19 (Int32.not_lt.mpr (nI_le (b := 8) (by omega) (by decide)))
      · refine z_iload_n C rfl dX4_fillByRounds_16 ?_
        refine z_bipush 8 (by decide) C dX4_fillByRounds_17 ?_
        refine z_icmp_gt 93 C dX4_fillByRounds_19 (by decide) (fun c19 => ?_) (fun c19 => ?_)
        · refine z_return C F (Nat.le_of_ble_eq_true rfl) (Nat.le_of_ble_eq_true rfl) dX4_fillByRounds_93 ?_
          first | exact ⟨rfl, K, rfl, fixD_one hWR hL8 h40 hO hA (hI0.2.2.2 c13)⟩ | exact absurd c19 (Int32.not_lt.mpr (nI_le (b := 8) (by omega) (by decide)))
        · refine z_iconst 0 (by decide) C dX4_fillByRounds_22 ?_
          refine z_istore_n [_, _, _, _, _, _] C (by decide) rfl dX4_fillByRounds_23 ?_
          refine z_iconst 0 (by decide) C dX4_fillByRounds_24 ?_
          refine z_istore_n [_, _, _, _, _, _] C (by decide) rfl dX4_fillByRounds_25 ?_
          exact inner 8 0 K 0 w4 w5 rfl ⟨hI0.1, hI0.2.1, fun l hl q => hI0.2.2.1 l hl (by rcases q with q | q; exact q; exact absurd q.2 (Nat.not_lt_zero _)), fun _ l _ q => absurd q (Nat.not_lt_zero _)⟩
  have hX := hX0
  refine z_aload_n C rfl dX4_fillByRounds_0 ?_
  refine zg4_byRounds C (fun w h => List.mem_cons_of_mem _ (uc_wsX40 w h)) hX.1.c (List.mem_cons_of_mem _ wc46) dX4_fillByRounds_1 ?_
  refine z_ref hX.1.br.1 ?_
  refine z_iconst 0 (by decide) C dX4_fillByRounds_4 ?_
  refine z_callS 2 [zr (some (L 7)), zi 0] C (C_afill hl0 hX0.1.br.2.1 hX0.1.br.2.2 (by decide) 0) rfl (zgoodS LWc_good wc228 wc229 wc230 wc231) rfl rfl rfl (by decide +kernel) rfl (by rw [hR]; exact ⟨Nat.le_of_ble_eq_true rfl, Nat.le_of_ble_eq_true rfl⟩) (by rw [hR]; exact ⟨Nat.le_of_ble_eq_true rfl, Nat.le_of_ble_eq_true rfl⟩) (Nat.le_of_ble_eq_true rfl) dX4_fillByRounds_5 (fun v5 S5 h5 => ?_) (fun E5 S5 h5 => ?_)
  · obtain ⟨rfl, q5⟩ := h5
    subst S5
    refine z_iconst 1 (by decide) C dX4_fillByRounds_8 ?_
    refine z_istore_n [_, _, _, _, _, _] C (by decide) rfl dX4_fillByRounds_9 ?_
    refine z_iconst 0 (by decide) C dX4_fillByRounds_10 ?_
    refine z_istore_n [_, _, _, _, _, _] C (by decide) rfl dX4_fillByRounds_11 ?_
    exact loop 9 0 _ 1 none none none rfl ⟨fun l hl => by rw [if_pos hl]; exact subD_0 D, fun l hl _ => if_pos hl, fun l _ q => absurd q (Nat.not_lt_zero _), fun q => absurd q (by decide)⟩
  · exact h5.elim
