/-! the class: filling the kept lists, and the answers about them -/
theorem eI_eR (S : ZM) (a i : Nat) (f : Nat → Int32) (v : Int32) : eI (eR S a f) a i v = eR S a (up1 f i v) := by
  have : up2 (up1 S.2.2.2.2.2.1 a f) a i v = up1 S.2.2.2.2.2.1 a (up1 f i v) := by
    funext b j
    by_cases hb : b = a
    · subst hb
      rw [up1_self]
      by_cases hj : j = i
      · subst hj; rw [up2_self, up1_self]
      · rw [up1_ne hj]; simp only [up2, if_true, if_neg hj]; rw [up1_self]
    · rw [up1_ne hb]; simp only [up2, if_neg hb]; rw [up1_ne hb]
  show (S.1, S.2.1, S.2.2.1, S.2.2.2.1, S.2.2.2.2.1, up2 (up1 S.2.2.2.2.2.1 a f) a i v, S.2.2.2.2.2.2) = _
  rw [this]
def fKd (D : ZD) (K0 : Nat → Int32) : Nat → Int32 := fun l => if l < dL D then fixD D l else K0 l
/-- while the kept lists are filled: step j, list i -/
def ivK (D : ZD) (rk : Nat → Nat) (K0 K : Nat → Int32) (rd : Int32) (j i : Nat) : Prop := (∀ l : Nat, l < 32 → hasB rd (nI l) = true → l < dL D ∧ K l = fixD D l) ∧ (∀ l : Nat, dL D ≤ l → K l = K0 l) ∧ (∀ l : Nat, l < dL D → (rk l < j ∨ (rk l = j ∧ l < i)) → hasB rd (nI l) = true)
theorem ivK_begin (D : ZD) (rk : Nat → Nat) (K : Nat → Int32) : ivK D rk K K 0 0 0 := by
  refine ⟨fun l h q => ?_, fun _ _ => rfl, fun l _ q => ?_⟩
  · rw [hasB_0 h] at q; cases q
  · rcases q with q | q
    · exact absurd q (Nat.not_lt_zero _)
    · exact absurd q.2 (Nat.not_lt_zero _)
theorem ivK_skip {D : ZD} {rk : Nat → Nat} {K0 K : Nat → Int32} {rd : Int32} {j i : Nat} (h : ivK D rk K0 K rd j i) (hi : i < dL D → rk i = j → hasB rd (nI i) = true) : ivK D rk K0 K rd j (i + 1) := ⟨h.1, h.2.1, fun l hl hc => by
  by_cases hli : l = i ∧ rk l = j
  · obtain ⟨rfl, e⟩ := hli; exact hi hl e
  · exact h.2.2 l hl (by rcases hc with q | q; exact Or.inl q; exact Or.inr ⟨q.1, by omega⟩)⟩
theorem ivK_fill {D : ZD} {rk : Nat → Nat} {K0 K : Nat → Int32} {rd : Int32} {j i : Nat} (h : ivK D rk K0 K rd j i) (hi : i < dL D) (h8 : dL D ≤ 8) {v : Int32} (hv : v = fixD D i) : ivK D rk K0 (up1 K i v) (rd ||| bitI i) j (i + 1) := by
  refine ⟨fun l hl hb => ?_, fun l hl => ?_, fun l hl hc => ?_⟩
  · by_cases hli : l = i
    · subst hli; exact ⟨hi, by rw [up1_self]; exact hv⟩
    · rw [hasB_or hl, hasB_bit (by omega) hl] at hb
      have : hasB rd (nI l) = true := by
        rw [Bool.or_eq_true] at hb
        rcases hb with q | q
        · exact q
        · exact absurd (of_decide_eq_true q).symm hli
      rw [up1_ne hli]; exact h.1 l hl this
  · rw [up1_ne (by omega)]; exact h.2.1 l hl
  · rw [hasB_or (by omega), hasB_bit (by omega) (by omega)]
    by_cases hli : l = i
    · subst hli; simp
    · rw [h.2.2 l hl (by rcases hc with q | q; exact Or.inl q; exact Or.inr ⟨q.1, by omega⟩)]; rfl
theorem ivK_next {D : ZD} {rk : Nat → Nat} {K0 K : Nat → Int32} {rd : Int32} {j : Nat} (h : ivK D rk K0 K rd j 8) (h8 : dL D ≤ 8) : ivK D rk K0 K rd (j + 1) 0 := ⟨h.1, h.2.1, fun l hl hc => h.2.2 l hl (by
  rcases hc with q | q
  · by_cases e : rk l = j
    · exact Or.inr ⟨e, by omega⟩
    · exact Or.inl (by omega)
  · exact absurd q.2 (Nat.not_lt_zero l))⟩
theorem ivK_end {D : ZD} {rk : Nat → Nat} {K0 K : Nat → Int32} {rd : Int32} (h : ivK D rk K0 K rd 8 0) (h8 : dL D ≤ 8) (hrk : ∀ l : Nat, l < dL D → rk l < 8) : K = fKd D K0 := by
  funext l
  simp only [fKd]
  by_cases hl : l < dL D
  · rw [if_pos hl]; exact (h.1 l (by omega) (h.2.2 l hl (Or.inl (hrk l hl)))).2
  · rw [if_neg hl]; exact h.2.1 l (by omega)
/-- a list whose lists are all ready -/
theorem dep_ready {a rd : Int32} (h : a &&& (rd ^^^ (-1)) = 0) {l : Nat} (hl : l < 32) (hb : hasB a (nI l) = true) : hasB rd (nI l) = true := by
  have h1 : hasB (a &&& (rd ^^^ (-1))) (nI l) = false := by rw [h]; exact hasB_0 hl
  rw [hasB_and hl, hasB_not hl, hb] at h1
  simpa using h1
theorem dep_all {a rd : Int32} (h : ∀ l : Nat, l < 32 → hasB a (nI l) = true → hasB rd (nI l) = true) : a &&& (rd ^^^ (-1)) = 0 := by
  refine hasB_ext fun l hl => ?_
  rw [hasB_and hl, hasB_not hl, hasB_0 hl]
  cases hb : hasB a (nI l) with
  | false => rfl
  | true => rw [h l hl hb]; rfl
/-- the lists of a rule have numbers below 8 -/
theorem lsR_8 {D : ZD} (hR : wfR D) (hL : dL D ≤ 8) (hn : dR D ≤ 40) : ∀ (f r : Nat), r < dR D → ∀ l : Nat, l < 32 → hasB (lsR D f r) (nI l) = true → l < dL D
  | 0, _, _, l, hl, h => by rw [lsR, hasB_0 hl] at h; cases h
  | f + 1, r, hr, l, hl, h => by
    rw [lsR] at h
    by_cases h5 : D 53 r = 5
    · rw [if_pos h5] at h
      obtain ⟨l2, hl2, el⟩ := (hR r hr).2.2.1 h5
      rw [el] at h
      have h : hasB (bitI l2) (nI l) = true := h
      rw [hasB_bit (by omega) hl] at h
      have := of_decide_eq_true h; omega
    rw [if_neg h5] at h
    by_cases h67 : D 53 r = 6 ∨ D 53 r = 7
    · rw [if_pos h67] at h
      obtain ⟨a, b, ha, hb, e1, e2⟩ := (hR r hr).2.2.2 (by rcases h67 with q | q <;> simp [q])
      rw [e1, e2, ix, ix, nI_clamp (by omega), nI_clamp (by omega), hasB_or hl, Bool.or_eq_true] at h
      rcases h with h | h
      · exact lsR_8 hR hL hn f a (by omega) l hl h
      · exact lsR_8 hR hL hn f b (by omega) l hl h
    rw [if_neg h67] at h
    by_cases h8 : D 53 r = 8
    · rw [if_pos h8] at h
      obtain ⟨a, b, ha, hb, e1, e2⟩ := (hR r hr).2.2.2 (by simp [h8])
      rw [e1, ix, nI_clamp (by omega)] at h
      exact lsR_8 hR hL hn f a (by omega) l hl h
    · rw [if_neg h8, hasB_0 hl] at h; cases h
theorem rR.ls {D : ZD} {as : Nat → Nat} {S : ZM} {L : Nat → Nat} (h : rR D as S L) {r a : Nat} (hr : r < dR D) (ha : tQ S (L 3) r = some a) : mK S a = 3 ∧ mI S 9 a = lsD D r ∧ mI S 3 a = nI r := by
  obtain ⟨b, e, h1, h2, -, -, -, -, -, h3⟩ := h.2 r hr
  rw [e] at ha; cases ha; exact ⟨h1, h3, h2⟩
set_option maxRecDepth 100000 in
set_option maxHeartbeats 4000000 in
theorem C_fillKept {l : Launch} (hl0 : l.stackTraces = false) {D : ZD} {lk : ZL} {as : Nat → Nat} {S : ZM} {L : Nat → Nat} (hX0 : cX D lk as S L) : zMet l yX4_fillKept (Cond.code yX4_fillKept cX4_fillKept 5 none :: LWc) ({ frames := 43, cells := 0, slots := 0, locals := 956 } : Room) 0 0 [zr (some (L 0))] S (zPo (fun v S' => v = none ∧ S' = eR S (L 5) (fKd D (tI S (L 5)))) (fun _ _ => False)) := by
  refine zMet.of' [some (zr (some (L 0))), none, none, none, none] hl0 (by decide) rfl (Nat.le_of_ble_eq_true rfl) rfl ?_
  intro X C N hR hN0 hX F
  subst hX
  obtain ⟨-, -, -, -, -, ⟨hN, hWR, -⟩, -, -, hO, hA⟩ := id hX0
  have hL8 : dL D ≤ 8 := hN.2.2.2.2
  have h40 : dR D ≤ 40 := hN.2.2.1.2
  have hOl : ∀ {i : Nat}, i < dL D → ix (D 58 i) < dR D := fun h => hO.lt h40 h
  obtain ⟨rk, hrk, hAc⟩ := id hA
  have hXK : ∀ K : Nat → Int32, cX D lk as (eR S (L 5) K) L := fun K => hX0.eR hX0.1.kp.2.1 K
  have loop : ∀ (m j : Nat) (K : Nat → Int32) (rd : Int32) (w3 w4 : Option ZV), j + m = 8 → ivK D rk (tI S (L 5)) K rd j 0 → zW X 5 0 0 (eR S (L 5) K) 4 [some (zr (some (L 0))), some (zi (rd)), some (zi (nI j)), w3, w4] [] := by
    intro m
    induction m with
    | zero =>
      intro j K rd w3 w4 hj hI
      obtain rfl : j = 8 := by omega
      have hX := hXK K
      refine z_iload_n C rfl dX4_fillKept_4 ?_
      refine z_bipush 8 (by decide) C dX4_fillKept_5 ?_
      refine z_icmp_ge 87 C dX4_fillKept_7 (by decide) (fun c7 => ?_) (fun c7 => ?_)
      · refine z_return C F (Nat.le_of_ble_eq_true rfl) (Nat.le_of_ble_eq_true rfl) dX4_fillKept_87 ?_
        exact ⟨rfl, by rw [← ivK_end hI hL8 hrk]⟩
      · exact absurd (by decide) c7
    | succ m ihm =>
      intro j K rd w3 w4 hj hI0
      have inner : ∀ (n i : Nat) (K : Nat → Int32) (rd : Int32) (w4 : Option ZV), i + n = 8 → ivK D rk (tI S (L 5)) K rd j i → zW X 5 0 0 (eR S (L 5) K) 12 [some (zr (some (L 0))), some (zi (rd)), some (zi (nI j)), some (zi (nI i)), w4] [] := by
        intro n
        induction n with
        | zero =>
          intro i K rd w4 hi hI
          obtain rfl : i = 8 := by omega
          have hX := hXK K
          refine z_iload_n C rfl dX4_fillKept_12 ?_
          refine z_bipush 8 (by decide) C dX4_fillKept_13 ?_
          refine z_icmp_ge 81 C dX4_fillKept_15 (by decide) (fun c15 => ?_) (fun c15 => ?_)
          · refine z_inc (1) [_, _, _, _, _] C rfl (by decide) (by decide) rfl dX4_fillKept_81 ?_
            refine z_goto 4 C dX4_fillKept_84 (by decide) ?_
            have q := ihm (j + 1) K rd (some (zi (nI 8))) w4 (by omega) (ivK_next hI hL8)
            rw [nI_succ] at q
            exact q
          · exact absurd (by decide) c15
        | succ n ih =>
          intro i K rd w4 hi hI
          have hX := hXK K
          have hi8 : i < 8 := by omega
          have fin : ∀ (K : Nat → Int32) (rd : Int32) (w4 : Option ZV), ivK D rk (tI S (L 5)) K rd j (i + 1) → zW X 5 0 0 (eR S (L 5) K) 12 [some (zr (some (L 0))), some (zi (rd)), some (zi (nI j)), some (zi (nI i + 1)), w4] [] := by
            intro K rd w4 e
            have q := ih (i + 1) K rd w4 (by omega) e
            rw [nI_succ] at q
            exact q
          refine z_iload_n C rfl dX4_fillKept_12 ?_
          refine z_bipush 8 (by decide) C dX4_fillKept_13 ?_
          refine z_icmp_ge 81 C dX4_fillKept_15 (by decide) (fun c15 => ?_) (fun c15 => ?_)
          · exact absurd c15 (n8 hi8)
          · refine z_aload_n C rfl dX4_fillKept_18 ?_
            refine z_iload_n C rfl dX4_fillKept_19 ?_
            refine z_callC 1 [zi (nI i)] C rfl (C_listOrNull hl0 hX.1 (nI i)) rfl (zgoodV LWc_good wc125 wc126 wc127 wc58 wc128) rfl rfl rfl (by decide +kernel) rfl (by rw [hR]; exact ⟨Nat.le_of_ble_eq_true rfl, Nat.le_of_ble_eq_true rfl⟩) hX.1.c (by rw [hR]; exact ⟨Nat.le_of_ble_eq_true rfl, Nat.le_of_ble_eq_true rfl⟩) (Nat.le_of_ble_eq_true rfl) dX4_fillKept_20 (fun v20 S20 h20 => ?_) (fun E20 S20 h20 => ?_)
            · obtain ⟨rfl, q20⟩ := h20
              subst S20
              refine z_ref (cAt_nI hi8 (by decide)) ?_
              refine z_astore [_, _, _, _, _] C (by decide) rfl dX4_fillKept_23 ?_
              refine z_aload C rfl dX4_fillKept_25 ?_
              refine z_ifnull 75 C dX4_fillKept_27 (by decide) (fun c27 => ?_) (fun a27 c27 => ?_)
              · refine z_inc (1) [_, _, _, _, _] C rfl (by decide) (by decide) rfl dX4_fillKept_75 ?_
                refine z_goto 12 C dX4_fillKept_78 (by decide) ?_
                first | exact fin _ _ _ (ivK_skip hI (fun q _ => absurd (c27 : tQ (eR S (L 5) K) (L 4) i = none) (by obtain ⟨a8, r8, e8, -⟩ := hX.2.2.2.2.1.2 i q; rw [e8]; exact fun h => by cases h))) | exact fin _ _ _ (ivK_fill hI hli hL8 hv) | exact fin _ _ _ (ivK_skip hI (fun q e => absurd (dep_all (fun l2 h2 hb => by have h3 := hAc i l2 q (by have := lsR_8 hWR hL8 h40 41 _ (hOl q) l2 h2 hb; omega) hb; exact hI.2.2 l2 h3.1 (Or.inl (by omega)))) c50)) | exact fin _ _ _ (ivK_skip hI (fun _ _ => bI_ne.mp c35))
              · have hli : i < dL D := by
                  rcases Nat.lt_or_ge i (dL D) with q | q
                  · exact q
                  · rw [hX.2.2.2.2.1.1 i hi8 q] at c27; cases c27
                obtain ⟨a9, r, e9, ka, hr0, hr5, -, -⟩ := hX.2.2.2.2.1.2 i hli
                have ea : a9 = a27 := by rw [e9] at c27; exact Option.some.inj c27
                subst ea
                obtain ⟨kr, hls, -⟩ := hX.2.2.2.1.ls (hOl hli) hr5
                refine z_iload_n C rfl dX4_fillKept_30 ?_
                refine z_iload_n C rfl dX4_fillKept_31 ?_
                refine z_callS 2 [zi rd, zi (nI i)] C (C_hasBit hl0 rd (nI i)) rfl (zgoodS LWc_good wc102 wc103 wc58 wc104) rfl rfl rfl (by decide +kernel) rfl (by rw [hR]; exact ⟨Nat.le_of_ble_eq_true rfl, Nat.le_of_ble_eq_true rfl⟩) (by rw [hR]; exact ⟨Nat.le_of_ble_eq_true rfl, Nat.le_of_ble_eq_true rfl⟩) (Nat.le_of_ble_eq_true rfl) dX4_fillKept_32 (fun v32 S32 h32 => ?_) (fun E32 S32 h32 => ?_)
                · obtain ⟨rfl, q32⟩ := h32
                  subst S32
                  refine z_if_ne 75 C dX4_fillKept_35 (by decide) (fun c35 => ?_) (fun c35 => ?_)
                  · refine z_inc (1) [_, _, _, _, _] C rfl (by decide) (by decide) rfl dX4_fillKept_75 ?_
                    refine z_goto 12 C dX4_fillKept_78 (by decide) ?_
                    first | exact fin _ _ _ (ivK_skip hI (fun q _ => absurd (c27 : tQ (eR S (L 5) K) (L 4) i = none) (by obtain ⟨a8, r8, e8, -⟩ := hX.2.2.2.2.1.2 i q; rw [e8]; exact fun h => by cases h))) | exact fin _ _ _ (ivK_fill hI hli hL8 hv) | exact fin _ _ _ (ivK_skip hI (fun q e => absurd (dep_all (fun l2 h2 hb => by have h3 := hAc i l2 q (by have := lsR_8 hWR hL8 h40 41 _ (hOl q) l2 h2 hb; omega) hb; exact hI.2.2 l2 h3.1 (Or.inl (by omega)))) c50)) | exact fin _ _ _ (ivK_skip hI (fun _ _ => bI_ne.mp c35))
                  · have hnr : ¬ hasB rd (nI i) = true := fun q => absurd (bI_ne.mpr q) (not_not_intro c35)
                    refine z_aload C rfl dX4_fillKept_38 ?_
                    refine z_ref c27 ?_
                    refine zg0_rule C (fun w h => List.mem_cons_of_mem _ (uc_wsX00 w h)) ka (List.mem_cons_of_mem _ wc108) dX4_fillKept_40 ?_
                    refine z_ref hr0 ?_
                    refine zg1_listSet C (fun w h => List.mem_cons_of_mem _ (uc_wsX10 w h)) kr (List.mem_cons_of_mem _ wc124) dX4_fillKept_43 ?_
                    refine z_int hls ?_
                    refine z_iload_n C rfl dX4_fillKept_46 ?_
                    refine z_iconst (-1) (by decide) C dX4_fillKept_47 ?_
                    refine z_ixor C dX4_fillKept_48 ?_
                    refine z_iand C dX4_fillKept_49 ?_
                    refine z_if_ne 75 C dX4_fillKept_50 (by decide) (fun c50 => ?_) (fun c50 => ?_)
                    · refine z_inc (1) [_, _, _, _, _] C rfl (by decide) (by decide) rfl dX4_fillKept_75 ?_
                      refine z_goto 12 C dX4_fillKept_78 (by decide) ?_
                      first | exact fin _ _ _ (ivK_skip hI (fun q _ => absurd (c27 : tQ (eR S (L 5) K) (L 4) i = none) (by obtain ⟨a8, r8, e8, -⟩ := hX.2.2.2.2.1.2 i q; rw [e8]; exact fun h => by cases h))) | exact fin _ _ _ (ivK_fill hI hli hL8 hv) | exact fin _ _ _ (ivK_skip hI (fun q e => absurd (dep_all (fun l2 h2 hb => by have h3 := hAc i l2 q (by have := lsR_8 hWR hL8 h40 41 _ (hOl q) l2 h2 hb; omega) hb; exact hI.2.2 l2 h3.1 (Or.inl (by omega)))) c50)) | exact fin _ _ _ (ivK_skip hI (fun _ _ => bI_ne.mp c35))
                    · have hdep : ∀ l2 : Nat, l2 < 32 → hasB (lsD D (ix (D 58 i))) (nI l2) = true → hasB rd (nI l2) = true := fun l2 h2 hb => dep_ready c50 h2 hb
                      have hrd := hOl hli
                      have hKl : tI (eR S (L 5) K) (L 5) = K := up1_self
                      have hdeps : ∀ l2 : Nat, l2 < 8 → hasB (lsD D (ix (D 58 i))) (nI l2) = true → subD D (tI (eR S (L 5) K) (L 5) l2) := fun l2 h2 hb => by rw [hKl, (hI.1 l2 (by omega) (hdep l2 (by omega) hb)).2]; exact subD_fix D l2
                      refine z_aload_n C rfl dX4_fillKept_53 ?_
                      refine zg4_kept C (fun w h => List.mem_cons_of_mem _ (uc_wsX40 w h)) hX.1.c (List.mem_cons_of_mem _ wc44) dX4_fillKept_54 ?_
                      refine z_ref hX.1.kp.1 ?_
                      refine z_iload_n C rfl dX4_fillKept_57 ?_
                      refine z_aload_n C rfl dX4_fillKept_58 ?_
                      refine z_aload C rfl dX4_fillKept_59 ?_
                      refine z_ref c27 ?_
                      refine z_aload_n C rfl dX4_fillKept_61 ?_
                      refine zg4_kept C (fun w h => List.mem_cons_of_mem _ (uc_wsX40 w h)) hX.1.c (List.mem_cons_of_mem _ wc44) dX4_fillKept_62 ?_
                      refine z_ref hX.1.kp.1 ?_
                      refine z_callC 2 [zr (some a9), zr (some (L 5))] C rfl (C_chosen hl0 hX.1 hX.2.1 hX.2.2.1 hX.2.2.2.1 hX.2.2.2.2.1 hX.2.2.2.2.2.1 hX.2.2.2.2.2.2.1 hX.2.2.2.2.2.2.2.1 (sa := L 5) hX.1.kp.2.1 hX.1.kp.2.2 hli c27 hrd hdeps) rfl (zgoodV LWc_good wc129 wc130 wc131 wc58 wc132) rfl rfl rfl (by decide +kernel) rfl (by rw [hR]; exact ⟨Nat.le_of_ble_eq_true rfl, Nat.le_of_ble_eq_true rfl⟩) hX.1.c (by rw [hR]; exact ⟨Nat.le_of_ble_eq_true rfl, Nat.le_of_ble_eq_true rfl⟩) (Nat.le_of_ble_eq_true rfl) dX4_fillKept_65 (fun v65 S65 h65 => ?_) (fun E65 S65 h65 => ?_)
                      · obtain ⟨rfl, q65⟩ := h65
                        subst S65
                        refine z_iastore C hX.1.kp.2.1 (by rw [hX.1.kp.2.2]; exact vp_in_nI hi8 (by decide)) dX4_fillKept_68 ?_
                        refine z_mem ((congrArg (fun z => eI (eR S (L 5) K) (L 5) z _) (nI_clamp (by omega))).trans (eI_eR S (L 5) i K _)) ?_
                        have hv : chD D (tI (eR S (L 5) K) (L 5)) i = fixD D i := by
                          rw [hKl, fixD_eq hWR hL8 h40 hO hA hli]
                          exact chD_cong hWR hL8 h40 hO hli (fun l2 h2 hb => (hI.1 l2 (by omega) (hdep l2 (by omega) hb)).2)
                        refine z_iload_n C rfl dX4_fillKept_69 ?_
                        refine z_iconst 1 (by decide) C dX4_fillKept_70 ?_
                        refine z_iload_n C rfl dX4_fillKept_71 ?_
                        refine z_ishl C dX4_fillKept_72 ?_
                        refine z_ior C dX4_fillKept_73 ?_
                        refine z_istore_n [_, _, _, _, _] C (by decide) rfl dX4_fillKept_74 ?_
                        refine z_inc (1) [_, _, _, _, _] C rfl (by decide) (by decide) rfl dX4_fillKept_75 ?_
                        refine z_goto 12 C dX4_fillKept_78 (by decide) ?_
                        first | exact fin _ _ _ (ivK_skip hI (fun q _ => absurd (c27 : tQ (eR S (L 5) K) (L 4) i = none) (by obtain ⟨a8, r8, e8, -⟩ := hX.2.2.2.2.1.2 i q; rw [e8]; exact fun h => by cases h))) | exact fin _ _ _ (ivK_fill hI hli hL8 hv) | exact fin _ _ _ (ivK_skip hI (fun q e => absurd (dep_all (fun l2 h2 hb => by have h3 := hAc i l2 q (by have := lsR_8 hWR hL8 h40 41 _ (hOl q) l2 h2 hb; omega) hb; exact hI.2.2 l2 h3.1 (Or.inl (by omega)))) c50)) | exact fin _ _ _ (ivK_skip hI (fun _ _ => bI_ne.mp c35))
                      · exact h65.elim
                · exact h32.elim
            · exact h20.elim
      have hX := hXK K
      refine z_iload_n C rfl dX4_fillKept_4 ?_
      refine z_bipush 8 (by decide) C dX4_fillKept_5 ?_
      refine z_icmp_ge 87 C dX4_fillKept_7 (by decide) (fun c7 => ?_) (fun c7 => ?_)
      · exact absurd c7 (n8 (by omega))
      · refine z_iconst 0 (by decide) C dX4_fillKept_10 ?_
        refine z_istore_n [_, _, _, _, _] C (by decide) rfl dX4_fillKept_11 ?_
        exact inner 8 0 K rd w4 rfl hI0
  refine z_iconst 0 (by decide) C dX4_fillKept_0 ?_
  refine z_istore_n [_, _, _, _, _] C (by decide) rfl dX4_fillKept_1 ?_
  refine z_iconst 0 (by decide) C dX4_fillKept_2 ?_
  refine z_istore_n [_, _, _, _, _] C (by decide) rfl dX4_fillKept_3 ?_
  refine z_mem (eR_self S (L 5)) ?_
  exact loop 8 0 _ 0 none none rfl (ivK_begin _ _ _)
