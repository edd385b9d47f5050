/-! the class: lists brought up to date, lists filled in rounds -/
/-- how many of the first rows differ -/
def tcF (K K' : Nat → Int32) : Nat → Int32
  | 0 => 0
  | i + 1 => if K' i = K i then tcF K K' i else tcF K K' i + 1
theorem sI_sI (S : ZM) (k a : Nat) (v w : Int32) : sI (sI S k a v) k a w = sI S k a w := by
  have : up2 (up2 S.2.1 k a v) k a w = up2 S.2.1 k a w := by
    funext k' a'
    by_cases hk : k' = k
    · subst hk
      by_cases ha : a' = a
      · subst ha; rw [up2_self, up2_self]
      · rw [up2_a ha, up2_a ha, up2_a ha]
    · rw [up2_k hk, up2_k hk, up2_k hk]
  show (S.1, up2 (up2 S.2.1 k a v) k a w, S.2.2) = _
  rw [this]
theorem mI_sI (S : ZM) (k a : Nat) (v : Int32) : mI (sI S k a v) k a = v := by show up2 S.2.1 k a v k a = v; exact up2_self
theorem cX.t38 {D : ZD} {lk : ZL} {as : Nat → Nat} {S : ZM} {L : Nat → Nat} (h : cX D lk as S L) (v : Int32) : cX D lk as (sI S 38 (L 0) v) L := by
  obtain ⟨h1, h2, h3, h4, h5, h6, h7, h8, h9, h10⟩ := h
  exact ⟨h1, h2, h3, h4, h5, h6, h7, h8, h9, h10⟩
/-- behind update() -/
def upS (D : ZD) (S : ZM) (L : Nat → Nat) (A1 : Nat → Int32) : ZM := sI (eR (eR S (L 6) A1) (L 5) (fKd D (tI S (L 5)))) 38 (L 0) (tcF (tI S (L 5)) (fKd D (tI S (L 5))) 8)
theorem cX.up {D : ZD} {lk : ZL} {as : Nat → Nat} {S : ZM} {L : Nat → Nat} (h : cX D lk as S L) (A1 : Nat → Int32) : cX D lk as (upS D S L A1) L := ((h.eR (a := L 6) h.1.ka.2.1 A1).eR (a := L 5) h.1.kp.2.1 _).t38 _
set_option maxRecDepth 100000 in
set_option maxHeartbeats 4000000 in
theorem C_update {l : Launch} (hl0 : l.stackTraces = false) {D : ZD} {lk : ZL} {as : Nat → Nat} {S : ZM} {L : Nat → Nat} (hX0 : cX D lk as S L) : zMet l yX4_update (Cond.code yX4_update cX4_update 2 none :: LWc) ({ frames := 44, cells := 0, slots := 0, locals := 980 } : Room) 0 0 [zr (some (L 0))] S (zPo (fun v S' => v = none ∧ ∃ A1 : Nat → Int32, S' = upS D S L A1) (fun _ _ => False)) := by
  refine zMet.of' [some (zr (some (L 0))), none] hl0 (by decide) rfl (Nat.le_of_ble_eq_true rfl) rfl ?_
  intro X C N hR hN0 hX F
  subst hX
  have loop : ∀ (A1 : Nat → Int32), (∀ i : Nat, i < 8 → A1 i = tI S (L 5) i) → ∀ (n i : Nat), i + n = 8 → zW X 2 0 0 (sI (eR (eR S (L 6) A1) (L 5) (fKd D (tI S (L 5)))) 38 (L 0) (tcF (tI S (L 5)) (fKd D (tI S (L 5))) i)) 26 [some (zr (some (L 0))), some (zi (nI i))] [] := by
    intro A1 hA1 n
    have hX2 : cX D lk as (eR (eR S (L 6) A1) (L 5) (fKd D (tI S (L 5)))) L := (hX0.eR (a := L 6) hX0.1.ka.2.1 A1).eR (a := L 5) hX0.1.kp.2.1 _
    induction n with
    | zero =>
      intro i hi
      obtain rfl : i = 8 := by omega
      have hX := hX2.t38 (tcF (tI S (L 5)) (fKd D (tI S (L 5))) 8)
      refine z_iload_n C rfl dX4_update_26 ?_
      refine z_bipush 8 (by decide) C dX4_update_27 ?_
      refine z_icmp_ge 63 C dX4_update_29 (by decide) (fun c29 => ?_) (fun c29 => ?_)
      · refine z_return C F (Nat.le_of_ble_eq_true rfl) (Nat.le_of_ble_eq_true rfl) dX4_update_63 ?_
        exact ⟨rfl, A1, rfl⟩
      · exact absurd (by decide) c29
    | succ n ih =>
      intro i hi
      have hi8 : i < 8 := by omega
      have hX := hX2.t38 (tcF (tI S (L 5)) (fKd D (tI S (L 5))) i)
      have fin : ∀ r : Int32, tcF (tI S (L 5)) (fKd D (tI S (L 5))) (i + 1) = r → zW X 2 0 0 (sI (eR (eR S (L 6) A1) (L 5) (fKd D (tI S (L 5)))) 38 (L 0) r) 26 [some (zr (some (L 0))), some (zi (nI i + 1))] [] := by
        intro r e
        have q := ih (i + 1) (by omega)
        rw [e, nI_succ] at q
        exact q
      refine z_iload_n C rfl dX4_update_26 ?_
      refine z_bipush 8 (by decide) C dX4_update_27 ?_
      refine z_icmp_ge 63 C dX4_update_29 (by decide) (fun c29 => ?_) (fun c29 => ?_)
      · exact absurd c29 (n8 hi8)
      · refine z_aload_n C rfl dX4_update_32 ?_
        refine zg4_kept C (fun w h => List.mem_cons_of_mem _ (uc_wsX40 w h)) hX.1.c (List.mem_cons_of_mem _ wc44) dX4_update_33 ?_
        refine z_ref hX.1.kp.1 ?_
        refine z_iload_n C rfl dX4_update_36 ?_
        refine z_iaload C hX.1.kp.2.1 (by rw [hX.1.kp.2.2]; exact vp_in_nI hi8 (by decide)) dX4_update_37 ?_
        refine z_int (x' := fKd D (tI S (L 5)) i) (by rw [nI_clamp (by omega)]; exact congrFun up1_self i) ?_
        refine z_aload_n C rfl dX4_update_38 ?_
        refine zg4_keptAhead C (fun w h => List.mem_cons_of_mem _ (uc_wsX40 w h)) hX.1.c (List.mem_cons_of_mem _ wc45) dX4_update_39 ?_
        refine z_ref hX.1.ka.1 ?_
        refine z_iload_n C rfl dX4_update_42 ?_
        refine z_iaload C hX.1.ka.2.1 (by rw [hX.1.ka.2.2]; exact vp_in_nI hi8 (by decide)) dX4_update_43 ?_
        refine z_int (x' := tI S (L 5) i) (by rw [nI_clamp (by omega), ← hA1 i hi8]; exact (congrFun (up1_ne (fun q => absurd (hX0.1.ap 5 6 (by omega) (by omega) q.symm) (by decide))) i).trans (congrFun up1_self i)) ?_
        refine z_icmp_eq 57 C dX4_update_44 (by decide) (fun c44 => ?_) (fun c44 => ?_)
        · refine z_inc (1) [_, _] C rfl (by decide) (by decide) rfl dX4_update_57 ?_
          refine z_goto 26 C dX4_update_60 (by decide) ?_
          first | exact fin _ (if_pos c44) | exact fin _ (if_neg c44)
        · refine z_aload_n C rfl dX4_update_47 ?_
          refine z_dup rfl C dX4_update_48 ?_
          refine zg4_listsTouched C (fun w h => List.mem_cons_of_mem _ (uc_wsX40 w h)) hX.1.c (List.mem_cons_of_mem _ wc52) dX4_update_49 ?_
          refine z_int (x' := tcF (tI S (L 5)) (fKd D (tI S (L 5))) i) (mI_sI _ _ _ _) ?_
          refine z_iconst 1 (by decide) C dX4_update_52 ?_
          refine z_iadd C dX4_update_53 ?_
          refine zp4_listsTouched C (fun w h => List.mem_cons_of_mem _ (uc_wsX40 w h)) hX.1.c (List.mem_cons_of_mem _ wc52) dX4_update_54 ?_
          refine z_mem (sI_sI _ _ _ _ _) ?_
          refine z_inc (1) [_, _] C rfl (by decide) (by decide) rfl dX4_update_57 ?_
          refine z_goto 26 C dX4_update_60 (by decide) ?_
          first | exact fin _ (if_pos c44) | exact fin _ (if_neg c44)
  have hX := hX0
  refine z_aload_n C rfl dX4_update_0 ?_
  refine zg4_kept C (fun w h => List.mem_cons_of_mem _ (uc_wsX40 w h)) hX.1.c (List.mem_cons_of_mem _ wc44) dX4_update_1 ?_
  refine z_ref hX.1.kp.1 ?_
  refine z_iconst 0 (by decide) C dX4_update_4 ?_
  refine z_aload_n C rfl dX4_update_5 ?_
  refine zg4_keptAhead C (fun w h => List.mem_cons_of_mem _ (uc_wsX40 w h)) hX.1.c (List.mem_cons_of_mem _ wc45) dX4_update_6 ?_
  refine z_ref hX.1.ka.1 ?_
  refine z_iconst 0 (by decide) C dX4_update_9 ?_
  refine z_bipush 8 (by decide) C dX4_update_10 ?_
  refine z_copy C (List.mem_cons_of_mem _ wc133) (List.mem_cons_of_mem _ wc134) (List.mem_cons_of_mem _ wc135) (List.mem_cons_of_mem _ wc136) hX.1.kp.2.1 hX.1.ka.2.1 (by decide) (by decide) (by decide) (by rw [hX.1.kp.2.2]; decide) (by rw [hX.1.ka.2.2]; decide) (by rw [hR]; exact Nat.le_of_ble_eq_true rfl) (by rw [hR]; exact Nat.le_of_ble_eq_true (by decide +kernel)) dX4_update_12 ?_
  generalize hA1 : va_cpy (tI S (L 5)) (tI S (L 6)) (0 : Int32).toNatClampNeg (0 : Int32).toNatClampNeg (8 : Int32).toNatClampNeg = A1
  have hA1 : ∀ i : Nat, i < 8 → A1 i = tI S (L 5) i := fun i hi => by
    rw [← hA1]; simp only [va_cpy]; rw [if_pos ⟨Nat.zero_le _, by show i < 0 + 8; omega⟩, show (0 : Int32).toNatClampNeg = 0 by decide, Nat.zero_add, Nat.sub_zero]
  have hX1 := hX0.eR (a := L 6) hX0.1.ka.2.1 A1
  refine z_aload_n C rfl dX4_update_15 ?_
  refine z_callC 0 [] C rfl (C_fillKept hl0 hX1) rfl (zgoodV LWc_good wc137 wc138 wc139 wc58 wc140) rfl rfl rfl (by decide +kernel) rfl (by rw [hR]; exact ⟨Nat.le_of_ble_eq_true rfl, Nat.le_of_ble_eq_true rfl⟩) hX.1.c (by rw [hR]; exact ⟨Nat.le_of_ble_eq_true rfl, Nat.le_of_ble_eq_true rfl⟩) (Nat.le_of_ble_eq_true rfl) dX4_update_16 (fun v16 S16 h16 => ?_) (fun E16 S16 h16 => ?_)
  · obtain ⟨rfl, q16⟩ := h16
    rw [show tI (eR S (L 6) A1) (L 5) = tI S (L 5) from up1_ne (fun q => absurd (hX0.1.ap 5 6 (by omega) (by omega) q) (by decide))] at q16
    subst S16
    have hX := hX1.eR (a := L 5) hX0.1.kp.2.1 (fKd D (tI S (L 5)))
    refine z_aload_n C rfl dX4_update_19 ?_
    refine z_iconst 0 (by decide) C dX4_update_20 ?_
    refine zp4_listsTouched C (fun w h => List.mem_cons_of_mem _ (uc_wsX40 w h)) hX.1.c (List.mem_cons_of_mem _ wc52) dX4_update_21 ?_
    refine z_iconst 0 (by decide) C dX4_update_24 ?_
    refine z_istore_n [_, _] C (by decide) rfl dX4_update_25 ?_
    exact loop A1 hA1 8 0 rfl
  · exact h16.elim
