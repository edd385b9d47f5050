/-! the class: how far two names lie apart -/
def lvRow (c : Nat → Nat) (up : Nat → Nat) (a : Nat) : Nat → Nat
  | 0 => a
  | j + 1 => min (up j + c j) (min (up (j + 1)) (lvRow c up a j) + 1)
/-- the distance of the first i and the first j letters; c: what a letter's change costs -/
def lvN (c : Nat → Nat → Nat) : Nat → Nat → Nat
  | 0 => fun j => j
  | i + 1 => lvRow (c i) (lvN c i) (i + 1)
theorem lvN_0 (c : Nat → Nat → Nat) (j : Nat) : lvN c 0 j = j := rfl
theorem lvN_s0 (c : Nat → Nat → Nat) (i : Nat) : lvN c i 0 = i := by cases i <;> rfl
theorem lvN_ss (c : Nat → Nat → Nat) (i j : Nat) : lvN c (i + 1) (j + 1) = min (lvN c i j + c i j) (min (lvN c i (j + 1)) (lvN c (i + 1) j) + 1) := rfl
theorem lvN_le (c : Nat → Nat → Nat) : ∀ i j : Nat, lvN c i j ≤ i + j := by
  intro i
  cases i with
  | zero => intro j; rw [lvN_0]; omega
  | succ i =>
    intro j
    induction j with
    | zero => rw [lvN_s0]; omega
    | succ j ih => rw [lvN_ss]; omega
def cst (f g : Nat → Int32) (i j : Nat) : Nat := if f i = g j then 0 else 1
theorem cst_le (f g : Nat → Int32) (i j : Nat) : cst f g i j ≤ 1 := by unfold cst; split <;> omega
/-- the lesser of two, as the library has it -/
theorem mn_nI {a b : Nat} (ha : a < 2 ^ 31) (hb : b < 2 ^ 31) : (if nI b < nI a then nI b else nI a) = nI (min a b) := by
  by_cases h : b < a
  · rw [if_pos ((nI_ltI hb ha).2 h), Nat.min_eq_right (by omega)]
  · rw [if_neg (fun q => h ((nI_ltI hb ha).1 q)), Nat.min_eq_left (by omega)]
/-- a tag object with n letters, f -/
def tgO (S : ZM) (a n : Nat) (f : Nat → Int32) : Prop := mK S a = 4 ∧ mI S 12 a = nI n ∧ n ≤ 6 ∧ ∃ nm : Nat, mQ S 11 a = some nm ∧ mK S nm = 11 ∧ mN S nm = 6 ∧ ∀ j : Nat, j < n → tI S nm j = f j
theorem tgO.cong {S : ZM} {a n : Nat} {f g : Nat → Int32} (h : tgO S a n f) (e : ∀ j : Nat, j < n → f j = g j) : tgO S a n g := by
  obtain ⟨h1, h2, h3, nm, h4, h5, h6, h7⟩ := h
  exact ⟨h1, h2, h3, nm, h4, h5, h6, fun j hj => (h7 j hj).trans (e j hj)⟩
/-- all int rows anew -/
abbrev sT (S : ZM) (F : Nat → Nat → Int32) : ZM := (S.1, S.2.1, S.2.2.1, S.2.2.2.1, S.2.2.2.2.1, F, S.2.2.2.2.2.2)
/-- the table's rows aside, all int rows are as they were -/
def offT (S : ZM) (L : Nat → Nat) (F : Nat → Nat → Int32) : Prop := ∀ x : Nat, (∀ r : Nat, r < 7 → ¬ x = L (9 + r)) → F x = tI S x
theorem tgO.sT {S : ZM} {L : Nat → Nat} {F : Nat → Nat → Int32} {a n : Nat} {f : Nat → Int32} (hS : cS S L) (h : tgO S a n f) (hF : offT S L F) : tgO (sT S F) a n f := by
  obtain ⟨h1, h2, h3, nm, h4, h5, h6, h7⟩ := h
  refine ⟨h1, h2, h3, nm, h4, h5, h6, fun j hj => ?_⟩
  have e : F nm = tI S nm := hF nm (fun r hr q => by rw [q, (hS.dr r hr).2.1] at h5; cases h5)
  show F nm j = f j
  rw [e]; exact h7 j hj
theorem cX.sT {D : ZD} {lk : ZL} {as : Nat → Nat} {S : ZM} {L : Nat → Nat} (h : cX D lk as S L) {F : Nat → Nat → Int32} (hF : offT S L F) : cX D lk as (sT S F) L := by
  obtain ⟨h1, h2, h3, h4, h5, h6, h7, h8, h9, h10⟩ := h
  refine ⟨h1, h2, ⟨h3.1, fun i hi => ?_⟩, h4, h5, h6, h7, h8, h9, h10⟩
  obtain ⟨b, nm, k1, k2, k3, k4, k5, k6, k7, k8, k9⟩ := h3.2 i hi
  refine ⟨b, nm, k1, k2, k3, k4, k5, k6, k7, fun j hj hlt => ?_, k9⟩
  have e : F nm = tI S nm := hF nm (fun r hr q => by rw [q, (h1.dr r hr).2.1] at k5; cases k5)
  show F nm j = _
  rw [e]; exact k8 j hj hlt
/-- the table, rows before i, and of row i the places before j -/
def ivD (c : Nat → Nat → Nat) (S : ZM) (L : Nat → Nat) (n2 : Nat) (F : Nat → Nat → Int32) (i j : Nat) : Prop := offT S L F ∧ (∀ r s : Nat, r < i → s ≤ n2 → F (L (9 + r)) s = nI (lvN c r s)) ∧ (∀ s : Nat, s < j → F (L (9 + i)) s = nI (lvN c i s))
theorem ivD_row {c : Nat → Nat → Nat} {S : ZM} {L : Nat → Nat} {n2 : Nat} {F : Nat → Nat → Int32} {i : Nat} (h : ivD c S L n2 F i (n2 + 1)) : ivD c S L n2 F (i + 1) 0 := ⟨h.1, fun r s hr hs => by
  by_cases e : r = i
  · subst e; exact h.2.2 s (by omega)
  · exact h.2.1 r s (by omega) hs, fun s hs => absurd hs (Nat.not_lt_zero s)⟩
theorem ivD_put {c : Nat → Nat → Nat} {S : ZM} {L : Nat → Nat} {n2 : Nat} {F : Nat → Nat → Int32} {i j : Nat} (hS : cS S L) (hi : i < 7) (h : ivD c S L n2 F i j) : ivD c S L n2 (up2 F (L (9 + i)) j (nI (lvN c i j))) i (j + 1) := by
  refine ⟨fun x hx => ?_, fun r s hr hs => ?_, fun s hs => ?_⟩
  · rw [up2f (hx i hi)]; exact h.1 x hx
  · have hne : L (9 + r) ≠ L (9 + i) := fun q => by have := hS.ap (9 + r) (9 + i) (by omega) (by omega) q; omega
    rw [up2_k hne]; exact h.2.1 r s hr hs
  · by_cases e : s = j
    · subst e; exact up2_self
    · rw [up2_a e]; exact h.2.2 s (by omega)
def lvD (D : ZD) (p q : Nat) : Nat := lvN (cst (fun j => D 50 (6 * p + j)) (fun j => D 50 (6 * q + j))) (ix (D 49 p)) (ix (D 49 q))

set_option maxRecDepth 100000 in
set_option maxHeartbeats 4000000 in
theorem C_leastByTrying {l : Launch} (hl0 : l.stackTraces = false) {S : ZM} {a b n1 n2 : Nat} {f g : Nat → Int32} (hA0 : tgO S a n1 f) (hB0 : tgO S b n2 g) : ∀ (m i j : Nat), i + j < m → i ≤ n1 → j ≤ n2 → zMet l yX4_leastByTrying (Cond.code yX4_leastByTrying cX4_leastByTrying 8 (some .int) :: LWc) ({ frames := 1 + (i + j), cells := 0, slots := 0, locals := 24 + 27 * (i + j) } : Room) 0 0 [zr (some a), zi (nI i), zr (some b), zi (nI j)] S (zPo (fun v S' => v = some (zi (nI (lvN (cst f g) i j))) ∧ S' = S) (fun _ _ => False)) := by
  intro m
  induction m with
  | zero => intro i j h; exact absurd h (Nat.not_lt_zero _)
  | succ m ih =>
    intro i j hm hi hj
    obtain ⟨ka, la, sa, na, ea, kna, lna, ta⟩ := id hA0
    obtain ⟨kb, lb, sb, nb, eb, knb, lnb, tb⟩ := id hB0
    refine zMet.of' [some (zr (some a)), some (zi (nI i)), some (zr (some b)), some (zi (nI j)), none, none, none, none] hl0 (by decide) rfl (Nat.le_of_ble_eq_true rfl) rfl ?_
    intro X C N hR0 hN0 hX F
    subst hX
    have hR0 : xR X = { frames := 1 + (i + j), cells := 0, slots := 0, locals := 24 + 27 * (i + j) } := hR0
    cases i with
    | zero =>
      refine z_iload_n C rfl dX4_leastByTrying_0 ?_
      refine z_if_gt 6 C dX4_leastByTrying_1 (by decide) (fun c1 => ?_) (fun c1 => ?_)
      · exact absurd c1 (by decide)
      · refine z_iload_n C rfl dX4_leastByTrying_4 ?_
        refine z_ireturn C F (Nat.le_of_ble_eq_true rfl) (Nat.le_of_ble_eq_true rfl) dX4_leastByTrying_5 ?_
        exact ⟨by rw [lvN_0], rfl⟩
    | succ i =>
      cases j with
      | zero =>
        refine z_iload_n C rfl dX4_leastByTrying_0 ?_
        refine z_if_gt 6 C dX4_leastByTrying_1 (by decide) (fun c1 => ?_) (fun c1 => ?_)
        · refine z_iload_n C rfl dX4_leastByTrying_6 ?_
          refine z_if_gt 12 C dX4_leastByTrying_7 (by decide) (fun c7 => ?_) (fun c7 => ?_)
          · exact absurd c7 (by decide)
          · refine z_iload_n C rfl dX4_leastByTrying_10 ?_
            refine z_ireturn C F (Nat.le_of_ble_eq_true rfl) (Nat.le_of_ble_eq_true rfl) dX4_leastByTrying_11 ?_
            exact ⟨by rw [lvN_s0], rfl⟩
        · exact absurd (by rw [← nI_0]; exact nI_lt (by omega) (by omega)) c1
      | succ j =>
        have cont : zW X 8 0 0 S 36 [some (zr (some a)), some (zi (nI (i + 1))), some (zr (some b)), some (zi (nI (j + 1))), none, none, none, none] [zi (nI (cst f g i j))] := by
          refine z_istore [_, _, _, _, _, _, _, _] C (by decide) rfl dX4_leastByTrying_36 ?_
          refine z_aload_n C rfl dX4_leastByTrying_38 ?_
          refine z_iload_n C rfl dX4_leastByTrying_39 ?_
          refine z_iconst 1 (by decide) C dX4_leastByTrying_40 ?_
          refine z_isub C dX4_leastByTrying_41 ?_
          refine z_int (nI_pred i) ?_
          refine z_aload_n C rfl dX4_leastByTrying_42 ?_
          refine z_iload_n C rfl dX4_leastByTrying_43 ?_
          refine z_iconst 1 (by decide) C dX4_leastByTrying_44 ?_
          refine z_isub C dX4_leastByTrying_45 ?_
          refine z_int (nI_pred j) ?_
          refine z_callS 4 [zr (some a), zi (nI i), zr (some b), zi (nI j)] C (ih i j (by omega) (by omega) (by omega)) rfl (zgoodS LWc_good wc225 wc226 wc58 wc227) rfl rfl rfl (by decide +kernel) rfl (by rw [hR0]; exact ⟨by show 1 + (i + j) + 1 ≤ 1 + (i + 1 + (j + 1)); omega, by show 8 + (8 + 11) + (24 + 27 * (i + j)) ≤ 24 + 27 * (i + 1 + (j + 1)); omega⟩) (by rw [hR0]; exact ⟨Nat.le_refl 0, Nat.le_refl 0⟩) (Nat.le_of_ble_eq_true rfl) dX4_leastByTrying_46 (fun v46 S46 h46 => ?_) (fun E46 S46 h46 => ?_)
          · obtain ⟨rfl, q46⟩ := h46
            subst S46
            refine z_iload C rfl dX4_leastByTrying_49 ?_
            refine z_iadd C dX4_leastByTrying_51 ?_
            refine z_int (nI_add _ _) ?_
            refine z_istore [_, _, _, _, _, _, _, _] C (by decide) rfl dX4_leastByTrying_52 ?_
            refine z_aload_n C rfl dX4_leastByTrying_54 ?_
            refine z_iload_n C rfl dX4_leastByTrying_55 ?_
            refine z_iconst 1 (by decide) C dX4_leastByTrying_56 ?_
            refine z_isub C dX4_leastByTrying_57 ?_
            refine z_int (nI_pred i) ?_
            refine z_aload_n C rfl dX4_leastByTrying_58 ?_
            refine z_iload_n C rfl dX4_leastByTrying_59 ?_
            refine z_callS 4 [zr (some a), zi (nI i), zr (some b), zi (nI (j + 1))] C (ih i (j + 1) (by omega) (by omega) (by omega)) rfl (zgoodS LWc_good wc225 wc226 wc58 wc227) rfl rfl rfl (by decide +kernel) rfl (by rw [hR0]; exact ⟨by show 1 + (i + (j + 1)) + 1 ≤ 1 + (i + 1 + (j + 1)); omega, by show 8 + (8 + 11) + (24 + 27 * (i + (j + 1))) ≤ 24 + 27 * (i + 1 + (j + 1)); omega⟩) (by rw [hR0]; exact ⟨Nat.le_refl 0, Nat.le_refl 0⟩) (Nat.le_of_ble_eq_true rfl) dX4_leastByTrying_60 (fun v60 S60 h60 => ?_) (fun E60 S60 h60 => ?_)
            · obtain ⟨rfl, q60⟩ := h60
              subst S60
              refine z_iconst 1 (by decide) C dX4_leastByTrying_63 ?_
              refine z_iadd C dX4_leastByTrying_64 ?_
              refine z_int (nI_1 _) ?_
              refine z_istore [_, _, _, _, _, _, _, _] C (by decide) rfl dX4_leastByTrying_65 ?_
              refine z_aload_n C rfl dX4_leastByTrying_67 ?_
              refine z_iload_n C rfl dX4_leastByTrying_68 ?_
              refine z_aload_n C rfl dX4_leastByTrying_69 ?_
              refine z_iload_n C rfl dX4_leastByTrying_70 ?_
              refine z_iconst 1 (by decide) C dX4_leastByTrying_71 ?_
              refine z_isub C dX4_leastByTrying_72 ?_
              refine z_int (nI_pred j) ?_
              refine z_callS 4 [zr (some a), zi (nI (i + 1)), zr (some b), zi (nI j)] C (ih (i + 1) j (by omega) (by omega) (by omega)) rfl (zgoodS LWc_good wc225 wc226 wc58 wc227) rfl rfl rfl (by decide +kernel) rfl (by rw [hR0]; exact ⟨by show 1 + (i + 1 + j) + 1 ≤ 1 + (i + 1 + (j + 1)); omega, by show 8 + (8 + 11) + (24 + 27 * (i + 1 + j)) ≤ 24 + 27 * (i + 1 + (j + 1)); omega⟩) (by rw [hR0]; exact ⟨Nat.le_refl 0, Nat.le_refl 0⟩) (Nat.le_of_ble_eq_true rfl) dX4_leastByTrying_73 (fun v73 S73 h73 => ?_) (fun E73 S73 h73 => ?_)
              · obtain ⟨rfl, q73⟩ := h73
                subst S73
                refine z_iconst 1 (by decide) C dX4_leastByTrying_76 ?_
                refine z_iadd C dX4_leastByTrying_77 ?_
                refine z_int (nI_1 _) ?_
                refine z_istore [_, _, _, _, _, _, _, _] C (by decide) rfl dX4_leastByTrying_78 ?_
                refine z_iload C rfl dX4_leastByTrying_80 ?_
                refine z_iload C rfl dX4_leastByTrying_82 ?_
                refine z_iload C rfl dX4_leastByTrying_84 ?_
                refine z_mmin C (List.mem_cons_of_mem _ wc176) (List.mem_cons_of_mem _ wc177) (List.mem_cons_of_mem _ wc178) (List.mem_cons_of_mem _ wc179) (by rw [hR0]; show 1 ≤ 1 + (i + 1 + (j + 1)); omega) (by rw [hR0]; show _ ≤ 24 + 27 * (i + 1 + (j + 1)); exact Nat.le_trans (Nat.le_of_ble_eq_true rfl) (Nat.le_add_right _ _)) (by rw [hR0]; exact Nat.le_refl 0) (by rw [hR0]; exact Nat.le_refl 0) dX4_leastByTrying_86 ?_
                refine z_mmin C (List.mem_cons_of_mem _ wc176) (List.mem_cons_of_mem _ wc177) (List.mem_cons_of_mem _ wc178) (List.mem_cons_of_mem _ wc179) (by rw [hR0]; show 1 ≤ 1 + (i + 1 + (j + 1)); omega) (by rw [hR0]; show _ ≤ 24 + 27 * (i + 1 + (j + 1)); exact Nat.le_trans (Nat.le_of_ble_eq_true rfl) (Nat.le_add_right _ _)) (by rw [hR0]; exact Nat.le_refl 0) (by rw [hR0]; exact Nat.le_refl 0) dX4_leastByTrying_89 ?_
                refine z_ireturn C F (Nat.le_of_ble_eq_true rfl) (Nat.le_of_ble_eq_true rfl) dX4_leastByTrying_92 ?_
                refine ⟨congrArg (fun z => some (zi z)) ?_, rfl⟩
                have b1 := lvN_le (cst f g) i j
                have b2 := lvN_le (cst f g) i (j + 1)
                have b3 := lvN_le (cst f g) (i + 1) j
                have b4 := cst_le f g i j
                rw [mn_nI (by omega) (by omega), mn_nI (by omega) (by omega), lvN_ss]
                refine congrArg nI ?_
                omega
              · exact h73.elim
            · exact h60.elim
          · exact h46.elim
        refine z_iload_n C rfl dX4_leastByTrying_0 ?_
        refine z_if_gt 6 C dX4_leastByTrying_1 (by decide) (fun c1 => ?_) (fun c1 => ?_)
        · refine z_iload_n C rfl dX4_leastByTrying_6 ?_
          refine z_if_gt 12 C dX4_leastByTrying_7 (by decide) (fun c7 => ?_) (fun c7 => ?_)
          · refine z_aload_n C rfl dX4_leastByTrying_12 ?_
            refine zg2_name C (fun w h => List.mem_cons_of_mem _ (uc_wsX20 w h)) ka (List.mem_cons_of_mem _ wc167) dX4_leastByTrying_13 ?_
            refine z_ref ea ?_
            refine z_iload_n C rfl dX4_leastByTrying_16 ?_
            refine z_iconst 1 (by decide) C dX4_leastByTrying_17 ?_
            refine z_isub C dX4_leastByTrying_18 ?_
            refine z_int (nI_pred i) ?_
            refine z_caload C kna (by rw [lna]; exact vp_in_nI (by omega) (by decide)) dX4_leastByTrying_19 ?_
            refine z_int (x' := f i) (by rw [nI_clamp (by omega)]; exact ta i (by omega)) ?_
            refine z_aload_n C rfl dX4_leastByTrying_20 ?_
            refine zg2_name C (fun w h => List.mem_cons_of_mem _ (uc_wsX20 w h)) kb (List.mem_cons_of_mem _ wc167) dX4_leastByTrying_21 ?_
            refine z_ref eb ?_
            refine z_iload_n C rfl dX4_leastByTrying_24 ?_
            refine z_iconst 1 (by decide) C dX4_leastByTrying_25 ?_
            refine z_isub C dX4_leastByTrying_26 ?_
            refine z_int (nI_pred j) ?_
            refine z_caload C knb (by rw [lnb]; exact vp_in_nI (by omega) (by decide)) dX4_leastByTrying_27 ?_
            refine z_int (x' := g j) (by rw [nI_clamp (by omega)]; exact tb j (by omega)) ?_
            refine z_icmp_ne 35 C dX4_leastByTrying_28 (by decide) (fun c28 => ?_) (fun c28 => ?_)
            · refine z_iconst 1 (by decide) C dX4_leastByTrying_35 ?_
              first | exact z_int (by rw [cst, if_neg c28]; rfl) cont | exact z_int (by rw [cst, if_pos (Decidable.not_not.1 c28)]; rfl) cont | exact z_int (by rw [cst, if_pos c28]; rfl) cont
            · refine z_iconst 0 (by decide) C dX4_leastByTrying_31 ?_
              refine z_goto 36 C dX4_leastByTrying_32 (by decide) ?_
              first | exact z_int (by rw [cst, if_neg c28]; rfl) cont | exact z_int (by rw [cst, if_pos (Decidable.not_not.1 c28)]; rfl) cont | exact z_int (by rw [cst, if_pos c28]; rfl) cont
          · exact absurd (by rw [← nI_0]; exact nI_lt (by omega) (by omega)) c7
        · exact absurd (by rw [← nI_0]; exact nI_lt (by omega) (by omega)) c1
set_option maxRecDepth 100000 in
set_option maxHeartbeats 4000000 in
theorem C_distanceByTable {l : Launch} (hl0 : l.stackTraces = false) {L : Nat → Nat} {S : ZM} {a b n1 n2 : Nat} {f g : Nat → Int32} (hA0 : tgO S a n1 f) (hB0 : tgO S b n2 g) (hS : cS S L) : zMet l yX4_distanceByTable (Cond.code yX4_distanceByTable cX4_distanceByTable 8 (some .int) :: LWc) ({ frames := 1, cells := 0, slots := 0, locals := 24 } : Room) 0 0 [zr (some (L 0)), zr (some a), zr (some b)] S (zPo (fun v S' => v = some (zi (nI (lvN (cst f g) n1 n2))) ∧ ∃ Tb : Nat → Nat → Int32, S' = sT S Tb ∧ offT S L Tb) (fun _ _ => False)) := by
  refine zMet.of' [some (zr (some (L 0))), some (zr (some a)), some (zr (some b)), none, none, none, none, none] hl0 (by decide) rfl (Nat.le_of_ble_eq_true rfl) rfl ?_
  intro X C N hR hN0 hX F
  subst hX
  obtain ⟨c, hc⟩ : ∃ z : Nat → Nat → Nat, z = cst f g := ⟨_, rfl⟩
  obtain ⟨ka, la, sa, na, ea, kna, lna, ta0⟩ := id hA0
  obtain ⟨kb, lb, sb, nb, eb, knb, lnb, tb0⟩ := id hB0
  have loop : ∀ (m i : Nat) (Tb : Nat → Nat → Int32) (w4 w5 w6 w7 : Option ZV), i + m = n1 + 1 → ivD c S L n2 Tb i 0 → zW X 8 0 0 (sT S Tb) 2 [some (zr (some (L 0))), some (zr (some a)), some (zr (some b)), some (zi (nI i)), w4, w5, w6, w7] [] := by
    intro m
    induction m with
    | zero =>
      intro i Tb w4 w5 w6 w7 hi hI
      obtain rfl : i = n1 + 1 := by omega
      refine z_iload_n C rfl dX4_distanceByTable_2 ?_
      refine z_aload_n C rfl dX4_distanceByTable_3 ?_
      refine zg2_letters C (fun w h => List.mem_cons_of_mem _ (uc_wsX20 w h)) ka (List.mem_cons_of_mem _ wc166) dX4_distanceByTable_4 ?_
      refine z_int la ?_
      refine z_icmp_gt 149 C dX4_distanceByTable_7 (by decide) (fun c7 => ?_) (fun c7 => ?_)
      · refine z_aload_n C rfl dX4_distanceByTable_149 ?_
        refine zg4_distanceTable C (fun w h => List.mem_cons_of_mem _ (uc_wsX40 w h)) hS.c (List.mem_cons_of_mem _ wc48) dX4_distanceByTable_150 ?_
        refine z_ref hS.dt.1 ?_
        refine z_aload_n C rfl dX4_distanceByTable_153 ?_
        refine zg2_letters C (fun w h => List.mem_cons_of_mem _ (uc_wsX20 w h)) ka (List.mem_cons_of_mem _ wc166) dX4_distanceByTable_154 ?_
        refine z_int la ?_
        refine z_aaload_4 C hS.dt.2.1 (by rw [show mN (sT S Tb) (L 8) = 7 from hS.dt.2.2]; exact vp_in_nI (by omega) (by decide)) dX4_distanceByTable_157 ?_
        refine z_ref (r' := some (L (9 + n1))) (by rw [nI_clamp (by omega)]; exact (hS.dr n1 (by omega)).1) ?_
        refine z_aload_n C rfl dX4_distanceByTable_158 ?_
        refine zg2_letters C (fun w h => List.mem_cons_of_mem _ (uc_wsX20 w h)) kb (List.mem_cons_of_mem _ wc166) dX4_distanceByTable_159 ?_
        refine z_int lb ?_
        refine z_iaload C (hS.dr n1 (by omega)).2.1 (by rw [show mN (sT S Tb) (L (9 + n1)) = 7 from (hS.dr n1 (by omega)).2.2]; exact vp_in_nI (by omega) (by decide)) dX4_distanceByTable_162 ?_
        refine z_int (x' := nI (lvN c n1 n2)) (by rw [nI_clamp (by omega)]; exact hI.2.1 n1 n2 (by omega) (by omega)) ?_
        refine z_ireturn C F (Nat.le_of_ble_eq_true rfl) (Nat.le_of_ble_eq_true rfl) dX4_distanceByTable_163 ?_
        exact ⟨by rw [hc], Tb, rfl, hI.1⟩
      · exact absurd (nI_lt (by omega) (by omega)) c7
    | succ m ihm =>
      intro i Tb w4 w5 w6 w7 hi hI0
      have inner : ∀ (n j : Nat) (Tb : Nat → Nat → Int32) (w5 w6 w7 : Option ZV), j + n = n2 + 1 → ivD c S L n2 Tb i j → zW X 8 0 0 (sT S Tb) 13 [some (zr (some (L 0))), some (zr (some a)), some (zr (some b)), some (zi (nI i)), some (zi (nI j)), w5, w6, w7] [] := by
        intro n
        induction n with
        | zero =>
          intro j Tb w5 w6 w7 hj hI
          obtain rfl : j = n2 + 1 := by omega
          refine z_iload C rfl dX4_distanceByTable_13 ?_
          refine z_aload_n C rfl dX4_distanceByTable_15 ?_
          refine zg2_letters C (fun w h => List.mem_cons_of_mem _ (uc_wsX20 w h)) kb (List.mem_cons_of_mem _ wc166) dX4_distanceByTable_16 ?_
          refine z_int lb ?_
          refine z_icmp_gt 143 C dX4_distanceByTable_19 (by decide) (fun c19 => ?_) (fun c19 => ?_)
          · refine z_inc (1) [_, _, _, _, _, _, _, _] C rfl (by decide) (by decide) rfl dX4_distanceByTable_143 ?_
            refine z_goto 2 C dX4_distanceByTable_146 (by decide) ?_
            have q := ihm (i + 1) Tb (some (zi (nI (n2 + 1)))) w5 w6 w7 (by omega) (ivD_row hI)
            rw [nI_succ] at q
            exact q
          · exact absurd (nI_lt (by omega) (by omega)) c19
        | succ n ih =>
          intro j Tb w5 w6 w7 hj hI
          have ta : ∀ x : Nat, x < n1 → tI (sT S Tb) na x = f x := fun x hx => by
            show Tb na x = f x
            rw [hI.1 na (fun r hr q => by rw [q, (hS.dr r hr).2.1] at kna; cases kna)]; exact ta0 x hx
          have tb : ∀ x : Nat, x < n2 → tI (sT S Tb) nb x = g x := fun x hx => by
            show Tb nb x = g x
            rw [hI.1 nb (fun r hr q => by rw [q, (hS.dr r hr).2.1] at knb; cases knb)]; exact tb0 x hx
          have fin : ∀ (w5 w6 w7 : Option ZV), zW X 8 0 0 (sT S (up2 Tb (L (9 + i)) j (nI (lvN c i j)))) 13 [some (zr (some (L 0))), some (zr (some a)), some (zr (some b)), some (zi (nI i)), some (zi (nI j + 1)), w5, w6, w7] [] := by
            intro w5 w6 w7
            have q := ih (j + 1) _ w5 w6 w7 (by omega) (ivD_put hS (by omega) hI)
            rw [nI_succ] at q
            exact q
          refine z_iload C rfl dX4_distanceByTable_13 ?_
          refine z_aload_n C rfl dX4_distanceByTable_15 ?_
          refine zg2_letters C (fun w h => List.mem_cons_of_mem _ (uc_wsX20 w h)) kb (List.mem_cons_of_mem _ wc166) dX4_distanceByTable_16 ?_
          refine z_int lb ?_
          refine z_icmp_gt 143 C dX4_distanceByTable_19 (by decide) (fun c19 => ?_) (fun c19 => ?_)
          · exact absurd c19 (nI_nlt (by omega) (by omega))
          · refine z_iload_n C rfl dX4_distanceByTable_22 ?_
            refine z_if_eq 31 C dX4_distanceByTable_23 (by decide) (fun c23 => ?_) (fun c23 => ?_)
            · have e31 : nI i + nI j = nI (lvN c i j) := by
                have h0 : i = 0 ∨ j = 0 := by
                  first
                  | exact Or.inl ((nI_eq (by omega) (by decide)).1 c23)
                  | exact Or.inr ((nI_eq (by omega) (by decide)).1 c28)
                  | exact Or.inr ((nI_eq (by omega) (by decide)).1 (Decidable.not_not.1 c28))
                rw [nI_add]
                rcases h0 with q | q
                · subst q; rw [lvN_0, Nat.zero_add]
                · subst q; rw [lvN_s0, Nat.add_zero]
              refine z_aload_n C rfl dX4_distanceByTable_31 ?_
              refine zg4_distanceTable C (fun w h => List.mem_cons_of_mem _ (uc_wsX40 w h)) hS.c (List.mem_cons_of_mem _ wc48) dX4_distanceByTable_32 ?_
              refine z_ref hS.dt.1 ?_
              refine z_iload_n C rfl dX4_distanceByTable_35 ?_
              refine z_aaload_4 C hS.dt.2.1 (by rw [show mN (sT S Tb) (L 8) = 7 from hS.dt.2.2]; exact vp_in_nI (by omega) (by decide)) dX4_distanceByTable_36 ?_
              refine z_ref (r' := some (L (9 + i))) (by rw [nI_clamp (by omega)]; exact (hS.dr i (by omega)).1) ?_
              refine z_iload C rfl dX4_distanceByTable_37 ?_
              refine z_iload_n C rfl dX4_distanceByTable_39 ?_
              refine z_iload C rfl dX4_distanceByTable_40 ?_
              refine z_iadd C dX4_distanceByTable_42 ?_
              refine z_int (x' := nI (lvN c i j)) e31 ?_
              refine z_iastore C (hS.dr i (by omega)).2.1 (by rw [show mN (sT S Tb) (L (9 + i)) = 7 from (hS.dr i (by omega)).2.2]; exact vp_in_nI (by omega) (by decide)) dX4_distanceByTable_43 ?_
              refine z_mem (S' := sT S (up2 Tb (L (9 + i)) j (nI (lvN c i j)))) (by rw [nI_clamp (by omega)]) ?_
              refine z_goto 137 C dX4_distanceByTable_44 (by decide) ?_
              refine z_inc (1) [_, _, _, _, _, _, _, _] C rfl (by decide) (by decide) rfl dX4_distanceByTable_137 ?_
              refine z_goto 13 C dX4_distanceByTable_140 (by decide) ?_
              exact fin _ _ _
            · refine z_iload C rfl dX4_distanceByTable_26 ?_
              refine z_if_ne 47 C dX4_distanceByTable_28 (by decide) (fun c28 => ?_) (fun c28 => ?_)
              · obtain ⟨i, rfl⟩ : ∃ z : Nat, i = z + 1 := ⟨i - 1, by
                  rcases Nat.eq_zero_or_pos i with q | q
                  · subst q; exact absurd nI_0 c23
                  · omega⟩
                obtain ⟨j, rfl⟩ : ∃ z : Nat, j = z + 1 := ⟨j - 1, by
                  rcases Nat.eq_zero_or_pos j with q | q
                  · subst q; exact absurd nI_0 c28
                  · omega⟩
                have b1 := lvN_le c i j
                have b2 := lvN_le c i (j + 1)
                have b3 := lvN_le c (i + 1) j
                have b4 : c i j ≤ 1 := by rw [hc]; exact cst_le f g i j
                have cont : zW X 8 0 0 (sT S Tb) 72 [some (zr (some (L 0))), some (zr (some a)), some (zr (some b)), some (zi (nI (i + 1))), some (zi (nI (j + 1))), w5, w6, w7] [zi (nI (c i j))] := by
                  refine z_istore [_, _, _, _, _, _, _, _] C (by decide) rfl dX4_distanceByTable_72 ?_
                  refine z_aload_n C rfl dX4_distanceByTable_74 ?_
                  refine zg4_distanceTable C (fun w h => List.mem_cons_of_mem _ (uc_wsX40 w h)) hS.c (List.mem_cons_of_mem _ wc48) dX4_distanceByTable_75 ?_
                  refine z_ref hS.dt.1 ?_
                  refine z_iload_n C rfl dX4_distanceByTable_78 ?_
                  refine z_iconst 1 (by decide) C dX4_distanceByTable_79 ?_
                  refine z_isub C dX4_distanceByTable_80 ?_
                  refine z_int (nI_pred i) ?_
                  refine z_aaload_4 C hS.dt.2.1 (by rw [show mN (sT S Tb) (L 8) = 7 from hS.dt.2.2]; exact vp_in_nI (by omega) (by decide)) dX4_distanceByTable_81 ?_
                  refine z_ref (r' := some (L (9 + i))) (by rw [nI_clamp (by omega)]; exact (hS.dr i (by omega)).1) ?_
                  refine z_iload C rfl dX4_distanceByTable_82 ?_
                  refine z_iconst 1 (by decide) C dX4_distanceByTable_84 ?_
                  refine z_isub C dX4_distanceByTable_85 ?_
                  refine z_int (nI_pred j) ?_
                  refine z_iaload C (hS.dr i (by omega)).2.1 (by rw [show mN (sT S Tb) (L (9 + i)) = 7 from (hS.dr i (by omega)).2.2]; exact vp_in_nI (by omega) (by decide)) dX4_distanceByTable_86 ?_
                  refine z_int (x' := nI (lvN c i j)) (by rw [nI_clamp (by omega)]; exact hI.2.1 i j (by omega) (by omega)) ?_
                  refine z_iload C rfl dX4_distanceByTable_87 ?_
                  refine z_iadd C dX4_distanceByTable_89 ?_
                  refine z_int (nI_add _ _) ?_
                  refine z_istore [_, _, _, _, _, _, _, _] C (by decide) rfl dX4_distanceByTable_90 ?_
                  refine z_aload_n C rfl dX4_distanceByTable_92 ?_
                  refine zg4_distanceTable C (fun w h => List.mem_cons_of_mem _ (uc_wsX40 w h)) hS.c (List.mem_cons_of_mem _ wc48) dX4_distanceByTable_93 ?_
                  refine z_ref hS.dt.1 ?_
                  refine z_iload_n C rfl dX4_distanceByTable_96 ?_
                  refine z_iconst 1 (by decide) C dX4_distanceByTable_97 ?_
                  refine z_isub C dX4_distanceByTable_98 ?_
                  refine z_int (nI_pred i) ?_
                  refine z_aaload_4 C hS.dt.2.1 (by rw [show mN (sT S Tb) (L 8) = 7 from hS.dt.2.2]; exact vp_in_nI (by omega) (by decide)) dX4_distanceByTable_99 ?_
                  refine z_ref (r' := some (L (9 + i))) (by rw [nI_clamp (by omega)]; exact (hS.dr i (by omega)).1) ?_
                  refine z_iload C rfl dX4_distanceByTable_100 ?_
                  refine z_iaload C (hS.dr i (by omega)).2.1 (by rw [show mN (sT S Tb) (L (9 + i)) = 7 from (hS.dr i (by omega)).2.2]; exact vp_in_nI (by omega) (by decide)) dX4_distanceByTable_102 ?_
                  refine z_int (x' := nI (lvN c i (j + 1))) (by rw [nI_clamp (by omega)]; exact hI.2.1 i (j + 1) (by omega) (by omega)) ?_
                  refine z_aload_n C rfl dX4_distanceByTable_103 ?_
                  refine zg4_distanceTable C (fun w h => List.mem_cons_of_mem _ (uc_wsX40 w h)) hS.c (List.mem_cons_of_mem _ wc48) dX4_distanceByTable_104 ?_
                  refine z_ref hS.dt.1 ?_
                  refine z_iload_n C rfl dX4_distanceByTable_107 ?_
                  refine z_aaload_4 C hS.dt.2.1 (by rw [show mN (sT S Tb) (L 8) = 7 from hS.dt.2.2]; exact vp_in_nI (by omega) (by decide)) dX4_distanceByTable_108 ?_
                  refine z_ref (r' := some (L (9 + (i + 1)))) (by rw [nI_clamp (by omega)]; exact (hS.dr (i + 1) (by omega)).1) ?_
                  refine z_iload C rfl dX4_distanceByTable_109 ?_
                  refine z_iconst 1 (by decide) C dX4_distanceByTable_111 ?_
                  refine z_isub C dX4_distanceByTable_112 ?_
                  refine z_int (nI_pred j) ?_
                  refine z_iaload C (hS.dr (i + 1) (by omega)).2.1 (by rw [show mN (sT S Tb) (L (9 + (i + 1))) = 7 from (hS.dr (i + 1) (by omega)).2.2]; exact vp_in_nI (by omega) (by decide)) dX4_distanceByTable_113 ?_
                  refine z_int (x' := nI (lvN c (i + 1) j)) (by rw [nI_clamp (by omega)]; exact hI.2.2 j (by omega)) ?_
                  refine z_mmin C (List.mem_cons_of_mem _ wc176) (List.mem_cons_of_mem _ wc177) (List.mem_cons_of_mem _ wc178) (List.mem_cons_of_mem _ wc179) (by rw [hR]; exact Nat.le_of_ble_eq_true rfl) (by rw [hR]; exact Nat.le_of_ble_eq_true rfl) (by rw [hR]; exact Nat.le_of_ble_eq_true rfl) (by rw [hR]; exact Nat.le_of_ble_eq_true rfl) dX4_distanceByTable_114 ?_
                  refine z_int (mn_nI (by omega) (by omega)) ?_
                  refine z_iconst 1 (by decide) C dX4_distanceByTable_117 ?_
                  refine z_iadd C dX4_distanceByTable_118 ?_
                  refine z_int (nI_1 _) ?_
                  refine z_istore [_, _, _, _, _, _, _, _] C (by decide) rfl dX4_distanceByTable_119 ?_
                  refine z_aload_n C rfl dX4_distanceByTable_121 ?_
                  refine zg4_distanceTable C (fun w h => List.mem_cons_of_mem _ (uc_wsX40 w h)) hS.c (List.mem_cons_of_mem _ wc48) dX4_distanceByTable_122 ?_
                  refine z_ref hS.dt.1 ?_
                  refine z_iload_n C rfl dX4_distanceByTable_125 ?_
                  refine z_aaload_4 C hS.dt.2.1 (by rw [show mN (sT S Tb) (L 8) = 7 from hS.dt.2.2]; exact vp_in_nI (by omega) (by decide)) dX4_distanceByTable_126 ?_
                  refine z_ref (r' := some (L (9 + (i + 1)))) (by rw [nI_clamp (by omega)]; exact (hS.dr (i + 1) (by omega)).1) ?_
                  refine z_iload C rfl dX4_distanceByTable_127 ?_
                  refine z_iload C rfl dX4_distanceByTable_129 ?_
                  refine z_iload C rfl dX4_distanceByTable_131 ?_
                  refine z_mmin C (List.mem_cons_of_mem _ wc176) (List.mem_cons_of_mem _ wc177) (List.mem_cons_of_mem _ wc178) (List.mem_cons_of_mem _ wc179) (by rw [hR]; exact Nat.le_of_ble_eq_true rfl) (by rw [hR]; exact Nat.le_of_ble_eq_true rfl) (by rw [hR]; exact Nat.le_of_ble_eq_true rfl) (by rw [hR]; exact Nat.le_of_ble_eq_true rfl) dX4_distanceByTable_133 ?_
                  refine z_int (mn_nI (by omega) (by omega)) ?_
                  refine z_int (x' := nI (lvN c (i + 1) (j + 1))) (congrArg nI (lvN_ss c i j).symm) ?_
                  refine z_iastore C (hS.dr (i + 1) (by omega)).2.1 (by rw [show mN (sT S Tb) (L (9 + (i + 1))) = 7 from (hS.dr (i + 1) (by omega)).2.2]; exact vp_in_nI (by omega) (by decide)) dX4_distanceByTable_136 ?_
                  refine z_mem (S' := sT S (up2 Tb (L (9 + (i + 1))) (j + 1) (nI (lvN c (i + 1) (j + 1))))) (by rw [nI_clamp (by omega)]) ?_
                  refine z_inc (1) [_, _, _, _, _, _, _, _] C rfl (by decide) (by decide) rfl dX4_distanceByTable_137 ?_
                  refine z_goto 13 C dX4_distanceByTable_140 (by decide) ?_
                  exact fin _ _ _
                refine z_aload_n C rfl dX4_distanceByTable_47 ?_
                refine zg2_name C (fun w h => List.mem_cons_of_mem _ (uc_wsX20 w h)) ka (List.mem_cons_of_mem _ wc167) dX4_distanceByTable_48 ?_
                refine z_ref ea ?_
                refine z_iload_n C rfl dX4_distanceByTable_51 ?_
                refine z_iconst 1 (by decide) C dX4_distanceByTable_52 ?_
                refine z_isub C dX4_distanceByTable_53 ?_
                refine z_int (nI_pred i) ?_
                refine z_caload C kna (by rw [show mN (sT S Tb) na = 6 from lna]; exact vp_in_nI (by omega) (by decide)) dX4_distanceByTable_54 ?_
                refine z_int (x' := f i) (by rw [nI_clamp (by omega)]; exact ta i (by omega)) ?_
                refine z_aload_n C rfl dX4_distanceByTable_55 ?_
                refine zg2_name C (fun w h => List.mem_cons_of_mem _ (uc_wsX20 w h)) kb (List.mem_cons_of_mem _ wc167) dX4_distanceByTable_56 ?_
                refine z_ref eb ?_
                refine z_iload C rfl dX4_distanceByTable_59 ?_
                refine z_iconst 1 (by decide) C dX4_distanceByTable_61 ?_
                refine z_isub C dX4_distanceByTable_62 ?_
                refine z_int (nI_pred j) ?_
                refine z_caload C knb (by rw [show mN (sT S Tb) nb = 6 from lnb]; exact vp_in_nI (by omega) (by decide)) dX4_distanceByTable_63 ?_
                refine z_int (x' := g j) (by rw [nI_clamp (by omega)]; exact tb j (by omega)) ?_
                refine z_icmp_ne 71 C dX4_distanceByTable_64 (by decide) (fun c64 => ?_) (fun c64 => ?_)
                · refine z_iconst 1 (by decide) C dX4_distanceByTable_71 ?_
                  first | exact z_int (by rw [hc, cst, if_neg c64]; rfl) cont | exact z_int (by rw [hc, cst, if_pos (Decidable.not_not.1 c64)]; rfl) cont | exact z_int (by rw [hc, cst, if_pos c64]; rfl) cont
                · refine z_iconst 0 (by decide) C dX4_distanceByTable_67 ?_
                  refine z_goto 72 C dX4_distanceByTable_68 (by decide) ?_
                  first | exact z_int (by rw [hc, cst, if_neg c64]; rfl) cont | exact z_int (by rw [hc, cst, if_pos (Decidable.not_not.1 c64)]; rfl) cont | exact z_int (by rw [hc, cst, if_pos c64]; rfl) cont
              · have e31 : nI i + nI j = nI (lvN c i j) := by
                  have h0 : i = 0 ∨ j = 0 := by
                    first
                    | exact Or.inl ((nI_eq (by omega) (by decide)).1 c23)
                    | exact Or.inr ((nI_eq (by omega) (by decide)).1 c28)
                    | exact Or.inr ((nI_eq (by omega) (by decide)).1 (Decidable.not_not.1 c28))
                  rw [nI_add]
                  rcases h0 with q | q
                  · subst q; rw [lvN_0, Nat.zero_add]
                  · subst q; rw [lvN_s0, Nat.add_zero]
                refine z_aload_n C rfl dX4_distanceByTable_31 ?_
                refine zg4_distanceTable C (fun w h => List.mem_cons_of_mem _ (uc_wsX40 w h)) hS.c (List.mem_cons_of_mem _ wc48) dX4_distanceByTable_32 ?_
                refine z_ref hS.dt.1 ?_
                refine z_iload_n C rfl dX4_distanceByTable_35 ?_
                refine z_aaload_4 C hS.dt.2.1 (by rw [show mN (sT S Tb) (L 8) = 7 from hS.dt.2.2]; exact vp_in_nI (by omega) (by decide)) dX4_distanceByTable_36 ?_
                refine z_ref (r' := some (L (9 + i))) (by rw [nI_clamp (by omega)]; exact (hS.dr i (by omega)).1) ?_
                refine z_iload C rfl dX4_distanceByTable_37 ?_
                refine z_iload_n C rfl dX4_distanceByTable_39 ?_
                refine z_iload C rfl dX4_distanceByTable_40 ?_
                refine z_iadd C dX4_distanceByTable_42 ?_
                refine z_int (x' := nI (lvN c i j)) e31 ?_
                refine z_iastore C (hS.dr i (by omega)).2.1 (by rw [show mN (sT S Tb) (L (9 + i)) = 7 from (hS.dr i (by omega)).2.2]; exact vp_in_nI (by omega) (by decide)) dX4_distanceByTable_43 ?_
                refine z_mem (S' := sT S (up2 Tb (L (9 + i)) j (nI (lvN c i j)))) (by rw [nI_clamp (by omega)]) ?_
                refine z_goto 137 C dX4_distanceByTable_44 (by decide) ?_
                refine z_inc (1) [_, _, _, _, _, _, _, _] C rfl (by decide) (by decide) rfl dX4_distanceByTable_137 ?_
                refine z_goto 13 C dX4_distanceByTable_140 (by decide) ?_
                exact fin _ _ _
      refine z_iload_n C rfl dX4_distanceByTable_2 ?_
      refine z_aload_n C rfl dX4_distanceByTable_3 ?_
      refine zg2_letters C (fun w h => List.mem_cons_of_mem _ (uc_wsX20 w h)) ka (List.mem_cons_of_mem _ wc166) dX4_distanceByTable_4 ?_
      refine z_int la ?_
      refine z_icmp_gt 149 C dX4_distanceByTable_7 (by decide) (fun c7 => ?_) (fun c7 => ?_)
      · exact absurd c7 (nI_nlt (by omega) (by omega))
      · refine z_iconst 0 (by decide) C dX4_distanceByTable_10 ?_
        refine z_istore [_, _, _, _, _, _, _, _] C (by decide) rfl dX4_distanceByTable_11 ?_
        exact inner (n2 + 1) 0 Tb w5 w6 w7 (by omega) hI0
  refine z_iconst 0 (by decide) C dX4_distanceByTable_0 ?_
  refine z_istore_n [_, _, _, _, _, _, _, _] C (by decide) rfl dX4_distanceByTable_1 ?_
  exact loop (n1 + 1) 0 (tI S) none none none none (by omega) ⟨fun _ _ => rfl, fun r _ hr => absurd hr (Nat.not_lt_zero r), fun s hs => absurd hs (Nat.not_lt_zero s)⟩
