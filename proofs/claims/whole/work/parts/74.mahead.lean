/-! the reference: filling lists -/
/-- but for what filling changes -/
def flr (k : Nat) : Bool := Nat.beq k 61 || (Nat.ble 63 k && Nat.ble k 65)
def eqF (E D : ZD) : Prop := ∀ k : Nat, flr k = false → E k = D k
theorem eqF.dS {E D : ZD} (h : eqF E D) {k : Nat} (hk : flr k = true) (f : Nat → Int32) : eqF (dS E k f) D := fun k' hk' => by
  rw [dS_ne (by rintro rfl; rw [hk] at hk'; cases hk')]; exact h k' hk'
theorem chL_len {pr : Nat → Bool} {pl len : Nat → Int32} {lim : Int32} : ∀ (f : Nat) (left s : Int32), (chL pr pl len lim f left s).length ≤ f
  | 0, _, _ => Nat.le_refl 0
  | f + 1, left, s => by
    simp only [chL]
    cases fF pr pl left 24 with
    | none => exact Nat.zero_le _
    | some j =>
      show (if lim = 0 ∨ s + len j ≤ lim then j :: chL pr pl len lim f (outB left j) (s + len j) else chL pr pl len lim f (outB left j) s).length ≤ f + 1
      split
      · exact Nat.succ_le_succ (chL_len f _ _)
      · exact Nat.le_succ_of_le (chL_len f _ _)
/-- the tracks of list l in their order -/
abbrev tkD (D : ZD) (l : Nat) : List Nat := tkO D (fixD D) l
theorem tkD_len (D : ZD) (l : Nat) : (tkD D l).length ≤ 24 := chL_len _ _ _
/-- list l is filled as it is to be -/
def good (D E : ZD) (l : Nat) : Prop := E 61 l = fixD D l ∧ E 64 l = nI (tkD D l).length ∧ ∀ j x : Nat, (tkD D l)[j]? = some x → E 63 (24 * l + j) = nI x
def same (E E' : ZD) (l : Nat) : Prop := E' 65 l = E 65 l ∧ E' 61 l = E 61 l ∧ E' 64 l = E 64 l ∧ ∀ j : Nat, j < 24 → E' 63 (24 * l + j) = E 63 (24 * l + j)
theorem same.refl (E : ZD) (l : Nat) : same E E l := ⟨rfl, rfl, rfl, fun _ _ => rfl⟩
theorem same.trans {E E1 E2 : ZD} {l : Nat} (h : same E E1 l) (h1 : same E1 E2 l) : same E E2 l :=
  ⟨h1.1.trans h.1, h1.2.1.trans h.2.1, h1.2.2.1.trans h.2.2.1, fun j hj => (h1.2.2.2 j hj).trans (h.2.2.2 j hj)⟩
theorem good.same {D E E' : ZD} {l : Nat} (h : good D E l) (hs : same E E' l) : good D E' l :=
  ⟨hs.2.1.trans h.1, hs.2.2.1.trans h.2.1, fun j x e => (hs.2.2.2 j (by
    have := (List.getElem?_eq_some_iff.mp e).1
    have := tkD_len D l
    omega)).trans (h.2.2 j x e)⟩
def inv (D : ZD) (rk : Nat → Nat) (n : Nat) (E : ZD) : Prop := ∀ l : Nat, l < dL D → rk l < n → ¬ E 65 l = 0 → good D E l
theorem inv.mono {D E : ZD} {rk : Nat → Nat} {n m : Nat} (h : inv D rk n E) (hm : m ≤ n) : inv D rk m E := fun l hl hr he => h l hl (by omega) he
def stp (D : ZD) (rk : Nat → Nat) (n : Nat) (E E' : ZD) : Prop := ∀ l : Nat, same E E' l ∨ (l < dL D ∧ rk l < n ∧ E 65 l = 0 ∧ ¬ E' 65 l = 0 ∧ good D E' l)
theorem stp.refl (D : ZD) (rk : Nat → Nat) (n : Nat) (E : ZD) : stp D rk n E E := fun l => Or.inl (same.refl E l)
theorem stp.trans {D E E1 E2 : ZD} {rk : Nat → Nat} {n : Nat} (h : stp D rk n E E1) (h1 : stp D rk n E1 E2) : stp D rk n E E2 := fun l => by
  rcases h l with a | ⟨a1, a2, a3, a4, a5⟩
  · rcases h1 l with b | ⟨b1, b2, b3, b4, b5⟩
    · exact Or.inl (a.trans b)
    · exact Or.inr ⟨b1, b2, a.1.symm.trans b3, b4, b5⟩
  · rcases h1 l with b | ⟨b1, b2, b3, b4, b5⟩
    · exact Or.inr ⟨a1, a2, a3, by rw [b.1]; exact a4, a5.same b⟩
    · exact absurd b3 a4
theorem stp.mono {D E E' : ZD} {rk : Nat → Nat} {n m : Nat} (h : stp D rk n E E') (hm : n ≤ m) : stp D rk m E E' := fun l => by
  rcases h l with a | ⟨a1, a2, a3⟩
  · exact Or.inl a
  · exact Or.inr ⟨a1, by omega, a3⟩
theorem inv.stp {D E E' : ZD} {rk : Nat → Nat} {n m : Nat} (h : inv D rk m E) (hs : stp D rk n E E') : inv D rk m E' := fun l hl hr he => by
  rcases hs l with a | ⟨a1, a2, a3, a4, a5⟩
  · exact (h l hl hr (by rw [← a.1]; exact he)).same a
  · exact a5

set_option maxRecDepth 100000 in
set_option maxHeartbeats 4000000 in
theorem M_isAhead {l : Launch} (hl0 : l.stackTraces = false) {D : ZD} {J : Nat → Int64} {S : ZM} {M : Nat} {r : Nat → Nat} (hM : mR D J S M r) (y : Int32) {t o : Nat} (ht : t < 24) (hto : o < t) : zMet l yX5_isAhead (Cond.code yX5_isAhead cX5_isAhead 6 (some .boolean) :: LWm) ({ frames := 0, cells := 0, slots := 0, locals := 0 } : Room) 0 0 [zr (some M), zi y, zi (nI t), zi (nI o)] S (zPo (fun v S' => ∃ b : Bool, v = some (zi (bI b)) ∧ (b = true ↔ plD D y t < plD D y o) ∧ S' = S) (fun _ _ => False)) := by
  refine zMet.of' [some (zr (some M)), some (zi y), some (zi (nI t)), some (zi (nI o)), none, none] hl0 (by decide) rfl (Nat.le_of_ble_eq_true rfl) rfl ?_
  intro X C N hR hN0 hX F
  subst hX
  have j98 : ∀ m : Int32, m = plD D y o → zW X 6 0 0 S 98 [some (zr (some M)), some (zi y), some (zi (nI t)), some (zi (nI o)), some (zi (plD D y t)), none] [zi m] := by
    rintro m rfl
    refine z_istore [_, _, _, _, _, _] C (by decide) rfl dX5_isAhead_98 ?_
    refine z_iload C rfl dX5_isAhead_100 ?_
    refine z_iload C rfl dX5_isAhead_102 ?_
    refine z_icmp_eq 122 C dX5_isAhead_104 (by decide) (fun c104 => ?_) (fun c104 => ?_)
    · refine z_iload_n C rfl dX5_isAhead_122 ?_
      refine z_iload_n C rfl dX5_isAhead_123 ?_
      refine z_icmp_ge 131 C dX5_isAhead_124 (by decide) (fun c124 => ?_) (fun c124 => ?_)
      · refine z_iconst 0 (by decide) C dX5_isAhead_131 ?_
        refine z_zreturn C F (Nat.le_of_ble_eq_true rfl) (Nat.le_of_ble_eq_true rfl) (by decide) dX5_isAhead_132 ?_
        exact ⟨false, rfl, ⟨fun q => (by cases q), fun q => absurd q (by rw [c104]; exact Int32.lt_irrefl)⟩, rfl⟩
      · refine z_iconst 1 (by decide) C dX5_isAhead_127 ?_
        refine z_goto 132 C dX5_isAhead_128 (by decide) ?_
        refine z_zreturn C F (Nat.le_of_ble_eq_true rfl) (Nat.le_of_ble_eq_true rfl) (by decide) dX5_isAhead_132 ?_
        exact absurd (nI_le (by omega) (by omega)) c124
    · refine z_iload C rfl dX5_isAhead_107 ?_
      refine z_iload C rfl dX5_isAhead_109 ?_
      refine z_icmp_ge 118 C dX5_isAhead_111 (by decide) (fun c111 => ?_) (fun c111 => ?_)
      · refine z_iconst 0 (by decide) C dX5_isAhead_118 ?_
        refine z_goto 132 C dX5_isAhead_119 (by decide) ?_
        refine z_zreturn C F (Nat.le_of_ble_eq_true rfl) (Nat.le_of_ble_eq_true rfl) (by decide) dX5_isAhead_132 ?_
        exact ⟨false, rfl, ⟨fun q => (by cases q), fun q => absurd q (Int32.not_lt.mpr c111)⟩, rfl⟩
      · refine z_iconst 1 (by decide) C dX5_isAhead_114 ?_
        refine z_goto 132 C dX5_isAhead_115 (by decide) ?_
        refine z_zreturn C F (Nat.le_of_ble_eq_true rfl) (Nat.le_of_ble_eq_true rfl) (by decide) dX5_isAhead_132 ?_
        exact ⟨true, rfl, ⟨fun _ => Int32.not_le.mp c111, fun _ => rfl⟩, rfl⟩
  have j48 : ∀ m : Int32, m = plD D y t → zW X 6 0 0 S 48 [some (zr (some M)), some (zi y), some (zi (nI t)), some (zi (nI o)), none, none] [zi m] := by
    rintro m rfl
    refine z_istore [_, _, _, _, _, _] C (by decide) rfl dX5_isAhead_48 ?_
    refine z_iload_n C rfl dX5_isAhead_50 ?_
    refine z_bipush 115 (by decide) C dX5_isAhead_51 ?_
    refine z_icmp_ne 65 C dX5_isAhead_53 (by decide) (fun c53 => ?_) (fun c53 => ?_)
    · refine z_iload_n C rfl dX5_isAhead_65 ?_
      refine z_bipush 114 (by decide) C dX5_isAhead_66 ?_
      refine z_icmp_ne 81 C dX5_isAhead_68 (by decide) (fun c68 => ?_) (fun c68 => ?_)
      · refine z_iload_n C rfl dX5_isAhead_81 ?_
        refine z_bipush 112 (by decide) C dX5_isAhead_82 ?_
        refine z_icmp_ne 96 C dX5_isAhead_84 (by decide) (fun c84 => ?_) (fun c84 => ?_)
        · refine z_iload_n C rfl dX5_isAhead_96 ?_
          refine z_ineg C dX5_isAhead_97 ?_
          exact j98 _ (by unfold plD plO; rw [if_neg c53, if_neg c68, if_neg c84])
        · refine z_aload_n C rfl dX5_isAhead_87 ?_
          refine zg5_plays C (fun w h => List.mem_cons_of_mem _ (um_wsX50 w h)) hM.1 (List.mem_cons_of_mem _ wm6) dX5_isAhead_88 ?_
          refine z_ref (hM.q 44 rfl) ?_
          refine z_iload_n C rfl dX5_isAhead_91 ?_
          refine z_iaload C (hM.k 44 rfl) (hM.b' 44 rfl (⟨o, rfl, by show o < 24; omega⟩) (by decide)) dX5_isAhead_92 ?_
          refine z_int (hM.t 44 rfl (by decide) _) ?_
          refine z_int (x' := D 44 o) (congrArg _ (nI_clamp (by omega))) ?_
          refine z_goto 98 C dX5_isAhead_93 (by decide) ?_
          exact j98 _ (by unfold plD plO; rw [if_neg c53, if_neg c68, if_pos c84])
      · refine z_aload_n C rfl dX5_isAhead_71 ?_
        refine zg5_rating C (fun w h => List.mem_cons_of_mem _ (um_wsX50 w h)) hM.1 (List.mem_cons_of_mem _ wm5) dX5_isAhead_72 ?_
        refine z_ref (hM.q 43 rfl) ?_
        refine z_iload_n C rfl dX5_isAhead_75 ?_
        refine z_iaload C (hM.k 43 rfl) (hM.b' 43 rfl (⟨o, rfl, by show o < 24; omega⟩) (by decide)) dX5_isAhead_76 ?_
        refine z_int (hM.t 43 rfl (by decide) _) ?_
        refine z_int (x' := D 43 o) (congrArg _ (nI_clamp (by omega))) ?_
        refine z_ineg C dX5_isAhead_77 ?_
        refine z_goto 98 C dX5_isAhead_78 (by decide) ?_
        exact j98 _ (by unfold plD plO; rw [if_neg c53, if_pos c68])
    · refine z_aload_n C rfl dX5_isAhead_56 ?_
      refine zg5_length C (fun w h => List.mem_cons_of_mem _ (um_wsX50 w h)) hM.1 (List.mem_cons_of_mem _ wm4) dX5_isAhead_57 ?_
      refine z_ref (hM.q 42 rfl) ?_
      refine z_iload_n C rfl dX5_isAhead_60 ?_
      refine z_iaload C (hM.k 42 rfl) (hM.b' 42 rfl (⟨o, rfl, by show o < 24; omega⟩) (by decide)) dX5_isAhead_61 ?_
      refine z_int (hM.t 42 rfl (by decide) _) ?_
      refine z_int (x' := D 42 o) (congrArg _ (nI_clamp (by omega))) ?_
      refine z_goto 98 C dX5_isAhead_62 (by decide) ?_
      exact j98 _ (by unfold plD plO; rw [if_pos c53])
  refine z_iload_n C rfl dX5_isAhead_0 ?_
  refine z_bipush 115 (by decide) C dX5_isAhead_1 ?_
  refine z_icmp_ne 15 C dX5_isAhead_3 (by decide) (fun c3 => ?_) (fun c3 => ?_)
  · refine z_iload_n C rfl dX5_isAhead_15 ?_
    refine z_bipush 114 (by decide) C dX5_isAhead_16 ?_
    refine z_icmp_ne 31 C dX5_isAhead_18 (by decide) (fun c18 => ?_) (fun c18 => ?_)
    · refine z_iload_n C rfl dX5_isAhead_31 ?_
      refine z_bipush 112 (by decide) C dX5_isAhead_32 ?_
      refine z_icmp_ne 46 C dX5_isAhead_34 (by decide) (fun c34 => ?_) (fun c34 => ?_)
      · refine z_iload_n C rfl dX5_isAhead_46 ?_
        refine z_ineg C dX5_isAhead_47 ?_
        exact j48 _ (by unfold plD plO; rw [if_neg c3, if_neg c18, if_neg c34])
      · refine z_aload_n C rfl dX5_isAhead_37 ?_
        refine zg5_plays C (fun w h => List.mem_cons_of_mem _ (um_wsX50 w h)) hM.1 (List.mem_cons_of_mem _ wm6) dX5_isAhead_38 ?_
        refine z_ref (hM.q 44 rfl) ?_
        refine z_iload_n C rfl dX5_isAhead_41 ?_
        refine z_iaload C (hM.k 44 rfl) (hM.b' 44 rfl (⟨t, rfl, ht⟩) (by decide)) dX5_isAhead_42 ?_
        refine z_int (hM.t 44 rfl (by decide) _) ?_
        refine z_int (x' := D 44 t) (congrArg _ (nI_clamp (by omega))) ?_
        refine z_goto 48 C dX5_isAhead_43 (by decide) ?_
        exact j48 _ (by unfold plD plO; rw [if_neg c3, if_neg c18, if_pos c34])
    · refine z_aload_n C rfl dX5_isAhead_21 ?_
      refine zg5_rating C (fun w h => List.mem_cons_of_mem _ (um_wsX50 w h)) hM.1 (List.mem_cons_of_mem _ wm5) dX5_isAhead_22 ?_
      refine z_ref (hM.q 43 rfl) ?_
      refine z_iload_n C rfl dX5_isAhead_25 ?_
      refine z_iaload C (hM.k 43 rfl) (hM.b' 43 rfl (⟨t, rfl, ht⟩) (by decide)) dX5_isAhead_26 ?_
      refine z_int (hM.t 43 rfl (by decide) _) ?_
      refine z_int (x' := D 43 t) (congrArg _ (nI_clamp (by omega))) ?_
      refine z_ineg C dX5_isAhead_27 ?_
      refine z_goto 48 C dX5_isAhead_28 (by decide) ?_
      exact j48 _ (by unfold plD plO; rw [if_neg c3, if_pos c18])
  · refine z_aload_n C rfl dX5_isAhead_6 ?_
    refine zg5_length C (fun w h => List.mem_cons_of_mem _ (um_wsX50 w h)) hM.1 (List.mem_cons_of_mem _ wm4) dX5_isAhead_7 ?_
    refine z_ref (hM.q 42 rfl) ?_
    refine z_iload_n C rfl dX5_isAhead_10 ?_
    refine z_iaload C (hM.k 42 rfl) (hM.b' 42 rfl (⟨t, rfl, ht⟩) (by decide)) dX5_isAhead_11 ?_
    refine z_int (hM.t 42 rfl (by decide) _) ?_
    refine z_int (x' := D 42 t) (congrArg _ (nI_clamp (by omega))) ?_
    refine z_goto 48 C dX5_isAhead_12 (by decide) ?_
    exact j48 _ (by unfold plD plO; rw [if_pos c3])
