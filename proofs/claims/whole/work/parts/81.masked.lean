/-! the reference: what a rule asks for -/
/-- all that is asked for by a set of lists, with the set -/
abbrev wl8 (D : ZD) (s : Int32) : Int32 := wlO (lsO D) 8 s
theorem lsO_eq {D : ZD} {i : Nat} {b : Int32} (h : lsO D i = some b) : i < dL D ∧ b = lsD D (ix (D 58 i)) := by
  unfold lsO at h
  by_cases q : i < dL D
  · rw [if_pos q] at h; exact ⟨q, (Option.some.inj h).symm⟩
  · rw [if_neg q] at h; cases h
/-- a set that holds all that its lists ask for -/
def clD (D : ZD) (T : Int32) : Prop := ∀ x y : Nat, x < dL D → hasB T (nI x) = true → y < 32 → hasB (lsD D (ix (D 58 x))) (nI y) = true → hasB T (nI y) = true
theorem wl_min {D : ZD} (h8 : dL D ≤ 8) {T : Int32} (hT : clD D T) {s : Int32} (hs : ∀ x : Nat, x < 32 → hasB s (nI x) = true → hasB T (nI x) = true) : ∀ (j x : Nat), x < 32 → hasB (wlO (lsO D) j s) (nI x) = true → hasB T (nI x) = true := by
  have inner : ∀ (i : Nat) (t : Int32), (∀ x : Nat, x < 32 → hasB t (nI x) = true → hasB T (nI x) = true) → ∀ x : Nat, x < 32 → hasB (wlI (lsO D) i t) (nI x) = true → hasB T (nI x) = true := by
    intro i
    induction i with
    | zero => intro t h; exact h
    | succ i ih =>
      intro t h x hx hb
      cases hf : lsO D i with
      | none => rw [wlI_none hf] at hb; exact ih t h x hx hb
      | some c =>
        cases hw : hasB (wlI (lsO D) i t) (nI i) with
        | false => rw [wlI_no hf hw] at hb; exact ih t h x hx hb
        | true =>
          rw [wlI_yes hf hw, hasB_or hx, Bool.or_eq_true] at hb
          rcases hb with hb | hb
          · exact ih t h x hx hb
          · obtain ⟨q1, q2⟩ := lsO_eq hf
            rw [q2] at hb
            exact hT i x q1 (ih t h i (by omega) hw) hx hb
  intro j
  induction j with
  | zero => intro x hx hb; exact hs x hx hb
  | succ j ih => intro x hx hb; exact inner 8 _ ih x hx hb
theorem wl_cl {D : ZD} (hw : wfR D) (h40 : dR D ≤ 40) (h8 : dL D ≤ 8) (hO : wfO D) (hA : acD D) (s : Int32) : clD D (wl8 D s) := by
  obtain ⟨rk, hr, ha⟩ := hA
  intro x y hx hb hy hby
  refine wlO_closed (f := lsO D) (rk := rk) (fun z b hz hf => hr z (lsO_eq hf).1) (fun z b w hz hf hw9 hb9 => ?_) s 8 x (lsD D (ix (D 58 x))) y (by omega) (if_pos hx) hb (by omega) hy hby
  obtain ⟨q1, q2⟩ := lsO_eq hf
  rw [q2] at hb9
  have := lsR_in hw h40 h8 41 _ w (by have := hO.lt h40 q1; omega) (hO.lt h40 q1) hw9 hb9
  exact (ha z w q1 (by omega) hb9).2
theorem wl_sub {D : ZD} {s : Int32} {x : Nat} (hx : x < 32) (h : hasB s (nI x) = true) : hasB (wl8 D s) (nI x) = true := wlO_in hx h 8
theorem clD_or {D : ZD} {T U : Int32} (h8 : dL D ≤ 8) (hT : clD D T) (hU : clD D U) : clD D (T ||| U) := by
  intro x y hx hb hy hby
  rw [hasB_or (by omega), Bool.or_eq_true] at hb ⊢
  rcases hb with hb | hb
  · exact Or.inl (hT x y hx hb hy hby)
  · exact Or.inr (hU x y hx hb hy hby)
theorem wl_or {D : ZD} (hw : wfR D) (h40 : dR D ≤ 40) (h8 : dL D ≤ 8) (hO : wfO D) (hA : acD D) (s t : Int32) : wl8 D (s ||| t) = wl8 D s ||| wl8 D t := by
  refine hasB_ext fun i hi => ?_
  have c := fun u => wl_cl hw h40 h8 hO hA u
  have h1 : hasB (wl8 D (s ||| t)) (nI i) = true → hasB (wl8 D s ||| wl8 D t) (nI i) = true := fun h => wl_min h8 (clD_or h8 (c s) (c t)) (fun x hx hb => by
    rw [hasB_or hx, Bool.or_eq_true] at hb ⊢
    rcases hb with hb | hb
    · exact Or.inl (wl_sub hx hb)
    · exact Or.inr (wl_sub hx hb)) 8 i hi h
  have h2 : hasB (wl8 D s ||| wl8 D t) (nI i) = true → hasB (wl8 D (s ||| t)) (nI i) = true := fun h => by
    rw [hasB_or hi, Bool.or_eq_true] at h
    rcases h with h | h
    · exact wl_min h8 (c (s ||| t)) (fun x hx hb => wl_sub hx (by rw [hasB_or hx, hb]; rfl)) 8 i hi h
    · exact wl_min h8 (c (s ||| t)) (fun x hx hb => wl_sub hx (by rw [hasB_or hx, hb, Bool.or_true])) 8 i hi h
  exact Bool.eq_iff_iff.mpr ⟨h1, h2⟩
theorem wl_0 {D : ZD} (h8 : dL D ≤ 8) : wl8 D 0 = 0 := by
  refine hasB_ext fun i hi => ?_
  rw [hasB_0 hi]
  cases hq : hasB (wl8 D 0) (nI i) with
  | false => rfl
  | true =>
    have := wl_min h8 (T := 0) (s := 0) (fun x y hx hb hy _ => by rw [hasB_0 (by omega)] at hb; cases hb) (fun x hx hb => hb) 8 i hi hq
    rw [hasB_0 hi] at this; cases this
theorem wl_bit {D : ZD} (hw : wfR D) (h40 : dR D ≤ 40) (h8 : dL D ≤ 8) (hO : wfO D) (hA : acD D) {l : Nat} (hl : l < dL D) : wl8 D (bitI l) = bitI l ||| wl8 D (lsD D (ix (D 58 l))) := by
  have c := fun u => wl_cl hw h40 h8 hO hA u
  refine hasB_ext fun i hi => Bool.eq_iff_iff.mpr ⟨fun h => ?_, fun h => ?_⟩
  · refine wl_min h8 (T := bitI l ||| wl8 D (lsD D (ix (D 58 l)))) (fun x y hx hb hy hby => ?_) (fun x hx hb => by rw [hasB_or hx, hb]; rfl) 8 i hi h
    rw [hasB_or (by omega), Bool.or_eq_true] at hb
    rw [hasB_or hy, Bool.or_eq_true]
    rcases hb with hb | hb
    · rw [hasB_bit (by omega) (by omega)] at hb
      have := of_decide_eq_true hb
      subst this
      exact Or.inr (wl_sub hy hby)
    · exact Or.inr (c _ x y hx hb hy hby)
  · rw [hasB_or hi, Bool.or_eq_true] at h
    have hll : hasB (bitI l) (nI l) = true := by rw [hasB_bit (by omega) (by omega)]; exact decide_eq_true rfl
    rcases h with h | h
    · exact wl_sub hi h
    · exact wl_min h8 (c (bitI l)) (fun x hx hb => c (bitI l) l x hl (wl_sub (by omega) hll) hx hb) 8 i hi h

set_option maxRecDepth 100000 in
set_option maxHeartbeats 800000 in
theorem M_asked {l : Launch} (hl0 : l.stackTraces = false) {D : ZD} {J : Nat → Int64} {S : ZM} {M : Nat} {r rk : Nat → Nat} (hM : mR D J S M r) (hw : wfR D) (h40 : dR D ≤ 40) (h8 : dL D ≤ 8) (hO : wfO D) (hAc : acD D) (hrk : ∀ i j : Nat, i < dL D → j < 8 → hasB (lsD D (ix (D 58 i))) (nI j) = true → j < dL D ∧ rk j < rk i) : ∀ (n f ru : Nat), ru < f → ru < dR D → (∀ i : Nat, i < 8 → hasB (lsR D f ru) (nI i) = true → i < dL D ∧ rk i < n) → zMet l yX5_asked (Cond.code yX5_asked cX5_asked 3 (some .int) :: LWm) ({ frames := 41 * n + ru + 1, cells := 0, slots := 0, locals := 22 * (41 * n + ru + 1) } : Room) 0 0 [zr (some M), zi (nI ru)] S (zPo (fun v S' => v = some (zi (wl8 D (lsR D f ru))) ∧ S' = S) (fun _ _ => False)) := by
  intro n
  induction n using Nat.strongRecOn with
  | ind n ihn =>
  intro f
  induction f with
  | zero => intro ru hf; exact absurd hf (Nat.not_lt_zero ru)
  | succ f ih =>
    intro ru hf hr hls
    have hru40 : ru < 40 := by omega
    refine zMet.of' [some (zr (some M)), some (zi (nI ru)), none] hl0 (by decide) rfl (Nat.le_of_ble_eq_true rfl) rfl ?_
    intro X C N hR hN0 hX F
    subst hX
    refine z_aload_n C rfl dX5_asked_0 ?_
    refine zg5_kind C (fun w h => List.mem_cons_of_mem _ (um_wsX50 w h)) hM.1 (List.mem_cons_of_mem _ wm15) dX5_asked_1 ?_
    refine z_ref (hM.q 53 rfl) ?_
    refine z_iload_n C rfl dX5_asked_4 ?_
    refine z_iaload C (hM.k 53 rfl) (hM.b' 53 rfl (⟨ru, rfl, hru40⟩) (by decide)) dX5_asked_5 ?_
    refine z_int (hM.t 53 rfl (by decide) _) ?_
    refine z_int (x' := D 53 ru) (congrArg _ (nI_clamp (by omega))) ?_
    refine z_iconst 5 (by decide) C dX5_asked_6 ?_
    refine z_icmp_ne 35 C dX5_asked_7 (by decide) (fun c7 => ?_) (fun c7 => ?_)
    · refine z_aload_n C rfl dX5_asked_35 ?_
      refine zg5_kind C (fun w h => List.mem_cons_of_mem _ (um_wsX50 w h)) hM.1 (List.mem_cons_of_mem _ wm15) dX5_asked_36 ?_
      refine z_ref (hM.q 53 rfl) ?_
      refine z_iload_n C rfl dX5_asked_39 ?_
      refine z_iaload C (hM.k 53 rfl) (hM.b' 53 rfl (⟨ru, rfl, hru40⟩) (by decide)) dX5_asked_40 ?_
      refine z_int (hM.t 53 rfl (by decide) _) ?_
      refine z_int (x' := D 53 ru) (congrArg _ (nI_clamp (by omega))) ?_
      refine z_iconst 5 (by decide) C dX5_asked_41 ?_
      refine z_icmp_ge 49 C dX5_asked_42 (by decide) (fun c42 => ?_) (fun c42 => ?_)
      · obtain ⟨k9, hk9, ek⟩ := (hw ru hr).1
        have hk : D 53 ru = 6 ∨ D 53 ru = 7 ∨ D 53 ru = 8 := by
          rcases (show k9 = 0 ∨ k9 = 1 ∨ k9 = 2 ∨ k9 = 3 ∨ k9 = 4 ∨ k9 = 5 ∨ k9 = 6 ∨ k9 = 7 ∨ k9 = 8 by omega) with rfl | rfl | rfl | rfl | rfl | rfl | rfl | rfl | rfl
          · rw [ek] at c42; exact absurd c42 (by decide)
          · rw [ek] at c42; exact absurd c42 (by decide)
          · rw [ek] at c42; exact absurd c42 (by decide)
          · rw [ek] at c42; exact absurd c42 (by decide)
          · rw [ek] at c42; exact absurd c42 (by decide)
          · exact absurd ek c7
          · exact Or.inl ek
          · exact Or.inr (Or.inl ek)
          · exact Or.inr (Or.inr ek)
        obtain ⟨a, b, ha, hb, ea, eb⟩ := (hw ru hr).2.2.2 hk
        have xa : ix (nI a) = a := nI_clamp (by omega)
        have xb : ix (nI b) = b := nI_clamp (by omega)
        have lsa : ∀ j : Nat, j < 8 → hasB (lsR D f a) (nI j) = true → j < dL D ∧ rk j < n := fun j hj h => hls j hj (by
          simp only [lsR]
          rcases hk with q | q | q
          · rw [if_neg c7, if_pos (Or.inl q), ea, xa, hasB_or (by omega), h]; rfl
          · rw [if_neg c7, if_pos (Or.inr q), ea, xa, hasB_or (by omega), h]; rfl
          · rw [if_neg c7, if_neg (by rw [q]; decide), if_pos q, ea, xa]; exact h)
        refine z_aload_n C rfl dX5_asked_49 ?_
        refine z_aload_n C rfl dX5_asked_50 ?_
        refine zg5_one C (fun w h => List.mem_cons_of_mem _ (um_wsX50 w h)) hM.1 (List.mem_cons_of_mem _ wm16) dX5_asked_51 ?_
        refine z_ref (hM.q 54 rfl) ?_
        refine z_iload_n C rfl dX5_asked_54 ?_
        refine z_iaload C (hM.k 54 rfl) (hM.b' 54 rfl (⟨ru, rfl, hru40⟩) (by decide)) dX5_asked_55 ?_
        refine z_int (hM.t 54 rfl (by decide) _) ?_
        refine z_int (x' := nI a) ((congrArg _ (nI_clamp (by omega))).trans ea) ?_
        refine z_callM 1 [zi (nI a)] C rfl (ih a (by omega) (by omega) lsa) rfl (zgoodV LWm_good wm118 wm119 wm120 wm37 wm121) rfl rfl rfl (by decide +kernel) rfl (by rw [hR]; exact ⟨by show 41 * n + a + 1 + 1 ≤ 41 * n + ru + 1; omega, by show 8 + (3 + 11) + 22 * (41 * n + a + 1) ≤ 22 * (41 * n + ru + 1); omega⟩) hM.1 (by rw [hR]; exact ⟨Nat.le_of_ble_eq_true rfl, Nat.le_of_ble_eq_true rfl⟩) (Nat.le_of_ble_eq_true rfl) dX5_asked_56 (fun v56 S56 h56 => ?_) (fun E56 S56 h56 => ?_)
        · obtain ⟨rfl, q56⟩ := h56
          subst S56
          refine z_istore_n [_, _, _] C (by decide) rfl dX5_asked_59 ?_
          refine z_aload_n C rfl dX5_asked_60 ?_
          refine zg5_kind C (fun w h => List.mem_cons_of_mem _ (um_wsX50 w h)) hM.1 (List.mem_cons_of_mem _ wm15) dX5_asked_61 ?_
          refine z_ref (hM.q 53 rfl) ?_
          refine z_iload_n C rfl dX5_asked_64 ?_
          refine z_iaload C (hM.k 53 rfl) (hM.b' 53 rfl (⟨ru, rfl, hru40⟩) (by decide)) dX5_asked_65 ?_
          refine z_int (hM.t 53 rfl (by decide) _) ?_
          refine z_int (x' := D 53 ru) (congrArg _ (nI_clamp (by omega))) ?_
          refine z_bipush 6 (by decide) C dX5_asked_66 ?_
          refine z_icmp_eq 82 C dX5_asked_68 (by decide) (fun c68 => ?_) (fun c68 => ?_)
          · have lsb : ∀ j : Nat, j < 8 → hasB (lsR D f b) (nI j) = true → j < dL D ∧ rk j < n := fun j hj h => hls j hj (by simp only [lsR]; rw [if_neg c7, if_pos (Or.inl c68), eb, xb, hasB_or (by omega), h, Bool.or_true])
            refine z_iload_n C rfl dX5_asked_82 ?_
            refine z_aload_n C rfl dX5_asked_83 ?_
            refine z_aload_n C rfl dX5_asked_84 ?_
            refine zg5_two C (fun w h => List.mem_cons_of_mem _ (um_wsX50 w h)) hM.1 (List.mem_cons_of_mem _ wm17) dX5_asked_85 ?_
            refine z_ref (hM.q 55 rfl) ?_
            refine z_iload_n C rfl dX5_asked_88 ?_
            refine z_iaload C (hM.k 55 rfl) (hM.b' 55 rfl (⟨ru, rfl, hru40⟩) (by decide)) dX5_asked_89 ?_
            refine z_int (hM.t 55 rfl (by decide) _) ?_
            refine z_int (x' := nI b) ((congrArg _ (nI_clamp (by omega))).trans eb) ?_
            refine z_callM 1 [zi (nI b)] C rfl (ih b (by omega) (by omega) lsb) rfl (zgoodV LWm_good wm118 wm119 wm120 wm37 wm121) rfl rfl rfl (by decide +kernel) rfl (by rw [hR]; exact ⟨by show 41 * n + b + 1 + 1 ≤ 41 * n + ru + 1; omega, by show 8 + (3 + 11) + 22 * (41 * n + b + 1) ≤ 22 * (41 * n + ru + 1); omega⟩) hM.1 (by rw [hR]; exact ⟨Nat.le_of_ble_eq_true rfl, Nat.le_of_ble_eq_true rfl⟩) (Nat.le_of_ble_eq_true rfl) dX5_asked_90 (fun v90 S90 h90 => ?_) (fun E90 S90 h90 => ?_)
            · obtain ⟨rfl, q90⟩ := h90
              subst S90
              refine z_ior C dX5_asked_93 ?_
              refine z_goto 98 C dX5_asked_94 (by decide) ?_
              refine z_ireturn C F (Nat.le_of_ble_eq_true rfl) (Nat.le_of_ble_eq_true rfl) dX5_asked_98 ?_
              exact ⟨by simp only [lsR]; rw [if_neg c7, if_pos (Or.inl c68), ea, xa, eb, xb, wl_or hw h40 h8 hO hAc], rfl⟩
            · exact h90.elim
          · refine z_aload_n C rfl dX5_asked_71 ?_
            refine zg5_kind C (fun w h => List.mem_cons_of_mem _ (um_wsX50 w h)) hM.1 (List.mem_cons_of_mem _ wm15) dX5_asked_72 ?_
            refine z_ref (hM.q 53 rfl) ?_
            refine z_iload_n C rfl dX5_asked_75 ?_
            refine z_iaload C (hM.k 53 rfl) (hM.b' 53 rfl (⟨ru, rfl, hru40⟩) (by decide)) dX5_asked_76 ?_
            refine z_int (hM.t 53 rfl (by decide) _) ?_
            refine z_int (x' := D 53 ru) (congrArg _ (nI_clamp (by omega))) ?_
            refine z_bipush 7 (by decide) C dX5_asked_77 ?_
            refine z_icmp_ne 97 C dX5_asked_79 (by decide) (fun c79 => ?_) (fun c79 => ?_)
            · refine z_iload_n C rfl dX5_asked_97 ?_
              refine z_ireturn C F (Nat.le_of_ble_eq_true rfl) (Nat.le_of_ble_eq_true rfl) dX5_asked_98 ?_
              exact ⟨by simp only [lsR]; rw [if_neg c7, if_neg (fun z => z.elim c68 c79), if_pos (by rcases hk with q | q | q; exact absurd q c68; exact absurd q c79; exact q), ea, xa], rfl⟩
            · have lsb : ∀ j : Nat, j < 8 → hasB (lsR D f b) (nI j) = true → j < dL D ∧ rk j < n := fun j hj h => hls j hj (by simp only [lsR]; rw [if_neg c7, if_pos (Or.inr c79), eb, xb, hasB_or (by omega), h, Bool.or_true])
              refine z_iload_n C rfl dX5_asked_82 ?_
              refine z_aload_n C rfl dX5_asked_83 ?_
              refine z_aload_n C rfl dX5_asked_84 ?_
              refine zg5_two C (fun w h => List.mem_cons_of_mem _ (um_wsX50 w h)) hM.1 (List.mem_cons_of_mem _ wm17) dX5_asked_85 ?_
              refine z_ref (hM.q 55 rfl) ?_
              refine z_iload_n C rfl dX5_asked_88 ?_
              refine z_iaload C (hM.k 55 rfl) (hM.b' 55 rfl (⟨ru, rfl, hru40⟩) (by decide)) dX5_asked_89 ?_
              refine z_int (hM.t 55 rfl (by decide) _) ?_
              refine z_int (x' := nI b) ((congrArg _ (nI_clamp (by omega))).trans eb) ?_
              refine z_callM 1 [zi (nI b)] C rfl (ih b (by omega) (by omega) lsb) rfl (zgoodV LWm_good wm118 wm119 wm120 wm37 wm121) rfl rfl rfl (by decide +kernel) rfl (by rw [hR]; exact ⟨by show 41 * n + b + 1 + 1 ≤ 41 * n + ru + 1; omega, by show 8 + (3 + 11) + 22 * (41 * n + b + 1) ≤ 22 * (41 * n + ru + 1); omega⟩) hM.1 (by rw [hR]; exact ⟨Nat.le_of_ble_eq_true rfl, Nat.le_of_ble_eq_true rfl⟩) (Nat.le_of_ble_eq_true rfl) dX5_asked_90 (fun v90 S90 h90 => ?_) (fun E90 S90 h90 => ?_)
              · obtain ⟨rfl, q90⟩ := h90
                subst S90
                refine z_ior C dX5_asked_93 ?_
                refine z_goto 98 C dX5_asked_94 (by decide) ?_
                refine z_ireturn C F (Nat.le_of_ble_eq_true rfl) (Nat.le_of_ble_eq_true rfl) dX5_asked_98 ?_
                exact ⟨by simp only [lsR]; rw [if_neg c7, if_pos (Or.inr c79), ea, xa, eb, xb, wl_or hw h40 h8 hO hAc], rfl⟩
              · exact h90.elim
        · exact h56.elim
      · refine z_iconst 0 (by decide) C dX5_asked_45 ?_
        refine z_goto 59 C dX5_asked_46 (by decide) ?_
        refine z_istore_n [_, _, _] C (by decide) rfl dX5_asked_59 ?_
        refine z_aload_n C rfl dX5_asked_60 ?_
        refine zg5_kind C (fun w h => List.mem_cons_of_mem _ (um_wsX50 w h)) hM.1 (List.mem_cons_of_mem _ wm15) dX5_asked_61 ?_
        refine z_ref (hM.q 53 rfl) ?_
        refine z_iload_n C rfl dX5_asked_64 ?_
        refine z_iaload C (hM.k 53 rfl) (hM.b' 53 rfl (⟨ru, rfl, hru40⟩) (by decide)) dX5_asked_65 ?_
        refine z_int (hM.t 53 rfl (by decide) _) ?_
        refine z_int (x' := D 53 ru) (congrArg _ (nI_clamp (by omega))) ?_
        refine z_bipush 6 (by decide) C dX5_asked_66 ?_
        refine z_icmp_eq 82 C dX5_asked_68 (by decide) (fun c68 => ?_) (fun c68 => ?_)
        · exact absurd (by rw [c68]; decide) c42
        · refine z_aload_n C rfl dX5_asked_71 ?_
          refine zg5_kind C (fun w h => List.mem_cons_of_mem _ (um_wsX50 w h)) hM.1 (List.mem_cons_of_mem _ wm15) dX5_asked_72 ?_
          refine z_ref (hM.q 53 rfl) ?_
          refine z_iload_n C rfl dX5_asked_75 ?_
          refine z_iaload C (hM.k 53 rfl) (hM.b' 53 rfl (⟨ru, rfl, hru40⟩) (by decide)) dX5_asked_76 ?_
          refine z_int (hM.t 53 rfl (by decide) _) ?_
          refine z_int (x' := D 53 ru) (congrArg _ (nI_clamp (by omega))) ?_
          refine z_bipush 7 (by decide) C dX5_asked_77 ?_
          refine z_icmp_ne 97 C dX5_asked_79 (by decide) (fun c79 => ?_) (fun c79 => ?_)
          · refine z_iload_n C rfl dX5_asked_97 ?_
            refine z_ireturn C F (Nat.le_of_ble_eq_true rfl) (Nat.le_of_ble_eq_true rfl) dX5_asked_98 ?_
            exact ⟨by simp only [lsR]; rw [if_neg c7, if_neg (fun z => z.elim c68 c79), if_neg (fun z => c42 (by rw [z]; decide)), wl_0 h8], rfl⟩
          · exact absurd (by rw [c79]; decide) c42
    · obtain ⟨i, hi, ei⟩ := (hw ru hr).2.2.1 c7
      have hls5 : hasB (lsR D (f + 1) ru) (nI i) = true := by simp only [lsR]; rw [if_pos c7, ei]; show hasB (bitI i) (nI i) = true; rw [hasB_bit (by omega) (by omega)]; exact decide_eq_true rfl
      obtain ⟨-, hri⟩ := hls i (by omega) hls5
      obtain ⟨s9, hs9, es⟩ := hO i hi
      refine z_iconst 1 (by decide) C dX5_asked_10 ?_
      refine z_aload_n C rfl dX5_asked_11 ?_
      refine zg5_one C (fun w h => List.mem_cons_of_mem _ (um_wsX50 w h)) hM.1 (List.mem_cons_of_mem _ wm16) dX5_asked_12 ?_
      refine z_ref (hM.q 54 rfl) ?_
      refine z_iload_n C rfl dX5_asked_15 ?_
      refine z_iaload C (hM.k 54 rfl) (hM.b' 54 rfl (⟨ru, rfl, hru40⟩) (by decide)) dX5_asked_16 ?_
      refine z_int (hM.t 54 rfl (by decide) _) ?_
      refine z_int (x' := nI i) ((congrArg _ (nI_clamp (by omega))).trans ei) ?_
      refine z_ishl C dX5_asked_17 ?_
      refine z_aload_n C rfl dX5_asked_18 ?_
      refine z_aload_n C rfl dX5_asked_19 ?_
      refine zg5_rule C (fun w h => List.mem_cons_of_mem _ (um_wsX50 w h)) hM.1 (List.mem_cons_of_mem _ wm19) dX5_asked_20 ?_
      refine z_ref (hM.q 58 rfl) ?_
      refine z_aload_n C rfl dX5_asked_23 ?_
      refine zg5_one C (fun w h => List.mem_cons_of_mem _ (um_wsX50 w h)) hM.1 (List.mem_cons_of_mem _ wm16) dX5_asked_24 ?_
      refine z_ref (hM.q 54 rfl) ?_
      refine z_iload_n C rfl dX5_asked_27 ?_
      refine z_iaload C (hM.k 54 rfl) (hM.b' 54 rfl (⟨ru, rfl, hru40⟩) (by decide)) dX5_asked_28 ?_
      refine z_int (hM.t 54 rfl (by decide) _) ?_
      refine z_int (x' := nI i) ((congrArg _ (nI_clamp (by omega))).trans ei) ?_
      refine z_iaload C (hM.k 58 rfl) (hM.b' 58 rfl (⟨i, rfl, by show i < 8; omega⟩) (by decide)) dX5_asked_29 ?_
      refine z_int (hM.t 58 rfl (by decide) _) ?_
      refine z_int (x' := nI s9) ((congrArg _ (nI_clamp (by omega))).trans es) ?_
      refine z_callM 1 [zi (nI s9)] C rfl (ihn (rk i) hri 41 s9 (by omega) hs9 (fun j hj h => hrk i j hi hj (by rw [es, show ix (nI s9) = s9 from nI_clamp (by omega)]; exact h))) rfl (zgoodV LWm_good wm118 wm119 wm120 wm37 wm121) rfl rfl rfl (by decide +kernel) rfl (by rw [hR]; exact ⟨by show 41 * rk i + s9 + 1 + 1 ≤ 41 * n + ru + 1; omega, by show 8 + (3 + 11) + 22 * (41 * rk i + s9 + 1) ≤ 22 * (41 * n + ru + 1); omega⟩) hM.1 (by rw [hR]; exact ⟨Nat.le_of_ble_eq_true rfl, Nat.le_of_ble_eq_true rfl⟩) (Nat.le_of_ble_eq_true rfl) dX5_asked_30 (fun v30 S30 h30 => ?_) (fun E30 S30 h30 => ?_)
      · obtain ⟨rfl, q30⟩ := h30
        subst S30
        refine z_ior C dX5_asked_33 ?_
        refine z_ireturn C F (Nat.le_of_ble_eq_true rfl) (Nat.le_of_ble_eq_true rfl) dX5_asked_34 ?_
        exact ⟨by rw [show lsR D (f + 1) ru = bitI i from (if_pos c7).trans (by rw [ei]; rfl)]; rw [wl_bit hw h40 h8 hO hAc hi, es, show ix (nI s9) = s9 from nI_clamp (by omega)]; rfl, rfl⟩
      · exact h30.elim
theorem M_askedX {l : Launch} (hl0 : l.stackTraces = false) {D : ZD} {J : Nat → Int64} {S : ZM} {M : Nat} {r : Nat → Nat} (hM : mR D J S M r) (hC : wC D) {x : Int32} (hx : hasRl D x) : ∃ f9 l9 : Nat, f9 ≤ 368 ∧ l9 ≤ 8096 ∧ zMet l yX5_asked (Cond.code yX5_asked cX5_asked 3 (some .int) :: LWm) ({ frames := f9, cells := 0, slots := 0, locals := l9 } : Room) 0 0 [zr (some M), zi x] S (zPo (fun v S' => v = some (zi (wl8 D (lsD D (ix x)))) ∧ S' = S) (fun _ _ => False)) := by
  obtain ⟨hN, hw, hO, hAc⟩ := hC
  obtain ⟨rk, hr8, hrk⟩ := id hAc
  have h40 : dR D ≤ 40 := hN.2.2.1.2
  have h8 : dL D ≤ 8 := hN.2.2.2.2
  obtain ⟨w1, w2, w3⟩ := hx.d
  refine ⟨41 * 8 + ix x + 1, 22 * (41 * 8 + ix x + 1), by omega, by omega, ?_⟩
  have q := M_asked hl0 hM hw h40 h8 hO hAc hrk 8 41 (ix x) (by omega) w2 (fun i hi hb => ⟨lsR_in hw h40 h8 41 (ix x) i (by omega) w2 (by omega) hb, hr8 i (lsR_in hw h40 h8 41 (ix x) i (by omega) w2 (by omega) hb)⟩)
  rw [← w3] at q
  exact q
theorem ls_rl {D : ZD} (hO : wfO D) (hN : wfN D) {x : Int32} (hx : hasLs D x) : hasRl D (D 58 (ix x)) := by
  obtain ⟨s, hs, es⟩ := hO (ix x) hx.d.2.1
  exact ⟨s, by have := hN.2.2.1.2; omega, hs, es⟩
set_option maxRecDepth 100000 in
set_option maxHeartbeats 800000 in
theorem M_dependsOn {l : Launch} (hl0 : l.stackTraces = false) {D : ZD} {J : Nat → Int64} {S : ZM} {M : Nat} {r : Nat → Nat} (hM0 : iM D J S M r) (h39 : D 39 0 = 0) (hC : wC D) (x y : Int32) : zMet l yX5_dependsOn (Cond.code yX5_dependsOn cX5_dependsOn 3 (some .boolean) :: LWm) ({ frames := 369, cells := 0, slots := 0, locals := 8868 } : Room) 0 0 [zr (some M), zi x, zi y] S (zPo (fun v S' => (hasLs D x ∧ hasLs D y ∧ v = some (zi (bI (hasB (wl8 D (lsD D (ix (D 58 (ix x))))) y))) ∧ mR D J S' M r) ∨ (¬ (hasLs D x ∧ hasLs D y) ∧ v = some (zi 0) ∧ mR (s39 D 1) J S' M r)) (fun _ _ => False)) := by
  refine zMet.of' [some (zr (some M)), some (zi x), some (zi y)] hl0 (by decide) rfl (Nat.le_of_ble_eq_true rfl) rfl ?_
  intro X C N hR hN0 hX F
  subst hX
  have hN := hC.1
  obtain ⟨w0, hM⟩ := id hM0
  refine z_aload_n C rfl dX5_dependsOn_0 ?_
  refine z_iconst 0 (by decide) C dX5_dependsOn_1 ?_
  refine zp5_thrown C (fun w h => List.mem_cons_of_mem _ (um_wsX50 w h)) hM.1 (List.mem_cons_of_mem _ wm33) dX5_dependsOn_2 ?_
  have hM := hM0.th h39
  refine z_aload_n C rfl dX5_dependsOn_5 ?_
  refine z_aload_n C rfl dX5_dependsOn_6 ?_
  refine z_iload_n C rfl dX5_dependsOn_7 ?_
  refine z_callM 1 [zi x] C rfl (M_noList hl0 hM hN x) rfl (zgoodV LWm_good wm103 wm104 wm105 wm37 wm106) rfl rfl rfl (by decide +kernel) rfl (by rw [hR]; exact ⟨Nat.le_of_ble_eq_true rfl, Nat.le_of_ble_eq_true rfl⟩) hM.1 (by rw [hR]; exact ⟨Nat.le_of_ble_eq_true rfl, Nat.le_of_ble_eq_true rfl⟩) (Nat.le_of_ble_eq_true rfl) dX5_dependsOn_8 (fun v8 S8 h8 => ?_) (fun E8 S8 h8 => ?_)
  · obtain ⟨b8, rfl, hb8, q8⟩ := h8
    subst S8
    cases b8 with
    | false =>
      have y8 := hb8.mp rfl
      refine z_if_ne 22 C dX5_dependsOn_11 (by decide) (fun c11 => absurd c11 (by decide)) (fun _ => ?_)
      refine z_aload_n C rfl dX5_dependsOn_14 ?_
      refine z_iload_n C rfl dX5_dependsOn_15 ?_
      refine z_callM 1 [zi y] C rfl (M_noList hl0 hM hN y) rfl (zgoodV LWm_good wm103 wm104 wm105 wm37 wm106) rfl rfl rfl (by decide +kernel) rfl (by rw [hR]; exact ⟨Nat.le_of_ble_eq_true rfl, Nat.le_of_ble_eq_true rfl⟩) hM.1 (by rw [hR]; exact ⟨Nat.le_of_ble_eq_true rfl, Nat.le_of_ble_eq_true rfl⟩) (Nat.le_of_ble_eq_true rfl) dX5_dependsOn_16 (fun v16 S16 h16 => ?_) (fun E16 S16 h16 => ?_)
      · obtain ⟨b16, rfl, hb16, q16⟩ := h16
        subst S16
        cases b16 with
        | false =>
          have y16 := hb16.mp rfl
          refine z_if_eq 26 C dX5_dependsOn_19 (by decide) (fun _ => ?_) (fun c19 => absurd c19 (by decide))
          refine z_iconst 0 (by decide) C dX5_dependsOn_26 ?_
          refine z_iconst 1 (by decide) C dX5_dependsOn_27 ?_
          refine z_callM 2 [zi (0), zi 1] C rfl (M_fails0 hl0 hM h39 0 1 (by decide)) rfl (zgoodV LWm_good wm64 wm65 wm66 wm37 wm67) rfl rfl rfl (by decide +kernel) rfl (by rw [hR]; exact ⟨Nat.le_of_ble_eq_true rfl, Nat.le_of_ble_eq_true rfl⟩) hM.1 (by rw [hR]; exact ⟨Nat.le_of_ble_eq_true rfl, Nat.le_of_ble_eq_true rfl⟩) (Nat.le_of_ble_eq_true rfl) dX5_dependsOn_28 (fun v28 S28 h28 => ?_) (fun E28 S28 h28 => ?_)
          · obtain ⟨rfl, q28⟩ := h28
            subst S28
            refine z_if_ne 56 C dX5_dependsOn_31 (by decide) (fun c31 => absurd c31 (by decide)) (fun _ => ?_)
            obtain ⟨f9, l9, hf9, hl9, hk9⟩ := M_askedX hl0 hM hC (ls_rl hC.2.2.1 hN y8)
            refine z_aload_n C rfl dX5_dependsOn_34 ?_
            refine z_aload_n C rfl dX5_dependsOn_35 ?_
            refine zg5_rule C (fun w h => List.mem_cons_of_mem _ (um_wsX50 w h)) hM.1 (List.mem_cons_of_mem _ wm19) dX5_dependsOn_36 ?_
            refine z_ref (hM.q 58 rfl) ?_
            refine z_iload_n C rfl dX5_dependsOn_39 ?_
            refine z_iaload C (hM.k 58 rfl) (hM.b' 58 rfl (y8.b) (by decide)) dX5_dependsOn_40 ?_
            refine z_int (hM.t 58 rfl (by decide) _) ?_
            refine z_callM 1 [zi (D 58 (ix x))] C rfl (hk9) rfl (zgoodV LWm_good wm118 wm119 wm120 wm37 wm121) rfl rfl rfl (by decide +kernel) rfl (by rw [hR]; exact ⟨by show f9 + 1 ≤ 369; omega, by show 8 + (3 + 11) + l9 ≤ 8868; omega⟩) hM.1 (by rw [hR]; exact ⟨Nat.le_of_ble_eq_true rfl, Nat.le_of_ble_eq_true rfl⟩) (Nat.le_of_ble_eq_true rfl) dX5_dependsOn_41 (fun v41 S41 h41 => ?_) (fun E41 S41 h41 => ?_)
            · obtain ⟨rfl, q41⟩ := h41
              subst S41
              refine z_iload_n C rfl dX5_dependsOn_44 ?_
              refine z_ishr C dX5_dependsOn_45 ?_
              refine z_iconst 1 (by decide) C dX5_dependsOn_46 ?_
              refine z_iand C dX5_dependsOn_47 ?_
              refine z_iconst 1 (by decide) C dX5_dependsOn_48 ?_
              refine z_icmp_ne 56 C dX5_dependsOn_49 (by decide) (fun c49 => ?_) (fun c49 => ?_)
              · refine z_iconst 0 (by decide) C dX5_dependsOn_56 ?_
                refine z_zreturn C F (Nat.le_of_ble_eq_true rfl) (Nat.le_of_ble_eq_true rfl) (by decide) dX5_dependsOn_57 ?_
                exact Or.inl ⟨y8, y16, by rw [show hasB (wl8 D (lsD D (ix (D 58 (ix x))))) y = false from Bool.eq_false_iff.mpr (fun z => c49 (by have w := y16.d; rw [w.2.2] at z ⊢; exact (shr_bit (by omega)).mpr z))]; rfl, hM⟩
              · refine z_iconst 1 (by decide) C dX5_dependsOn_52 ?_
                refine z_goto 57 C dX5_dependsOn_53 (by decide) ?_
                refine z_zreturn C F (Nat.le_of_ble_eq_true rfl) (Nat.le_of_ble_eq_true rfl) (by decide) dX5_dependsOn_57 ?_
                exact Or.inl ⟨y8, y16, by rw [show hasB (wl8 D (lsD D (ix (D 58 (ix x))))) y = true from by have w := y16.d; rw [w.2.2] at c49 ⊢; exact (shr_bit (by omega)).mp c49]; rfl, hM⟩
            · exact h41.elim
          · exact h28.elim
        | true =>
          have y16 := b_tf hb16
          refine z_if_eq 26 C dX5_dependsOn_19 (by decide) (fun c19 => absurd c19 (by decide)) (fun _ => ?_)
          refine z_iconst 1 (by decide) C dX5_dependsOn_22 ?_
          refine z_goto 27 C dX5_dependsOn_23 (by decide) ?_
          refine z_iconst 1 (by decide) C dX5_dependsOn_27 ?_
          refine z_callM 2 [zi (1), zi 1] C rfl (M_fails1 hl0 hM h39 1 1 (by decide)) rfl (zgoodV LWm_good wm64 wm65 wm66 wm37 wm67) rfl rfl rfl (by decide +kernel) rfl (by rw [hR]; exact ⟨Nat.le_of_ble_eq_true rfl, Nat.le_of_ble_eq_true rfl⟩) hM.1 (by rw [hR]; exact ⟨Nat.le_of_ble_eq_true rfl, Nat.le_of_ble_eq_true rfl⟩) (Nat.le_of_ble_eq_true rfl) dX5_dependsOn_28 (fun v28 S28 h28 => ?_) (fun E28 S28 h28 => ?_)
          · obtain ⟨rfl, hM⟩ := h28
            refine z_if_ne 56 C dX5_dependsOn_31 (by decide) (fun _ => ?_) (fun c31 => absurd c31 (by decide))
            refine z_iconst 0 (by decide) C dX5_dependsOn_56 ?_
            refine z_zreturn C F (Nat.le_of_ble_eq_true rfl) (Nat.le_of_ble_eq_true rfl) (by decide) dX5_dependsOn_57 ?_
            first | exact Or.inr ⟨fun z => y8 z.1, rfl, hM⟩ | exact Or.inr ⟨fun z => y16 z.2, rfl, hM⟩
          · exact h28.elim
      · exact h16.elim
    | true =>
      have y8 := b_tf hb8
      refine z_if_ne 22 C dX5_dependsOn_11 (by decide) (fun _ => ?_) (fun c11 => absurd c11 (by decide))
      refine z_iconst 1 (by decide) C dX5_dependsOn_22 ?_
      refine z_goto 27 C dX5_dependsOn_23 (by decide) ?_
      refine z_iconst 1 (by decide) C dX5_dependsOn_27 ?_
      refine z_callM 2 [zi (1), zi 1] C rfl (M_fails1 hl0 hM h39 1 1 (by decide)) rfl (zgoodV LWm_good wm64 wm65 wm66 wm37 wm67) rfl rfl rfl (by decide +kernel) rfl (by rw [hR]; exact ⟨Nat.le_of_ble_eq_true rfl, Nat.le_of_ble_eq_true rfl⟩) hM.1 (by rw [hR]; exact ⟨Nat.le_of_ble_eq_true rfl, Nat.le_of_ble_eq_true rfl⟩) (Nat.le_of_ble_eq_true rfl) dX5_dependsOn_28 (fun v28 S28 h28 => ?_) (fun E28 S28 h28 => ?_)
      · obtain ⟨rfl, hM⟩ := h28
        refine z_if_ne 56 C dX5_dependsOn_31 (by decide) (fun _ => ?_) (fun c31 => absurd c31 (by decide))
        refine z_iconst 0 (by decide) C dX5_dependsOn_56 ?_
        refine z_zreturn C F (Nat.le_of_ble_eq_true rfl) (Nat.le_of_ble_eq_true rfl) (by decide) dX5_dependsOn_57 ?_
        first | exact Or.inr ⟨fun z => y8 z.1, rfl, hM⟩ | exact Or.inr ⟨fun z => y16 z.2, rfl, hM⟩
      · exact h28.elim
  · exact h8.elim
set_option maxRecDepth 100000 in
set_option maxHeartbeats 800000 in
theorem M_setRule {l : Launch} (hl0 : l.stackTraces = false) {D : ZD} {J : Nat → Int64} {S : ZM} {M : Nat} {r : Nat → Nat} (hM0 : iM D J S M r) (h39 : D 39 0 = 0) (hC : wC D) (x y : Int32) (hC9 : hasLs D x → hasRl D y → hasB (wl8 D (lsD D (ix y))) x = false → wC (opSet D (ix x) y)) : zMet l yX5_setRule (Cond.code yX5_setRule cX5_setRule 4 (some .int) :: LWm) ({ frames := 369, cells := 0, slots := 0, locals := 8868 } : Room) 0 0 [zr (some M), zi x, zi y] S (zPo (fun v S' => (hasLs D x ∧ hasRl D y ∧ hasB (wl8 D (lsD D (ix y))) x = false ∧ v = some (zi (D 58 (ix x))) ∧ okM J S' M r (chgD (opSet D (ix x) y))) ∨ (¬ (hasLs D x ∧ hasRl D y) ∧ v = some (zi 0) ∧ mR (s39 D 1) J S' M r) ∨ (hasLs D x ∧ hasRl D y ∧ hasB (wl8 D (lsD D (ix y))) x = true ∧ v = some (zi 0) ∧ mR (s39 D 2) J S' M r)) (fun _ _ => False)) := by
  refine zMet.of' [some (zr (some M)), some (zi x), some (zi y), none] hl0 (by decide) rfl (Nat.le_of_ble_eq_true rfl) rfl ?_
  intro X C N hR hN0 hX F
  subst hX
  have hN := hC.1
  obtain ⟨w0, hM⟩ := id hM0
  refine z_aload_n C rfl dX5_setRule_0 ?_
  refine z_iconst 0 (by decide) C dX5_setRule_1 ?_
  refine zp5_thrown C (fun w h => List.mem_cons_of_mem _ (um_wsX50 w h)) hM.1 (List.mem_cons_of_mem _ wm33) dX5_setRule_2 ?_
  have hM := hM0.th h39
  refine z_aload_n C rfl dX5_setRule_5 ?_
  refine z_aload_n C rfl dX5_setRule_6 ?_
  refine z_iload_n C rfl dX5_setRule_7 ?_
  refine z_callM 1 [zi x] C rfl (M_noList hl0 hM hN x) rfl (zgoodV LWm_good wm103 wm104 wm105 wm37 wm106) rfl rfl rfl (by decide +kernel) rfl (by rw [hR]; exact ⟨Nat.le_of_ble_eq_true rfl, Nat.le_of_ble_eq_true rfl⟩) hM.1 (by rw [hR]; exact ⟨Nat.le_of_ble_eq_true rfl, Nat.le_of_ble_eq_true rfl⟩) (Nat.le_of_ble_eq_true rfl) dX5_setRule_8 (fun v8 S8 h8 => ?_) (fun E8 S8 h8 => ?_)
  · obtain ⟨b8, rfl, hb8, q8⟩ := h8
    subst S8
    cases b8 with
    | false =>
      have y8 := hb8.mp rfl
      refine z_if_ne 22 C dX5_setRule_11 (by decide) (fun c11 => absurd c11 (by decide)) (fun _ => ?_)
      refine z_aload_n C rfl dX5_setRule_14 ?_
      refine z_iload_n C rfl dX5_setRule_15 ?_
      refine z_callM 1 [zi y] C rfl (M_noRule hl0 hM hN y) rfl (zgoodV LWm_good wm107 wm108 wm109 wm37 wm110) rfl rfl rfl (by decide +kernel) rfl (by rw [hR]; exact ⟨Nat.le_of_ble_eq_true rfl, Nat.le_of_ble_eq_true rfl⟩) hM.1 (by rw [hR]; exact ⟨Nat.le_of_ble_eq_true rfl, Nat.le_of_ble_eq_true rfl⟩) (Nat.le_of_ble_eq_true rfl) dX5_setRule_16 (fun v16 S16 h16 => ?_) (fun E16 S16 h16 => ?_)
      · obtain ⟨b16, rfl, hb16, q16⟩ := h16
        subst S16
        cases b16 with
        | false =>
          have y16 := hb16.mp rfl
          refine z_if_eq 26 C dX5_setRule_19 (by decide) (fun _ => ?_) (fun c19 => absurd c19 (by decide))
          refine z_iconst 0 (by decide) C dX5_setRule_26 ?_
          refine z_iconst 1 (by decide) C dX5_setRule_27 ?_
          refine z_callM 2 [zi (0), zi 1] C rfl (M_fails0 hl0 hM h39 0 1 (by decide)) rfl (zgoodV LWm_good wm64 wm65 wm66 wm37 wm67) rfl rfl rfl (by decide +kernel) rfl (by rw [hR]; exact ⟨Nat.le_of_ble_eq_true rfl, Nat.le_of_ble_eq_true rfl⟩) hM.1 (by rw [hR]; exact ⟨Nat.le_of_ble_eq_true rfl, Nat.le_of_ble_eq_true rfl⟩) (Nat.le_of_ble_eq_true rfl) dX5_setRule_28 (fun v28 S28 h28 => ?_) (fun E28 S28 h28 => ?_)
          · obtain ⟨rfl, q28⟩ := h28
            subst S28
            refine z_if_ne 60 C dX5_setRule_31 (by decide) (fun c31 => absurd c31 (by decide)) (fun _ => ?_)
            obtain ⟨f9, l9, hf9, hl9, hk9⟩ := M_askedX hl0 hM hC y16
            refine z_aload_n C rfl dX5_setRule_34 ?_
            refine z_aload_n C rfl dX5_setRule_35 ?_
            refine z_iload_n C rfl dX5_setRule_36 ?_
            refine z_callM 1 [zi y] C rfl (hk9) rfl (zgoodV LWm_good wm118 wm119 wm120 wm37 wm121) rfl rfl rfl (by decide +kernel) rfl (by rw [hR]; exact ⟨by show f9 + 1 ≤ 369; omega, by show 8 + (3 + 11) + l9 ≤ 8868; omega⟩) hM.1 (by rw [hR]; exact ⟨Nat.le_of_ble_eq_true rfl, Nat.le_of_ble_eq_true rfl⟩) (Nat.le_of_ble_eq_true rfl) dX5_setRule_37 (fun v37 S37 h37 => ?_) (fun E37 S37 h37 => ?_)
            · obtain ⟨rfl, q37⟩ := h37
              subst S37
              refine z_iload_n C rfl dX5_setRule_40 ?_
              refine z_ishr C dX5_setRule_41 ?_
              refine z_iconst 1 (by decide) C dX5_setRule_42 ?_
              refine z_iand C dX5_setRule_43 ?_
              refine z_iconst 1 (by decide) C dX5_setRule_44 ?_
              refine z_icmp_ne 52 C dX5_setRule_45 (by decide) (fun c45 => ?_) (fun c45 => ?_)
              · refine z_iconst 0 (by decide) C dX5_setRule_52 ?_
                refine z_iconst 2 (by decide) C dX5_setRule_53 ?_
                refine z_callM 2 [zi (0), zi 2] C rfl (M_fails0 hl0 hM h39 0 2 (by decide)) rfl (zgoodV LWm_good wm64 wm65 wm66 wm37 wm67) rfl rfl rfl (by decide +kernel) rfl (by rw [hR]; exact ⟨Nat.le_of_ble_eq_true rfl, Nat.le_of_ble_eq_true rfl⟩) hM.1 (by rw [hR]; exact ⟨Nat.le_of_ble_eq_true rfl, Nat.le_of_ble_eq_true rfl⟩) (Nat.le_of_ble_eq_true rfl) dX5_setRule_54 (fun v54 S54 h54 => ?_) (fun E54 S54 h54 => ?_)
                · obtain ⟨rfl, q54⟩ := h54
                  subst S54
                  refine z_if_eq 62 C dX5_setRule_57 (by decide) (fun _ => ?_) (fun c57 => absurd c57 (by decide))
                  have hno : hasB (wl8 D (lsD D (ix y))) x = false := Bool.eq_false_iff.mpr (fun z => c45 (by have w := y8.d; rw [w.2.2] at z ⊢; exact (shr_bit (by omega)).mpr z))
                  refine z_aload_n C rfl dX5_setRule_62 ?_
                  refine zg5_rule C (fun w h => List.mem_cons_of_mem _ (um_wsX50 w h)) hM.1 (List.mem_cons_of_mem _ wm19) dX5_setRule_63 ?_
                  refine z_ref (hM.q 58 rfl) ?_
                  refine z_iload_n C rfl dX5_setRule_66 ?_
                  refine z_iaload C (hM.k 58 rfl) (hM.b' 58 rfl (y8.b) (by decide)) dX5_setRule_67 ?_
                  refine z_int (hM.t 58 rfl (by decide) _) ?_
                  refine z_istore_n [_, _, _, _] C (by decide) rfl dX5_setRule_68 ?_
                  refine z_aload_n C rfl dX5_setRule_69 ?_
                  refine zg5_rule C (fun w h => List.mem_cons_of_mem _ (um_wsX50 w h)) hM.1 (List.mem_cons_of_mem _ wm19) dX5_setRule_70 ?_
                  refine z_ref (hM.q 58 rfl) ?_
                  refine z_iload_n C rfl dX5_setRule_73 ?_
                  refine z_iload_n C rfl dX5_setRule_74 ?_
                  refine z_iastore C (hM.k 58 rfl) (hM.b' 58 rfl (y8.b) (by decide)) dX5_setRule_75 ?_
                  refine z_memM (hM.eI 58 rfl (by decide) _ _) (fun S75 hM => ?_)
                  refine z_aload_n C rfl dX5_setRule_76 ?_
                  refine z_callM 0 [] C rfl (M_changes hl0 hM (hC9 y8 y16 hno)) rfl (zgoodV LWm_good wm68 wm69 wm70 wm37 wm71) rfl rfl rfl (by decide +kernel) rfl (by rw [hR]; exact ⟨Nat.le_of_ble_eq_true rfl, Nat.le_of_ble_eq_true rfl⟩) hM.1 (by rw [hR]; exact ⟨Nat.le_of_ble_eq_true rfl, Nat.le_of_ble_eq_true rfl⟩) (Nat.le_of_ble_eq_true rfl) dX5_setRule_77 (fun v77 S77 h77 => ?_) (fun E77 S77 h77 => ?_)
                  · obtain ⟨rfl, D2, hM, e39, eJ, eM⟩ := h77
                    refine z_iload_n C rfl dX5_setRule_80 ?_
                    refine z_ireturn C F (Nat.le_of_ble_eq_true rfl) (Nat.le_of_ble_eq_true rfl) dX5_setRule_81 ?_
                    exact Or.inl ⟨y8, y16, hno, rfl, D2, hM, (congrFun e39 0).trans h39, eJ, eM⟩
                  · exact h77.elim
                · exact h54.elim
              · refine z_iconst 1 (by decide) C dX5_setRule_48 ?_
                refine z_goto 53 C dX5_setRule_49 (by decide) ?_
                refine z_iconst 2 (by decide) C dX5_setRule_53 ?_
                refine z_callM 2 [zi (1), zi 2] C rfl (M_fails1 hl0 hM h39 1 2 (by decide)) rfl (zgoodV LWm_good wm64 wm65 wm66 wm37 wm67) rfl rfl rfl (by decide +kernel) rfl (by rw [hR]; exact ⟨Nat.le_of_ble_eq_true rfl, Nat.le_of_ble_eq_true rfl⟩) hM.1 (by rw [hR]; exact ⟨Nat.le_of_ble_eq_true rfl, Nat.le_of_ble_eq_true rfl⟩) (Nat.le_of_ble_eq_true rfl) dX5_setRule_54 (fun v54 S54 h54 => ?_) (fun E54 S54 h54 => ?_)
                · obtain ⟨rfl, hM⟩ := h54
                  refine z_if_eq 62 C dX5_setRule_57 (by decide) (fun c57 => absurd c57 (by decide)) (fun _ => ?_)
                  refine z_iconst 0 (by decide) C dX5_setRule_60 ?_
                  refine z_ireturn C F (Nat.le_of_ble_eq_true rfl) (Nat.le_of_ble_eq_true rfl) dX5_setRule_61 ?_
                  exact Or.inr (Or.inr ⟨y8, y16, by have w := y8.d; rw [w.2.2] at c45 ⊢; exact (shr_bit (by omega)).mp c45, rfl, hM⟩)
                · exact h54.elim
            · exact h37.elim
          · exact h28.elim
        | true =>
          have y16 := b_tf hb16
          refine z_if_eq 26 C dX5_setRule_19 (by decide) (fun c19 => absurd c19 (by decide)) (fun _ => ?_)
          refine z_iconst 1 (by decide) C dX5_setRule_22 ?_
          refine z_goto 27 C dX5_setRule_23 (by decide) ?_
          refine z_iconst 1 (by decide) C dX5_setRule_27 ?_
          refine z_callM 2 [zi (1), zi 1] C rfl (M_fails1 hl0 hM h39 1 1 (by decide)) rfl (zgoodV LWm_good wm64 wm65 wm66 wm37 wm67) rfl rfl rfl (by decide +kernel) rfl (by rw [hR]; exact ⟨Nat.le_of_ble_eq_true rfl, Nat.le_of_ble_eq_true rfl⟩) hM.1 (by rw [hR]; exact ⟨Nat.le_of_ble_eq_true rfl, Nat.le_of_ble_eq_true rfl⟩) (Nat.le_of_ble_eq_true rfl) dX5_setRule_28 (fun v28 S28 h28 => ?_) (fun E28 S28 h28 => ?_)
          · obtain ⟨rfl, hM⟩ := h28
            refine z_if_ne 60 C dX5_setRule_31 (by decide) (fun _ => ?_) (fun c31 => absurd c31 (by decide))
            refine z_iconst 0 (by decide) C dX5_setRule_60 ?_
            refine z_ireturn C F (Nat.le_of_ble_eq_true rfl) (Nat.le_of_ble_eq_true rfl) dX5_setRule_61 ?_
            first | exact Or.inr (Or.inl ⟨fun z => y8 z.1, rfl, hM⟩) | exact Or.inr (Or.inl ⟨fun z => y16 z.2, rfl, hM⟩)
          · exact h28.elim
      · exact h16.elim
    | true =>
      have y8 := b_tf hb8
      refine z_if_ne 22 C dX5_setRule_11 (by decide) (fun _ => ?_) (fun c11 => absurd c11 (by decide))
      refine z_iconst 1 (by decide) C dX5_setRule_22 ?_
      refine z_goto 27 C dX5_setRule_23 (by decide) ?_
      refine z_iconst 1 (by decide) C dX5_setRule_27 ?_
      refine z_callM 2 [zi (1), zi 1] C rfl (M_fails1 hl0 hM h39 1 1 (by decide)) rfl (zgoodV LWm_good wm64 wm65 wm66 wm37 wm67) rfl rfl rfl (by decide +kernel) rfl (by rw [hR]; exact ⟨Nat.le_of_ble_eq_true rfl, Nat.le_of_ble_eq_true rfl⟩) hM.1 (by rw [hR]; exact ⟨Nat.le_of_ble_eq_true rfl, Nat.le_of_ble_eq_true rfl⟩) (Nat.le_of_ble_eq_true rfl) dX5_setRule_28 (fun v28 S28 h28 => ?_) (fun E28 S28 h28 => ?_)
      · obtain ⟨rfl, hM⟩ := h28
        refine z_if_ne 60 C dX5_setRule_31 (by decide) (fun _ => ?_) (fun c31 => absurd c31 (by decide))
        refine z_iconst 0 (by decide) C dX5_setRule_60 ?_
        refine z_ireturn C F (Nat.le_of_ble_eq_true rfl) (Nat.le_of_ble_eq_true rfl) dX5_setRule_61 ?_
        first | exact Or.inr (Or.inl ⟨fun z => y8 z.1, rfl, hM⟩) | exact Or.inr (Or.inl ⟨fun z => y16 z.2, rfl, hM⟩)
      · exact h28.elim
  · exact h8.elim
