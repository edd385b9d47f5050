/-! the reference: all lists filled anew, and counted -/
def wC (D : ZD) : Prop := wfN D ∧ wfR D ∧ wfO D ∧ acD D
theorem wC_of {D D1 : ZD} (e : core D1 = core D) : wC D1 = wC D := by
  simp only [wC, wfN, wfR, wfO_of e, acD_of e, dT_of e, dG_of e, dR_of e, dL_of e, coreE e 41 rfl, coreE e 48 rfl, coreE e 52 rfl, coreE e 53 rfl, coreE e 54 rfl, coreE e 55 rfl, coreE e 57 rfl]
theorem tkD_of {D D1 : ZD} (e : core D1 = core D) (l : Nat) : tkD D1 l = tkD D l := by
  simp only [tkD, tkO, prD_of e, plD_of e, mtD_of e, fixD_of e, coreE e 42 rfl, coreE e 58 rfl, coreE e 59 rfl, coreE e 60 rfl]
theorem good_of {D D1 : ZD} (e : core D1 = core D) (E : ZD) (l : Nat) : good D1 E l = good D E l := by
  simp only [good, fixD_of e, tkD_of e]
theorem core_eq {E D : ZD} (h : ∀ k : Nat, 40 ≤ k → k ≤ 60 → E k = D k) : core E = core D := by
  funext k
  simp only [core]
  cases hq : (Nat.ble 40 k && Nat.ble k 60) with
  | false => rfl
  | true =>
    rw [Bool.and_eq_true] at hq
    exact h k (Nat.le_of_ble_eq_true hq.1) (Nat.le_of_ble_eq_true hq.2)
theorem flr_no {k : Nat} (h : k ≠ 61) (h1 : ¬ (63 ≤ k ∧ k ≤ 65)) : flr k = false := by
  unfold flr
  rw [Bool.or_eq_false_iff, Bool.and_eq_false_iff]
  refine ⟨?_, ?_⟩
  · cases hq : Nat.beq k 61 with
    | false => rfl
    | true => exact absurd (Nat.eq_of_beq_eq_true hq) h
  · rcases Nat.lt_or_ge k 63 with q | q
    · exact Or.inl (by cases hq : Nat.ble 63 k with
        | false => rfl
        | true => have := Nat.le_of_ble_eq_true hq; omega)
    · exact Or.inr (by cases hq : Nat.ble k 65 with
        | false => rfl
        | true => have := Nat.le_of_ble_eq_true hq; omega)
theorem jnk_no {k : Nat} (h : jnk k = false) : k ≠ 39 ∧ ¬ (62 ≤ k ∧ k ≤ 65) ∧ k ≠ 72 := by
  refine ⟨(by rintro rfl; cases h), fun q => ?_, (by rintro rfl; cases h)⟩
  obtain ⟨q1, q2⟩ := q
  rcases (show k = 62 ∨ k = 63 ∨ k = 64 ∨ k = 65 by omega) with rfl | rfl | rfl | rfl <;> cases h
theorem eqF.core {E D : ZD} (h : eqF E D) : core E = core D := core_eq fun k h1 h2 => h k (flr_no (by omega) (by omega))
theorem eqJ.core {E D : ZD} (h : eqJ E D) : core E = core D := core_eq fun k h1 h2 => h k (by
  cases hq : jnk k with
  | false => rfl
  | true =>
    unfold jnk at hq
    rw [Bool.or_eq_true, Bool.or_eq_true, Bool.and_eq_true] at hq
    rcases hq with (hq | ⟨hq, -⟩) | hq
    · have := Nat.eq_of_beq_eq_true hq; omega
    · have := Nat.le_of_ble_eq_true hq; omega
    · have := Nat.eq_of_beq_eq_true hq; omega)
/-- all lists are ranked as they are kept -/
def wfM (D : ZD) : Prop := ∀ l : Nat, l < dL D → good D D l
theorem tcF_all {K K' : Nat → Int32} {n : Nat} (hn : n ≤ 8) (h : ∀ l : Nat, n ≤ l → K' l = K l) : tcF K K' n = tcF K K' 8 := by
  have : ∀ m : Nat, tcF K K' (n + m) = tcF K K' n := by
    intro m
    induction m with
    | zero => rfl
    | succ m ih => rw [← Nat.add_assoc, show tcF K K' (n + m + 1) = tcF K K' (n + m) from if_pos (h _ (by omega))]; exact ih
  have := this (8 - n)
  rw [show n + (8 - n) = 8 by omega] at this
  exact this.symm

set_option maxRecDepth 100000 in
set_option maxHeartbeats 4000000 in
theorem M_fillAll {l : Launch} (hl0 : l.stackTraces = false) {D : ZD} {J : Nat → Int64} {S : ZM} {M : Nat} {r : Nat → Nat} (hM : mR D J S M r) (hC : wC D) : zMet l yX5_fillAll (Cond.code yX5_fillAll cX5_fillAll 2 none :: LWm) ({ frames := 345, cells := 0, slots := 0, locals := 8826 } : Room) 0 0 [zr (some M)] S (zPo (fun v S' => v = none ∧ ∃ E' : ZD, mR E' J S' M r ∧ eqF E' D ∧ (∀ l : Nat, l < dL D → good D E' l) ∧ ∀ l : Nat, dL D ≤ l → E' 61 l = D 61 l) (fun _ _ => False)) := by
  refine zMet.of' [some (zr (some M)), none] hl0 (by decide) rfl (Nat.le_of_ble_eq_true rfl) rfl ?_
  intro X C N hR hN0 hX F
  subst hX
  obtain ⟨hN, hw, hO, hAc⟩ := hC
  obtain ⟨rk, hrk, hac⟩ := id hAc
  have h57 : D 57 0 = nI (dL D) := hN.2.2.2.1
  have h8 : dL D ≤ 8 := hN.2.2.2.2
  have loopB : ∀ (m k : Nat) (E : ZD) (S1 : ZM), k + m = dL D → mR E J S1 M r → eqF E D → inv D rk 8 E → (∀ l : Nat, l < k → ¬ E 65 l = 0) → (∀ l : Nat, dL D ≤ l → E 61 l = D 61 l) → zW X 2 0 0 S1 25 [some (zr (some M)), some (zi (nI k))] [] := by
    intro m
    induction m with
    | zero =>
      intro k E S1 hk hM hE hI hf h61
      obtain rfl : k = dL D := by omega
      refine z_iload_n C rfl dX5_fillAll_25 ?_
      refine z_aload_n C rfl dX5_fillAll_26 ?_
      refine zg5_lists C (fun w h => List.mem_cons_of_mem _ (um_wsX50 w h)) hM.1 (List.mem_cons_of_mem _ wm41) dX5_fillAll_27 ?_
      refine z_int (hM.i 57 rfl) ?_
      refine z_int ((congrFun (hE 57 rfl) 0).trans h57) ?_
      refine z_icmp_ge 44 C dX5_fillAll_30 (by decide) (fun c30 => ?_) (fun c30 => ?_)
      · refine z_return C F (Nat.le_of_ble_eq_true rfl) (Nat.le_of_ble_eq_true rfl) dX5_fillAll_44 ?_
        exact ⟨rfl, E, hM, hE, fun l hl => hI l hl (hrk l hl) (hf l hl), h61⟩
      · exact absurd (Int32.le_refl _) c30
    | succ m ih =>
      intro k E S1 hk hM hE hI hf h61
      have hkd : k < dL D := by omega
      refine z_iload_n C rfl dX5_fillAll_25 ?_
      refine z_aload_n C rfl dX5_fillAll_26 ?_
      refine zg5_lists C (fun w h => List.mem_cons_of_mem _ (um_wsX50 w h)) hM.1 (List.mem_cons_of_mem _ wm41) dX5_fillAll_27 ?_
      refine z_int (hM.i 57 rfl) ?_
      refine z_int ((congrFun (hE 57 rfl) 0).trans h57) ?_
      refine z_icmp_ge 44 C dX5_fillAll_30 (by decide) (fun c30 => ?_) (fun c30 => ?_)
      · exact absurd c30 (n_ge hkd (by omega))
      · refine z_aload_n C rfl dX5_fillAll_33 ?_
        refine z_iload_n C rfl dX5_fillAll_34 ?_
        refine z_callM 1 [zi (nI k)] C rfl (M_fill hl0 hw hN hO hAc hac 8 k hkd (hrk k hkd) E _ hM hE (hI.mono (by have := hrk k hkd; omega))) rfl (zgoodV LWm_good wm51 wm52 wm53 wm37 wm58) rfl rfl rfl (by decide +kernel) rfl (by rw [hR]; exact ⟨by show 43 * (rk k + 1) + 1 ≤ 345; have := hrk k hkd; omega, by show 8 + (7 + 11) + 1100 * (rk k + 1) ≤ 8826; have := hrk k hkd; omega⟩) hM.1 (by rw [hR]; exact ⟨Nat.le_of_ble_eq_true rfl, Nat.le_of_ble_eq_true rfl⟩) (Nat.le_of_ble_eq_true rfl) dX5_fillAll_35 (fun v35 S35 h35 => ?_) (fun E35 S35 h35 => ?_)
        · obtain ⟨rfl, E1, hM, hE1, hs, hz, -⟩ := h35
          have hI1 := hI.stp hs
          have hf1 : ∀ l : Nat, l < k + 1 → ¬ E1 65 l = 0 := fun l hl => by
            by_cases q : l = k
            · subst q; exact hz
            · rcases hs l with a | ⟨-, -, -, a, -⟩
              · rw [a.1]; exact hf l (by omega)
              · exact a
          have h611 : ∀ l : Nat, dL D ≤ l → E1 61 l = D 61 l := fun l hl => by
            rcases hs l with a | ⟨a, -⟩
            · exact a.2.1.trans (h61 l hl)
            · omega
          refine z_inc (1) [_, _] C rfl (by decide) (by decide) rfl dX5_fillAll_38 ?_
          refine z_goto 25 C dX5_fillAll_41 (by decide) ?_
          have q := ih (k + 1) E1 _ (by omega) hM hE1 hI1 hf1 h611
          rw [nI_succ] at q
          exact q
        · exact h35.elim
  have loopA : ∀ (m k : Nat) (E : ZD) (S1 : ZM), k + m = dL D → mR E J S1 M r → (∀ k9 : Nat, k9 ≠ 65 → E k9 = D k9) → (∀ l : Nat, l < k → E 65 l = 0) → zW X 2 0 0 S1 2 [some (zr (some M)), some (zi (nI k))] [] := by
    intro m
    induction m with
    | zero =>
      intro k E S1 hk hM hA hz
      obtain rfl : k = dL D := by omega
      refine z_iload_n C rfl dX5_fillAll_2 ?_
      refine z_aload_n C rfl dX5_fillAll_3 ?_
      refine zg5_lists C (fun w h => List.mem_cons_of_mem _ (um_wsX50 w h)) hM.1 (List.mem_cons_of_mem _ wm41) dX5_fillAll_4 ?_
      refine z_int (hM.i 57 rfl) ?_
      refine z_int ((congrFun (hA 57 (by decide)) 0).trans h57) ?_
      refine z_icmp_ge 23 C dX5_fillAll_7 (by decide) (fun c7 => ?_) (fun c7 => ?_)
      · refine z_iconst 0 (by decide) C dX5_fillAll_23 ?_
        refine z_istore_n [_, _] C (by decide) rfl dX5_fillAll_24 ?_
        exact loopB (dL D) 0 E _ (by omega) hM (fun k9 h9 => hA k9 (by rintro rfl; cases h9)) (fun l hl _ he => absurd (hz l hl) he) (fun l hl => absurd hl (Nat.not_lt_zero l)) (fun l _ => congrFun (hA 61 (by decide)) l)
      · exact absurd (Int32.le_refl _) c7
    | succ m ih =>
      intro k E S1 hk hM hA hz
      have hkd : k < dL D := by omega
      refine z_iload_n C rfl dX5_fillAll_2 ?_
      refine z_aload_n C rfl dX5_fillAll_3 ?_
      refine zg5_lists C (fun w h => List.mem_cons_of_mem _ (um_wsX50 w h)) hM.1 (List.mem_cons_of_mem _ wm41) dX5_fillAll_4 ?_
      refine z_int (hM.i 57 rfl) ?_
      refine z_int ((congrFun (hA 57 (by decide)) 0).trans h57) ?_
      refine z_icmp_ge 23 C dX5_fillAll_7 (by decide) (fun c7 => ?_) (fun c7 => ?_)
      · exact absurd c7 (n_ge hkd (by omega))
      · refine z_aload_n C rfl dX5_fillAll_10 ?_
        refine zg5_isFilled C (fun w h => List.mem_cons_of_mem _ (um_wsX50 w h)) hM.1 (List.mem_cons_of_mem _ wm26) dX5_fillAll_11 ?_
        refine z_ref (hM.q 65 rfl) ?_
        refine z_iload_n C rfl dX5_fillAll_14 ?_
        refine z_iconst 0 (by decide) C dX5_fillAll_15 ?_
        refine z_zastore C (hM.k 65 rfl) (hM.b' 65 rfl (⟨k, rfl, by show k < 8; omega⟩) (by decide)) dX5_fillAll_16 ?_
        refine z_memM (hM.eI 65 rfl (by decide) _ _) (fun S16 hM => ?_)
        refine z_inc (1) [_, _] C rfl (by decide) (by decide) rfl dX5_fillAll_17 ?_
        refine z_goto 2 C dX5_fillAll_20 (by decide) ?_
        have q := ih (k + 1) _ _ (by omega) hM (fun k9 h9 => by rw [dS_ne h9]; exact hA k9 h9) (fun l hl => by
          rw [dS_self, nI_clamp (by omega)]
          by_cases z : l = k
          · subst z; rw [up1_self]; decide
          · rw [up1_ne z]; exact hz l (by omega))
        rw [nI_succ] at q
        exact q
  refine z_iconst 0 (by decide) C dX5_fillAll_0 ?_
  refine z_istore_n [_, _] C (by decide) rfl dX5_fillAll_1 ?_
  exact loopA (dL D) 0 D _ (by omega) hM (fun _ _ => rfl) (fun l hl => absurd hl (Nat.not_lt_zero l))
set_option maxRecDepth 100000 in
set_option maxHeartbeats 4000000 in
theorem M_changes {l : Launch} (hl0 : l.stackTraces = false) {D : ZD} {J : Nat → Int64} {S : ZM} {M : Nat} {r : Nat → Nat} (hM : mR D J S M r) (hC : wC D) : zMet l yX5_changes (Cond.code yX5_changes cX5_changes 2 none :: LWm) ({ frames := 346, cells := 0, slots := 0, locals := 8847 } : Room) 0 0 [zr (some M)] S (zPo (fun v S' => v = none ∧ ∃ E' : ZD, mR E' J S' M r ∧ E' 39 = D 39 ∧ eqJ E' (chgD D) ∧ wfM E') (fun _ _ => False)) := by
  refine zMet.of' [some (zr (some M)), none] hl0 (by decide) rfl (Nat.le_of_ble_eq_true rfl) rfl ?_
  intro X C N hR hN0 hX F
  subst hX
  have hN := hC.1
  have h57 : D 57 0 = nI (dL D) := hN.2.2.2.1
  have h8 : dL D ≤ 8 := hN.2.2.2.2
  have loopA : ∀ (m k : Nat) (E : ZD) (S1 : ZM), k + m = dL D → mR E J S1 M r → (∀ k9 : Nat, k9 ≠ 62 → E k9 = D k9) → (∀ l : Nat, l < k → E 62 l = D 61 l) → zW X 2 0 0 S1 2 [some (zr (some M)), some (zi (nI k))] [] := by
    intro m
    induction m with
    | zero =>
      intro k E S1 hk hM hA hz
      obtain rfl : k = dL D := by omega
      refine z_iload_n C rfl dX5_changes_2 ?_
      refine z_aload_n C rfl dX5_changes_3 ?_
      refine zg5_lists C (fun w h => List.mem_cons_of_mem _ (um_wsX50 w h)) hM.1 (List.mem_cons_of_mem _ wm41) dX5_changes_4 ?_
      refine z_int (hM.i 57 rfl) ?_
      refine z_int ((congrFun (hA 57 (by decide)) 0).trans h57) ?_
      refine z_icmp_ge 28 C dX5_changes_7 (by decide) (fun c7 => ?_) (fun c7 => ?_)
      · have eC : core E = core D := core_eq (fun k9 h1 h2 => hA k9 (by omega))
        refine z_aload_n C rfl dX5_changes_28 ?_
        refine z_callM 0 [] C rfl (M_fillAll hl0 hM ((wC_of eC).mpr hC)) rfl (zgoodV LWm_good wm60 wm61 wm62 wm37 wm63) rfl rfl rfl (by decide +kernel) rfl (by rw [hR]; exact ⟨Nat.le_of_ble_eq_true rfl, Nat.le_of_ble_eq_true rfl⟩) hM.1 (by rw [hR]; exact ⟨Nat.le_of_ble_eq_true rfl, Nat.le_of_ble_eq_true rfl⟩) (Nat.le_of_ble_eq_true rfl) dX5_changes_29 (fun v29 S29 h29 => ?_) (fun E29 S29 h29 => ?_)
        · obtain ⟨rfl, E2, hM, hE2, hg, h61⟩ := h29
          have hdL : dL E = dL D := dL_of eC
          have e57 : E2 57 0 = D 57 0 := (congrFun (hE2 57 rfl) 0).trans (congrFun (hA 57 (by decide)) 0)
          have h62 : ∀ l : Nat, l < dL D → E2 62 l = D 61 l := fun l hl => (congrFun (hE2 62 rfl) l).trans (hz l hl)
          have hK : E2 61 = fKd D (D 61) := by
            funext l
            show _ = if l < dL D then fixD D l else D 61 l
            by_cases q : l < dL D
            · rw [if_pos q, (hg l (by rw [hdL]; exact q)).1, fixD_of eC]
            · rw [if_neg q, h61 l (by rw [hdL]; omega), hA 61 (by decide)]
          have eC2 : core E2 = core D := hE2.core.trans eC
          have hfin : ∀ E9 : ZD, (∀ k9 : Nat, k9 ≠ 66 → E9 k9 = E2 k9) → E9 66 0 = tcF (D 61) (E2 61) (dL D) → (∀ i : Nat, i ≠ 0 → E9 66 i = D 66 i) → E9 39 = D 39 ∧ eqJ E9 (chgD D) ∧ wfM E9 := fun E9 h9 ht ht0 => by
            have eC9 : core E9 = core D := (core_eq (fun k _ _ => h9 k (by omega))).trans eC2
            refine ⟨(h9 39 (by decide)).trans ((hE2 39 rfl).trans (hA 39 (by decide))), fun k hk => ?_, fun l hl => ?_⟩
            · obtain ⟨j1, j2, j3⟩ := jnk_no hk
              unfold chgD
              by_cases q6 : k = 66
              · subst q6
                rw [dS_self]
                funext i
                by_cases z : i = 0
                · subst z
                  rw [if_pos rfl, ht, hK]
                  exact tcF_all h8 (fun l hl => if_neg (by omega))
                · rw [if_neg z]; exact ht0 i z
              · rw [dS_ne q6, h9 k q6]
                by_cases q1 : k = 61
                · subst q1; rw [dS_self]; exact hK
                · rw [dS_ne q1, hE2 k (flr_no q1 (by omega)), hA k (by omega)]
            · rw [dL_of eC9] at hl
              have g := hg l (by rw [hdL]; exact hl)
              rw [good_of eC] at g
              rw [good_of eC9]
              exact g.same ⟨congrFun (h9 65 (by decide)) l, congrFun (h9 61 (by decide)) l, congrFun (h9 64 (by decide)) l, fun j _ => congrFun (h9 63 (by decide)) _⟩
          refine z_aload_n C rfl dX5_changes_32 ?_
          refine z_iconst 0 (by decide) C dX5_changes_33 ?_
          refine zp5_touched C (fun w h => List.mem_cons_of_mem _ (um_wsX50 w h)) hM.1 (List.mem_cons_of_mem _ wm59) dX5_changes_34 ?_
          refine z_memM (hM.sI 66 rfl _) (fun S34 hM => ?_)
          have loopC : ∀ (m k : Nat) (E : ZD) (S1 : ZM), k + m = dL D → mR E J S1 M r → (∀ k9 : Nat, k9 ≠ 66 → E k9 = E2 k9) → E 66 0 = tcF (D 61) (E2 61) k → (∀ i : Nat, i ≠ 0 → E 66 i = D 66 i) → zW X 2 (0 + 0) (0 + 0) S1 39 [some (zr (some M)), some (zi (nI k))] [] := by
            intro m
            induction m with
            | zero =>
              intro k E S1 hk hM hB ht ht0
              obtain rfl : k = dL D := by omega
              refine z_iload_n C rfl dX5_changes_39 ?_
              refine z_aload_n C rfl dX5_changes_40 ?_
              refine zg5_lists C (fun w h => List.mem_cons_of_mem _ (um_wsX50 w h)) hM.1 (List.mem_cons_of_mem _ wm41) dX5_changes_41 ?_
              refine z_int (hM.i 57 rfl) ?_
              refine z_int (((congrFun (hB 57 (by decide)) 0).trans e57).trans h57) ?_
              refine z_icmp_ge 82 C dX5_changes_44 (by decide) (fun c44 => ?_) (fun c44 => ?_)
              · refine z_return C F (Nat.le_of_ble_eq_true rfl) (Nat.le_of_ble_eq_true rfl) dX5_changes_82 ?_
                exact ⟨rfl, E, hM, hfin E hB ht ht0⟩
              · exact absurd (Int32.le_refl _) c44
            | succ m ih =>
              intro k E S1 hk hM hB ht ht0
              have hkd : k < dL D := by omega
              refine z_iload_n C rfl dX5_changes_39 ?_
              refine z_aload_n C rfl dX5_changes_40 ?_
              refine zg5_lists C (fun w h => List.mem_cons_of_mem _ (um_wsX50 w h)) hM.1 (List.mem_cons_of_mem _ wm41) dX5_changes_41 ?_
              refine z_int (hM.i 57 rfl) ?_
              refine z_int (((congrFun (hB 57 (by decide)) 0).trans e57).trans h57) ?_
              refine z_icmp_ge 82 C dX5_changes_44 (by decide) (fun c44 => ?_) (fun c44 => ?_)
              · exact absurd c44 (n_ge hkd (by omega))
              · refine z_aload_n C rfl dX5_changes_47 ?_
                refine z_dup rfl C dX5_changes_48 ?_
                refine zg5_touched C (fun w h => List.mem_cons_of_mem _ (um_wsX50 w h)) hM.1 (List.mem_cons_of_mem _ wm59) dX5_changes_49 ?_
                refine z_int (hM.i 66 rfl) ?_
                refine z_int ht ?_
                refine z_aload_n C rfl dX5_changes_52 ?_
                refine zg5_ahead C (fun w h => List.mem_cons_of_mem _ (um_wsX50 w h)) hM.1 (List.mem_cons_of_mem _ wm23) dX5_changes_53 ?_
                refine z_ref (hM.q 62 rfl) ?_
                refine z_iload_n C rfl dX5_changes_56 ?_
                refine z_iaload C (hM.k 62 rfl) (hM.b' 62 rfl (⟨k, rfl, by show k < 8; omega⟩) (by decide)) dX5_changes_57 ?_
                refine z_int (hM.t 62 rfl (by decide) _) ?_
                refine z_int (x' := D 61 k) (((congrFun (hB 62 (by decide)) _).trans (congrArg _ (nI_clamp (by omega)))).trans (h62 k hkd)) ?_
                refine z_aload_n C rfl dX5_changes_58 ?_
                refine zg5_kept C (fun w h => List.mem_cons_of_mem _ (um_wsX50 w h)) hM.1 (List.mem_cons_of_mem _ wm22) dX5_changes_59 ?_
                refine z_ref (hM.q 61 rfl) ?_
                refine z_iload_n C rfl dX5_changes_62 ?_
                refine z_iaload C (hM.k 61 rfl) (hM.b' 61 rfl (⟨k, rfl, by show k < 8; omega⟩) (by decide)) dX5_changes_63 ?_
                refine z_int (hM.t 61 rfl (by decide) _) ?_
                refine z_int (x' := E2 61 k) ((congrFun (hB 61 (by decide)) _).trans (congrArg _ (nI_clamp (by omega)))) ?_
                refine z_icmp_ne 71 C dX5_changes_64 (by decide) (fun c64 => ?_) (fun c64 => ?_)
                · refine z_iconst 1 (by decide) C dX5_changes_71 ?_
                  refine z_iadd C dX5_changes_72 ?_
                  refine zp5_touched C (fun w h => List.mem_cons_of_mem _ (um_wsX50 w h)) hM.1 (List.mem_cons_of_mem _ wm59) dX5_changes_73 ?_
                  refine z_memM (hM.sI 66 rfl _) (fun S73 hM => ?_)
                  refine z_inc (1) [_, _] C rfl (by decide) (by decide) rfl dX5_changes_76 ?_
                  refine z_goto 39 C dX5_changes_79 (by decide) ?_
                  have q := ih (k + 1) _ _ (by omega) hM (fun k9 h9 => by rw [dS_ne h9]; exact hB k9 h9) (by rw [dS_self, up1_self]; exact (if_neg (fun z => c64 z.symm)).symm) (fun i hi => by rw [dS_self, up1_ne hi]; exact ht0 i hi)
                  rw [nI_succ] at q
                  exact q
                · refine z_iconst 0 (by decide) C dX5_changes_67 ?_
                  refine z_goto 72 C dX5_changes_68 (by decide) ?_
                  refine z_iadd C dX5_changes_72 ?_
                  refine zp5_touched C (fun w h => List.mem_cons_of_mem _ (um_wsX50 w h)) hM.1 (List.mem_cons_of_mem _ wm59) dX5_changes_73 ?_
                  refine z_memM (hM.sI 66 rfl _) (fun S73 hM => ?_)
                  refine z_inc (1) [_, _] C rfl (by decide) (by decide) rfl dX5_changes_76 ?_
                  refine z_goto 39 C dX5_changes_79 (by decide) ?_
                  have q := ih (k + 1) _ _ (by omega) hM (fun k9 h9 => by rw [dS_ne h9]; exact hB k9 h9) (by rw [dS_self, up1_self]; rw [Int32.add_zero]; exact (if_pos c64.symm).symm) (fun i hi => by rw [dS_self, up1_ne hi]; exact ht0 i hi)
                  rw [nI_succ] at q
                  exact q
          refine z_iconst 0 (by decide) C dX5_changes_37 ?_
          refine z_istore_n [_, _] C (by decide) rfl dX5_changes_38 ?_
          exact loopC (dL D) 0 _ _ (by omega) hM (fun k9 h9 => dS_ne h9) (by rw [dS_self, up1_self]; rfl) (fun i hi => by rw [dS_self, up1_ne hi, hE2 66 rfl, hA 66 (by decide)])
        · exact h29.elim
      · exact absurd (Int32.le_refl _) c7
    | succ m ih =>
      intro k E S1 hk hM hA hz
      have hkd : k < dL D := by omega
      refine z_iload_n C rfl dX5_changes_2 ?_
      refine z_aload_n C rfl dX5_changes_3 ?_
      refine zg5_lists C (fun w h => List.mem_cons_of_mem _ (um_wsX50 w h)) hM.1 (List.mem_cons_of_mem _ wm41) dX5_changes_4 ?_
      refine z_int (hM.i 57 rfl) ?_
      refine z_int ((congrFun (hA 57 (by decide)) 0).trans h57) ?_
      refine z_icmp_ge 28 C dX5_changes_7 (by decide) (fun c7 => ?_) (fun c7 => ?_)
      · exact absurd c7 (n_ge hkd (by omega))
      · refine z_aload_n C rfl dX5_changes_10 ?_
        refine zg5_ahead C (fun w h => List.mem_cons_of_mem _ (um_wsX50 w h)) hM.1 (List.mem_cons_of_mem _ wm23) dX5_changes_11 ?_
        refine z_ref (hM.q 62 rfl) ?_
        refine z_iload_n C rfl dX5_changes_14 ?_
        refine z_aload_n C rfl dX5_changes_15 ?_
        refine zg5_kept C (fun w h => List.mem_cons_of_mem _ (um_wsX50 w h)) hM.1 (List.mem_cons_of_mem _ wm22) dX5_changes_16 ?_
        refine z_ref (hM.q 61 rfl) ?_
        refine z_iload_n C rfl dX5_changes_19 ?_
        refine z_iaload C (hM.k 61 rfl) (hM.b' 61 rfl (⟨k, rfl, by show k < 8; omega⟩) (by decide)) dX5_changes_20 ?_
        refine z_int (hM.t 61 rfl (by decide) _) ?_
        refine z_int (x' := D 61 k) ((congrFun (hA 61 (by decide)) _).trans (congrArg _ (nI_clamp (by omega)))) ?_
        refine z_iastore C (hM.k 62 rfl) (hM.b' 62 rfl (⟨k, rfl, by show k < 8; omega⟩) (by decide)) dX5_changes_21 ?_
        refine z_memM (hM.eI 62 rfl (by decide) _ _) (fun S21 hM => ?_)
        refine z_inc (1) [_, _] C rfl (by decide) (by decide) rfl dX5_changes_22 ?_
        refine z_goto 2 C dX5_changes_25 (by decide) ?_
        have q := ih (k + 1) _ _ (by omega) hM (fun k9 h9 => by rw [dS_ne h9]; exact hA k9 h9) (fun l hl => by
          rw [dS_self, nI_clamp (by omega)]
          by_cases z : l = k
          · subst z; rw [up1_self]
          · rw [up1_ne z]; exact hz l (by omega))
        rw [nI_succ] at q
        exact q
  refine z_iconst 0 (by decide) C dX5_changes_0 ?_
  refine z_istore_n [_, _] C (by decide) rfl dX5_changes_1 ?_
  exact loopA (dL D) 0 D _ (by omega) hM (fun _ _ => rfl) (fun l hl => absurd hl (Nat.not_lt_zero l))
