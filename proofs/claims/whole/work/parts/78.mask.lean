/-! the reference: what it is asked -/
theorem iM.k {D : ZD} {J : Nat → Int64} {S : ZM} {M : Nat} {r : Nat → Nat} (h : iM D J S M r) : mK S M = 7 := by
  obtain ⟨v, h⟩ := h
  exact h.1
theorem hasTr.b {D : ZD} {x : Int32} (h : hasTr D x) : ∃ n : Nat, x = nI n ∧ n < 24 := by
  obtain ⟨t, h1, h2, -⟩ := h
  exact ⟨t, h2, h1⟩
theorem hasTg.b {D : ZD} {x : Int32} (h : hasTg D x) : ∃ n : Nat, x = nI n ∧ n < 16 := by
  obtain ⟨t, h1, -, h2, -⟩ := h
  exact ⟨t, h2, h1⟩
theorem hasRl.b {D : ZD} {x : Int32} (h : hasRl D x) : ∃ n : Nat, x = nI n ∧ n < 40 := by
  obtain ⟨t, h1, -, h2⟩ := h
  exact ⟨t, h2, h1⟩
theorem hasLs.b {D : ZD} {x : Int32} (h : hasLs D x) : ∃ n : Nat, x = nI n ∧ n < 8 := by
  obtain ⟨t, h1, -, h2⟩ := h
  exact ⟨t, h2, h1⟩
theorem hasTr.d {D : ZD} {x : Int32} (h : hasTr D x) : ix x < 24 ∧ x = nI (ix x) ∧ prD D (ix x) = true := by
  obtain ⟨t, h1, rfl, h3⟩ := h
  rw [show ix (nI t) = t from nI_clamp (by omega)]; exact ⟨h1, rfl, h3⟩
theorem hasTg.d {D : ZD} {x : Int32} (h : hasTg D x) : ix x < 16 ∧ ix x < dG D ∧ x = nI (ix x) ∧ D 51 (ix x) = 0 := by
  obtain ⟨t, h1, h2, rfl, h3⟩ := h
  rw [show ix (nI t) = t from nI_clamp (by omega)]; exact ⟨h1, h2, rfl, h3⟩
theorem hasRl.d {D : ZD} {x : Int32} (h : hasRl D x) : ix x < 40 ∧ ix x < dR D ∧ x = nI (ix x) := by
  obtain ⟨t, h1, h2, rfl⟩ := h
  rw [show ix (nI t) = t from nI_clamp (by omega)]; exact ⟨h1, h2, rfl⟩
theorem hasLs.d {D : ZD} {x : Int32} (h : hasLs D x) : ix x < 8 ∧ ix x < dL D ∧ x = nI (ix x) := by
  obtain ⟨t, h1, h2, rfl⟩ := h
  rw [show ix (nI t) = t from nI_clamp (by omega)]; exact ⟨h1, h2, rfl⟩
theorem lsR_in {D : ZD} (hw : wfR D) (h40 : dR D ≤ 40) (h8 : dL D ≤ 8) : ∀ (f ru i : Nat), ru < f → ru < dR D → i < 32 → hasB (lsR D f ru) (nI i) = true → i < dL D
  | 0, _, _, h, _, _, _ => absurd h (Nat.not_lt_zero _)
  | f + 1, ru, i, hf, hr, hi, hb => by
    simp only [lsR] at hb
    have two : D 53 ru = 6 ∨ D 53 ru = 7 ∨ D 53 ru = 8 → ∃ a b : Nat, a < ru ∧ b < ru ∧ ix (D 54 ru) = a ∧ ix (D 55 ru) = b := by
      intro h
      obtain ⟨a, b, ha, hb, e1, e2⟩ := (hw ru hr).2.2.2 h
      exact ⟨a, b, ha, hb, by rw [e1]; exact nI_clamp (by omega), by rw [e2]; exact nI_clamp (by omega)⟩
    by_cases q5 : D 53 ru = 5
    · rw [if_pos q5] at hb
      obtain ⟨j, hj, ej⟩ := (hw ru hr).2.2.1 q5
      rw [ej] at hb
      have hb : hasB (bitI j) (nI i) = true := hb
      rw [hasB_bit (by omega) hi] at hb
      have := of_decide_eq_true hb
      omega
    · rw [if_neg q5] at hb
      by_cases q67 : D 53 ru = 6 ∨ D 53 ru = 7
      · rw [if_pos q67, hasB_or hi, Bool.or_eq_true] at hb
        obtain ⟨a, b, h1, h2, e1, e2⟩ := two (by rcases q67 with q | q; exact Or.inl q; exact Or.inr (Or.inl q))
        rw [e1, e2] at hb
        rcases hb with hb | hb
        · exact lsR_in hw h40 h8 f a i (by omega) (by omega) hi hb
        · exact lsR_in hw h40 h8 f b i (by omega) (by omega) hi hb
      · rw [if_neg q67] at hb
        by_cases q8 : D 53 ru = 8
        · rw [if_pos q8] at hb
          obtain ⟨a, b, h1, h2, e1, e2⟩ := two (Or.inr (Or.inr q8))
          rw [e1] at hb
          exact lsR_in hw h40 h8 f a i (by omega) (by omega) hi hb
        · rw [if_neg q8, hasB_0 hi] at hb; cases hb
/-- behind questions about rules the lists are as they were -/
theorem stp_end {D E : ZD} {rk : Nat → Nat} {n : Nat} (hE : eqF E D) (hs : stp D rk n D E) (hM : wfM D) (hK : ∀ l : Nat, l < dL D → D 61 l = fixD D l) : eqJ E D ∧ wfM E ∧ E 39 = D 39 := by
  have e61 : ∀ l : Nat, E 61 l = D 61 l := fun l => by
    rcases hs l with a | ⟨a1, -, -, -, a5⟩
    · exact a.2.1
    · rw [a5.1, hK l a1]
  refine ⟨fun k hk => ?_, fun l hl => ?_, hE 39 rfl⟩
  · obtain ⟨j1, j2, j3⟩ := jnk_no hk
    by_cases q : k = 61
    · subst q; exact funext e61
    · exact hE k (flr_no q (by omega))
  · rw [dL_of hE.core] at hl
    rw [good_of hE.core]
    rcases hs l with a | ⟨a1, -, -, -, a5⟩
    · exact (hM l hl).same a
    · exact a5
theorem inv_of {D : ZD} {rk : Nat → Nat} {n : Nat} (hM : wfM D) : inv D rk n D := fun l hl _ _ => hM l hl

set_option maxRecDepth 100000 in
set_option maxHeartbeats 4000000 in
theorem M_tracks {l : Launch} (hl0 : l.stackTraces = false) {D : ZD} {J : Nat → Int64} {S : ZM} {M : Nat} {r : Nat → Nat} (hM0 : iM D J S M r) (h39 : D 39 0 = 0) (hC : wC D) : zMet l yX5_tracks (Cond.code yX5_tracks cX5_tracks 1 (some .int) :: LWm) ({ frames := 1, cells := 0, slots := 0, locals := 22 } : Room) 0 0 [zr (some M)] S (zPo (fun v S' => v = some (zi (nI (cnF (prD D) 24))) ∧ mR D J S' M r) (fun _ _ => False)) := by
  refine zMet.of' [some (zr (some M))] hl0 (by decide) rfl (Nat.le_of_ble_eq_true rfl) rfl ?_
  intro X C N hR hN0 hX F
  subst hX
  have hN := hC.1
  obtain ⟨w0, hM⟩ := id hM0
  refine z_aload_n C rfl dX5_tracks_0 ?_
  refine z_iconst 0 (by decide) C dX5_tracks_1 ?_
  refine zp5_thrown C (fun w h => List.mem_cons_of_mem _ (um_wsX50 w h)) hM.1 (List.mem_cons_of_mem _ wm33) dX5_tracks_2 ?_
  have hM := hM0.th h39
  refine z_aload_n C rfl dX5_tracks_5 ?_
  refine z_callM 0 [] C rfl (M_present hl0 hM hN) rfl (zgoodV LWm_good wm76 wm77 wm78 wm37 wm79) rfl rfl rfl (by decide +kernel) rfl (by rw [hR]; exact ⟨Nat.le_of_ble_eq_true rfl, Nat.le_of_ble_eq_true rfl⟩) hM.1 (by rw [hR]; exact ⟨Nat.le_of_ble_eq_true rfl, Nat.le_of_ble_eq_true rfl⟩) (Nat.le_of_ble_eq_true rfl) dX5_tracks_6 (fun v6 S6 h6 => ?_) (fun E6 S6 h6 => ?_)
  · obtain ⟨rfl, q6⟩ := h6
    subst S6
    refine z_ireturn C F (Nat.le_of_ble_eq_true rfl) (Nat.le_of_ble_eq_true rfl) dX5_tracks_9 ?_
    exact ⟨rfl, hM⟩
  · exact h6.elim
set_option maxRecDepth 100000 in
set_option maxHeartbeats 4000000 in
theorem M_today {l : Launch} (hl0 : l.stackTraces = false) {D : ZD} {J : Nat → Int64} {S : ZM} {M : Nat} {r : Nat → Nat} (hM0 : iM D J S M r) (h39 : D 39 0 = 0) (hC : wC D) : zMet l yX5_today (Cond.code yX5_today cX5_today 1 (some .int) :: LWm) ({ frames := 1, cells := 0, slots := 0, locals := 22 } : Room) 0 0 [zr (some M)] S (zPo (fun v S' => v = some (zi (D 40 0)) ∧ mR D J S' M r) (fun _ _ => False)) := by
  refine zMet.of' [some (zr (some M))] hl0 (by decide) rfl (Nat.le_of_ble_eq_true rfl) rfl ?_
  intro X C N hR hN0 hX F
  subst hX
  have hN := hC.1
  obtain ⟨w0, hM⟩ := id hM0
  refine z_aload_n C rfl dX5_today_0 ?_
  refine z_iconst 0 (by decide) C dX5_today_1 ?_
  refine zp5_thrown C (fun w h => List.mem_cons_of_mem _ (um_wsX50 w h)) hM.1 (List.mem_cons_of_mem _ wm33) dX5_today_2 ?_
  have hM := hM0.th h39
  refine z_aload_n C rfl dX5_today_5 ?_
  refine zg5_today C (fun w h => List.mem_cons_of_mem _ (um_wsX50 w h)) hM.1 (List.mem_cons_of_mem _ wm50) dX5_today_6 ?_
  refine z_int (hM.i 40 rfl) ?_
  refine z_ireturn C F (Nat.le_of_ble_eq_true rfl) (Nat.le_of_ble_eq_true rfl) dX5_today_9 ?_
  exact ⟨rfl, hM⟩
set_option maxRecDepth 100000 in
set_option maxHeartbeats 4000000 in
theorem M_touched {l : Launch} (hl0 : l.stackTraces = false) {D : ZD} {J : Nat → Int64} {S : ZM} {M : Nat} {r : Nat → Nat} (hM0 : iM D J S M r) (h39 : D 39 0 = 0) (hC : wC D) : zMet l yX5_touched (Cond.code yX5_touched cX5_touched 1 (some .int) :: LWm) ({ frames := 1, cells := 0, slots := 0, locals := 22 } : Room) 0 0 [zr (some M)] S (zPo (fun v S' => v = some (zi (D 66 0)) ∧ mR D J S' M r) (fun _ _ => False)) := by
  refine zMet.of' [some (zr (some M))] hl0 (by decide) rfl (Nat.le_of_ble_eq_true rfl) rfl ?_
  intro X C N hR hN0 hX F
  subst hX
  have hN := hC.1
  obtain ⟨w0, hM⟩ := id hM0
  refine z_aload_n C rfl dX5_touched_0 ?_
  refine z_iconst 0 (by decide) C dX5_touched_1 ?_
  refine zp5_thrown C (fun w h => List.mem_cons_of_mem _ (um_wsX50 w h)) hM.1 (List.mem_cons_of_mem _ wm33) dX5_touched_2 ?_
  have hM := hM0.th h39
  refine z_aload_n C rfl dX5_touched_5 ?_
  refine zg5_touched C (fun w h => List.mem_cons_of_mem _ (um_wsX50 w h)) hM.1 (List.mem_cons_of_mem _ wm59) dX5_touched_6 ?_
  refine z_int (hM.i 66 rfl) ?_
  refine z_ireturn C F (Nat.le_of_ble_eq_true rfl) (Nat.le_of_ble_eq_true rfl) dX5_touched_9 ?_
  exact ⟨rfl, hM⟩
set_option maxRecDepth 100000 in
set_option maxHeartbeats 4000000 in
theorem M_lengthOf {l : Launch} (hl0 : l.stackTraces = false) {D : ZD} {J : Nat → Int64} {S : ZM} {M : Nat} {r : Nat → Nat} (hM0 : iM D J S M r) (h39 : D 39 0 = 0) (hC : wC D) (x : Int32) : zMet l yX5_lengthOf (Cond.code yX5_lengthOf cX5_lengthOf 2 (some .int) :: LWm) ({ frames := 2, cells := 0, slots := 0, locals := 43 } : Room) 0 0 [zr (some M), zi x] S (zPo (fun v S' => (hasTr D x ∧ v = some (zi (D 42 (ix x))) ∧ mR D J S' M r) ∨ (¬ hasTr D x ∧ v = some (zi 0) ∧ mR (s39 D 1) J S' M r)) (fun _ _ => False)) := by
  refine zMet.of' [some (zr (some M)), some (zi x)] hl0 (by decide) rfl (Nat.le_of_ble_eq_true rfl) rfl ?_
  intro X C N hR hN0 hX F
  subst hX
  have hN := hC.1
  obtain ⟨w0, hM⟩ := id hM0
  refine z_aload_n C rfl dX5_lengthOf_0 ?_
  refine z_iconst 0 (by decide) C dX5_lengthOf_1 ?_
  refine zp5_thrown C (fun w h => List.mem_cons_of_mem _ (um_wsX50 w h)) hM.1 (List.mem_cons_of_mem _ wm33) dX5_lengthOf_2 ?_
  have hM := hM0.th h39
  refine z_aload_n C rfl dX5_lengthOf_5 ?_
  refine z_aload_n C rfl dX5_lengthOf_6 ?_
  refine z_iload_n C rfl dX5_lengthOf_7 ?_
  refine z_callM 1 [zi x] C rfl (M_noTrack hl0 hM hN x) rfl (zgoodV LWm_good wm72 wm73 wm74 wm37 wm75) rfl rfl rfl (by decide +kernel) rfl (by rw [hR]; exact ⟨Nat.le_of_ble_eq_true rfl, Nat.le_of_ble_eq_true rfl⟩) hM.1 (by rw [hR]; exact ⟨Nat.le_of_ble_eq_true rfl, Nat.le_of_ble_eq_true rfl⟩) (Nat.le_of_ble_eq_true rfl) dX5_lengthOf_8 (fun v8 S8 h8 => ?_) (fun E8 S8 h8 => ?_)
  · obtain ⟨b8, rfl, hb8, q8⟩ := h8
    subst S8
    refine z_iconst 1 (by decide) C dX5_lengthOf_11 ?_
    cases b8 with
    | false =>
      have y8 := hb8.mp rfl
      refine z_callM 2 [zi (bI false), zi 1] C rfl (M_fails0 hl0 hM h39 (bI false) 1 (by decide)) rfl (zgoodV LWm_good wm64 wm65 wm66 wm37 wm67) rfl rfl rfl (by decide +kernel) rfl (by rw [hR]; exact ⟨Nat.le_of_ble_eq_true rfl, Nat.le_of_ble_eq_true rfl⟩) hM.1 (by rw [hR]; exact ⟨Nat.le_of_ble_eq_true rfl, Nat.le_of_ble_eq_true rfl⟩) (Nat.le_of_ble_eq_true rfl) dX5_lengthOf_12 (fun v12 S12 h12 => ?_) (fun E12 S12 h12 => ?_)
      · obtain ⟨rfl, q12⟩ := h12
        subst S12
        refine z_if_eq 22 C dX5_lengthOf_15 (by decide) (fun _ => ?_) (fun c15 => absurd c15 (by decide))
        refine z_aload_n C rfl dX5_lengthOf_22 ?_
        refine zg5_length C (fun w h => List.mem_cons_of_mem _ (um_wsX50 w h)) hM.1 (List.mem_cons_of_mem _ wm4) dX5_lengthOf_23 ?_
        refine z_ref (hM.q 42 rfl) ?_
        refine z_iload_n C rfl dX5_lengthOf_26 ?_
        refine z_iaload C (hM.k 42 rfl) (hM.b' 42 rfl (y8.b) (by decide)) dX5_lengthOf_27 ?_
        refine z_int (hM.t 42 rfl (by decide) _) ?_
        refine z_ireturn C F (Nat.le_of_ble_eq_true rfl) (Nat.le_of_ble_eq_true rfl) dX5_lengthOf_28 ?_
        exact Or.inl ⟨y8, rfl, hM⟩
      · exact h12.elim
    | true =>
      have y8 := b_tf hb8
      refine z_callM 2 [zi (bI true), zi 1] C rfl (M_fails1 hl0 hM h39 (bI true) 1 (by decide)) rfl (zgoodV LWm_good wm64 wm65 wm66 wm37 wm67) rfl rfl rfl (by decide +kernel) rfl (by rw [hR]; exact ⟨Nat.le_of_ble_eq_true rfl, Nat.le_of_ble_eq_true rfl⟩) hM.1 (by rw [hR]; exact ⟨Nat.le_of_ble_eq_true rfl, Nat.le_of_ble_eq_true rfl⟩) (Nat.le_of_ble_eq_true rfl) dX5_lengthOf_12 (fun v12 S12 h12 => ?_) (fun E12 S12 h12 => ?_)
      · obtain ⟨rfl, hM⟩ := h12
        refine z_if_eq 22 C dX5_lengthOf_15 (by decide) (fun c15 => absurd c15 (by decide)) (fun _ => ?_)
        refine z_iconst 0 (by decide) C dX5_lengthOf_18 ?_
        refine z_goto 28 C dX5_lengthOf_19 (by decide) ?_
        refine z_ireturn C F (Nat.le_of_ble_eq_true rfl) (Nat.le_of_ble_eq_true rfl) dX5_lengthOf_28 ?_
        exact Or.inr ⟨y8, rfl, hM⟩
      · exact h12.elim
  · exact h8.elim
set_option maxRecDepth 100000 in
set_option maxHeartbeats 4000000 in
theorem M_ratingOf {l : Launch} (hl0 : l.stackTraces = false) {D : ZD} {J : Nat → Int64} {S : ZM} {M : Nat} {r : Nat → Nat} (hM0 : iM D J S M r) (h39 : D 39 0 = 0) (hC : wC D) (x : Int32) : zMet l yX5_ratingOf (Cond.code yX5_ratingOf cX5_ratingOf 2 (some .int) :: LWm) ({ frames := 2, cells := 0, slots := 0, locals := 43 } : Room) 0 0 [zr (some M), zi x] S (zPo (fun v S' => (hasTr D x ∧ v = some (zi (D 43 (ix x))) ∧ mR D J S' M r) ∨ (¬ hasTr D x ∧ v = some (zi 0) ∧ mR (s39 D 1) J S' M r)) (fun _ _ => False)) := by
  refine zMet.of' [some (zr (some M)), some (zi x)] hl0 (by decide) rfl (Nat.le_of_ble_eq_true rfl) rfl ?_
  intro X C N hR hN0 hX F
  subst hX
  have hN := hC.1
  obtain ⟨w0, hM⟩ := id hM0
  refine z_aload_n C rfl dX5_ratingOf_0 ?_
  refine z_iconst 0 (by decide) C dX5_ratingOf_1 ?_
  refine zp5_thrown C (fun w h => List.mem_cons_of_mem _ (um_wsX50 w h)) hM.1 (List.mem_cons_of_mem _ wm33) dX5_ratingOf_2 ?_
  have hM := hM0.th h39
  refine z_aload_n C rfl dX5_ratingOf_5 ?_
  refine z_aload_n C rfl dX5_ratingOf_6 ?_
  refine z_iload_n C rfl dX5_ratingOf_7 ?_
  refine z_callM 1 [zi x] C rfl (M_noTrack hl0 hM hN x) rfl (zgoodV LWm_good wm72 wm73 wm74 wm37 wm75) rfl rfl rfl (by decide +kernel) rfl (by rw [hR]; exact ⟨Nat.le_of_ble_eq_true rfl, Nat.le_of_ble_eq_true rfl⟩) hM.1 (by rw [hR]; exact ⟨Nat.le_of_ble_eq_true rfl, Nat.le_of_ble_eq_true rfl⟩) (Nat.le_of_ble_eq_true rfl) dX5_ratingOf_8 (fun v8 S8 h8 => ?_) (fun E8 S8 h8 => ?_)
  · obtain ⟨b8, rfl, hb8, q8⟩ := h8
    subst S8
    refine z_iconst 1 (by decide) C dX5_ratingOf_11 ?_
    cases b8 with
    | false =>
      have y8 := hb8.mp rfl
      refine z_callM 2 [zi (bI false), zi 1] C rfl (M_fails0 hl0 hM h39 (bI false) 1 (by decide)) rfl (zgoodV LWm_good wm64 wm65 wm66 wm37 wm67) rfl rfl rfl (by decide +kernel) rfl (by rw [hR]; exact ⟨Nat.le_of_ble_eq_true rfl, Nat.le_of_ble_eq_true rfl⟩) hM.1 (by rw [hR]; exact ⟨Nat.le_of_ble_eq_true rfl, Nat.le_of_ble_eq_true rfl⟩) (Nat.le_of_ble_eq_true rfl) dX5_ratingOf_12 (fun v12 S12 h12 => ?_) (fun E12 S12 h12 => ?_)
      · obtain ⟨rfl, q12⟩ := h12
        subst S12
        refine z_if_eq 22 C dX5_ratingOf_15 (by decide) (fun _ => ?_) (fun c15 => absurd c15 (by decide))
        refine z_aload_n C rfl dX5_ratingOf_22 ?_
        refine zg5_rating C (fun w h => List.mem_cons_of_mem _ (um_wsX50 w h)) hM.1 (List.mem_cons_of_mem _ wm5) dX5_ratingOf_23 ?_
        refine z_ref (hM.q 43 rfl) ?_
        refine z_iload_n C rfl dX5_ratingOf_26 ?_
        refine z_iaload C (hM.k 43 rfl) (hM.b' 43 rfl (y8.b) (by decide)) dX5_ratingOf_27 ?_
        refine z_int (hM.t 43 rfl (by decide) _) ?_
        refine z_ireturn C F (Nat.le_of_ble_eq_true rfl) (Nat.le_of_ble_eq_true rfl) dX5_ratingOf_28 ?_
        exact Or.inl ⟨y8, rfl, hM⟩
      · exact h12.elim
    | true =>
      have y8 := b_tf hb8
      refine z_callM 2 [zi (bI true), zi 1] C rfl (M_fails1 hl0 hM h39 (bI true) 1 (by decide)) rfl (zgoodV LWm_good wm64 wm65 wm66 wm37 wm67) rfl rfl rfl (by decide +kernel) rfl (by rw [hR]; exact ⟨Nat.le_of_ble_eq_true rfl, Nat.le_of_ble_eq_true rfl⟩) hM.1 (by rw [hR]; exact ⟨Nat.le_of_ble_eq_true rfl, Nat.le_of_ble_eq_true rfl⟩) (Nat.le_of_ble_eq_true rfl) dX5_ratingOf_12 (fun v12 S12 h12 => ?_) (fun E12 S12 h12 => ?_)
      · obtain ⟨rfl, hM⟩ := h12
        refine z_if_eq 22 C dX5_ratingOf_15 (by decide) (fun c15 => absurd c15 (by decide)) (fun _ => ?_)
        refine z_iconst 0 (by decide) C dX5_ratingOf_18 ?_
        refine z_goto 28 C dX5_ratingOf_19 (by decide) ?_
        refine z_ireturn C F (Nat.le_of_ble_eq_true rfl) (Nat.le_of_ble_eq_true rfl) dX5_ratingOf_28 ?_
        exact Or.inr ⟨y8, rfl, hM⟩
      · exact h12.elim
  · exact h8.elim
set_option maxRecDepth 100000 in
set_option maxHeartbeats 4000000 in
theorem M_playsOf {l : Launch} (hl0 : l.stackTraces = false) {D : ZD} {J : Nat → Int64} {S : ZM} {M : Nat} {r : Nat → Nat} (hM0 : iM D J S M r) (h39 : D 39 0 = 0) (hC : wC D) (x : Int32) : zMet l yX5_playsOf (Cond.code yX5_playsOf cX5_playsOf 2 (some .int) :: LWm) ({ frames := 2, cells := 0, slots := 0, locals := 43 } : Room) 0 0 [zr (some M), zi x] S (zPo (fun v S' => (hasTr D x ∧ v = some (zi (D 44 (ix x))) ∧ mR D J S' M r) ∨ (¬ hasTr D x ∧ v = some (zi 0) ∧ mR (s39 D 1) J S' M r)) (fun _ _ => False)) := by
  refine zMet.of' [some (zr (some M)), some (zi x)] hl0 (by decide) rfl (Nat.le_of_ble_eq_true rfl) rfl ?_
  intro X C N hR hN0 hX F
  subst hX
  have hN := hC.1
  obtain ⟨w0, hM⟩ := id hM0
  refine z_aload_n C rfl dX5_playsOf_0 ?_
  refine z_iconst 0 (by decide) C dX5_playsOf_1 ?_
  refine zp5_thrown C (fun w h => List.mem_cons_of_mem _ (um_wsX50 w h)) hM.1 (List.mem_cons_of_mem _ wm33) dX5_playsOf_2 ?_
  have hM := hM0.th h39
  refine z_aload_n C rfl dX5_playsOf_5 ?_
  refine z_aload_n C rfl dX5_playsOf_6 ?_
  refine z_iload_n C rfl dX5_playsOf_7 ?_
  refine z_callM 1 [zi x] C rfl (M_noTrack hl0 hM hN x) rfl (zgoodV LWm_good wm72 wm73 wm74 wm37 wm75) rfl rfl rfl (by decide +kernel) rfl (by rw [hR]; exact ⟨Nat.le_of_ble_eq_true rfl, Nat.le_of_ble_eq_true rfl⟩) hM.1 (by rw [hR]; exact ⟨Nat.le_of_ble_eq_true rfl, Nat.le_of_ble_eq_true rfl⟩) (Nat.le_of_ble_eq_true rfl) dX5_playsOf_8 (fun v8 S8 h8 => ?_) (fun E8 S8 h8 => ?_)
  · obtain ⟨b8, rfl, hb8, q8⟩ := h8
    subst S8
    refine z_iconst 1 (by decide) C dX5_playsOf_11 ?_
    cases b8 with
    | false =>
      have y8 := hb8.mp rfl
      refine z_callM 2 [zi (bI false), zi 1] C rfl (M_fails0 hl0 hM h39 (bI false) 1 (by decide)) rfl (zgoodV LWm_good wm64 wm65 wm66 wm37 wm67) rfl rfl rfl (by decide +kernel) rfl (by rw [hR]; exact ⟨Nat.le_of_ble_eq_true rfl, Nat.le_of_ble_eq_true rfl⟩) hM.1 (by rw [hR]; exact ⟨Nat.le_of_ble_eq_true rfl, Nat.le_of_ble_eq_true rfl⟩) (Nat.le_of_ble_eq_true rfl) dX5_playsOf_12 (fun v12 S12 h12 => ?_) (fun E12 S12 h12 => ?_)
      · obtain ⟨rfl, q12⟩ := h12
        subst S12
        refine z_if_eq 22 C dX5_playsOf_15 (by decide) (fun _ => ?_) (fun c15 => absurd c15 (by decide))
        refine z_aload_n C rfl dX5_playsOf_22 ?_
        refine zg5_plays C (fun w h => List.mem_cons_of_mem _ (um_wsX50 w h)) hM.1 (List.mem_cons_of_mem _ wm6) dX5_playsOf_23 ?_
        refine z_ref (hM.q 44 rfl) ?_
        refine z_iload_n C rfl dX5_playsOf_26 ?_
        refine z_iaload C (hM.k 44 rfl) (hM.b' 44 rfl (y8.b) (by decide)) dX5_playsOf_27 ?_
        refine z_int (hM.t 44 rfl (by decide) _) ?_
        refine z_ireturn C F (Nat.le_of_ble_eq_true rfl) (Nat.le_of_ble_eq_true rfl) dX5_playsOf_28 ?_
        exact Or.inl ⟨y8, rfl, hM⟩
      · exact h12.elim
    | true =>
      have y8 := b_tf hb8
      refine z_callM 2 [zi (bI true), zi 1] C rfl (M_fails1 hl0 hM h39 (bI true) 1 (by decide)) rfl (zgoodV LWm_good wm64 wm65 wm66 wm37 wm67) rfl rfl rfl (by decide +kernel) rfl (by rw [hR]; exact ⟨Nat.le_of_ble_eq_true rfl, Nat.le_of_ble_eq_true rfl⟩) hM.1 (by rw [hR]; exact ⟨Nat.le_of_ble_eq_true rfl, Nat.le_of_ble_eq_true rfl⟩) (Nat.le_of_ble_eq_true rfl) dX5_playsOf_12 (fun v12 S12 h12 => ?_) (fun E12 S12 h12 => ?_)
      · obtain ⟨rfl, hM⟩ := h12
        refine z_if_eq 22 C dX5_playsOf_15 (by decide) (fun c15 => absurd c15 (by decide)) (fun _ => ?_)
        refine z_iconst 0 (by decide) C dX5_playsOf_18 ?_
        refine z_goto 28 C dX5_playsOf_19 (by decide) ?_
        refine z_ireturn C F (Nat.le_of_ble_eq_true rfl) (Nat.le_of_ble_eq_true rfl) dX5_playsOf_28 ?_
        exact Or.inr ⟨y8, rfl, hM⟩
      · exact h12.elim
  · exact h8.elim
set_option maxRecDepth 100000 in
set_option maxHeartbeats 4000000 in
theorem M_tagBits {l : Launch} (hl0 : l.stackTraces = false) {D : ZD} {J : Nat → Int64} {S : ZM} {M : Nat} {r : Nat → Nat} (hM0 : iM D J S M r) (h39 : D 39 0 = 0) (hC : wC D) (x : Int32) : zMet l yX5_tagBits (Cond.code yX5_tagBits cX5_tagBits 2 (some .int) :: LWm) ({ frames := 2, cells := 0, slots := 0, locals := 43 } : Room) 0 0 [zr (some M), zi x] S (zPo (fun v S' => (hasTr D x ∧ v = some (zi (D 46 (ix x))) ∧ mR D J S' M r) ∨ (¬ hasTr D x ∧ v = some (zi 0) ∧ mR (s39 D 1) J S' M r)) (fun _ _ => False)) := by
  refine zMet.of' [some (zr (some M)), some (zi x)] hl0 (by decide) rfl (Nat.le_of_ble_eq_true rfl) rfl ?_
  intro X C N hR hN0 hX F
  subst hX
  have hN := hC.1
  obtain ⟨w0, hM⟩ := id hM0
  refine z_aload_n C rfl dX5_tagBits_0 ?_
  refine z_iconst 0 (by decide) C dX5_tagBits_1 ?_
  refine zp5_thrown C (fun w h => List.mem_cons_of_mem _ (um_wsX50 w h)) hM.1 (List.mem_cons_of_mem _ wm33) dX5_tagBits_2 ?_
  have hM := hM0.th h39
  refine z_aload_n C rfl dX5_tagBits_5 ?_
  refine z_aload_n C rfl dX5_tagBits_6 ?_
  refine z_iload_n C rfl dX5_tagBits_7 ?_
  refine z_callM 1 [zi x] C rfl (M_noTrack hl0 hM hN x) rfl (zgoodV LWm_good wm72 wm73 wm74 wm37 wm75) rfl rfl rfl (by decide +kernel) rfl (by rw [hR]; exact ⟨Nat.le_of_ble_eq_true rfl, Nat.le_of_ble_eq_true rfl⟩) hM.1 (by rw [hR]; exact ⟨Nat.le_of_ble_eq_true rfl, Nat.le_of_ble_eq_true rfl⟩) (Nat.le_of_ble_eq_true rfl) dX5_tagBits_8 (fun v8 S8 h8 => ?_) (fun E8 S8 h8 => ?_)
  · obtain ⟨b8, rfl, hb8, q8⟩ := h8
    subst S8
    refine z_iconst 1 (by decide) C dX5_tagBits_11 ?_
    cases b8 with
    | false =>
      have y8 := hb8.mp rfl
      refine z_callM 2 [zi (bI false), zi 1] C rfl (M_fails0 hl0 hM h39 (bI false) 1 (by decide)) rfl (zgoodV LWm_good wm64 wm65 wm66 wm37 wm67) rfl rfl rfl (by decide +kernel) rfl (by rw [hR]; exact ⟨Nat.le_of_ble_eq_true rfl, Nat.le_of_ble_eq_true rfl⟩) hM.1 (by rw [hR]; exact ⟨Nat.le_of_ble_eq_true rfl, Nat.le_of_ble_eq_true rfl⟩) (Nat.le_of_ble_eq_true rfl) dX5_tagBits_12 (fun v12 S12 h12 => ?_) (fun E12 S12 h12 => ?_)
      · obtain ⟨rfl, q12⟩ := h12
        subst S12
        refine z_if_eq 22 C dX5_tagBits_15 (by decide) (fun _ => ?_) (fun c15 => absurd c15 (by decide))
        refine z_aload_n C rfl dX5_tagBits_22 ?_
        refine zg5_bits C (fun w h => List.mem_cons_of_mem _ (um_wsX50 w h)) hM.1 (List.mem_cons_of_mem _ wm8) dX5_tagBits_23 ?_
        refine z_ref (hM.q 46 rfl) ?_
        refine z_iload_n C rfl dX5_tagBits_26 ?_
        refine z_iaload C (hM.k 46 rfl) (hM.b' 46 rfl (y8.b) (by decide)) dX5_tagBits_27 ?_
        refine z_int (hM.t 46 rfl (by decide) _) ?_
        refine z_ireturn C F (Nat.le_of_ble_eq_true rfl) (Nat.le_of_ble_eq_true rfl) dX5_tagBits_28 ?_
        exact Or.inl ⟨y8, rfl, hM⟩
      · exact h12.elim
    | true =>
      have y8 := b_tf hb8
      refine z_callM 2 [zi (bI true), zi 1] C rfl (M_fails1 hl0 hM h39 (bI true) 1 (by decide)) rfl (zgoodV LWm_good wm64 wm65 wm66 wm37 wm67) rfl rfl rfl (by decide +kernel) rfl (by rw [hR]; exact ⟨Nat.le_of_ble_eq_true rfl, Nat.le_of_ble_eq_true rfl⟩) hM.1 (by rw [hR]; exact ⟨Nat.le_of_ble_eq_true rfl, Nat.le_of_ble_eq_true rfl⟩) (Nat.le_of_ble_eq_true rfl) dX5_tagBits_12 (fun v12 S12 h12 => ?_) (fun E12 S12 h12 => ?_)
      · obtain ⟨rfl, hM⟩ := h12
        refine z_if_eq 22 C dX5_tagBits_15 (by decide) (fun c15 => absurd c15 (by decide)) (fun _ => ?_)
        refine z_iconst 0 (by decide) C dX5_tagBits_18 ?_
        refine z_goto 28 C dX5_tagBits_19 (by decide) ?_
        refine z_ireturn C F (Nat.le_of_ble_eq_true rfl) (Nat.le_of_ble_eq_true rfl) dX5_tagBits_28 ?_
        exact Or.inr ⟨y8, rfl, hM⟩
      · exact h12.elim
  · exact h8.elim
set_option maxRecDepth 100000 in
set_option maxHeartbeats 4000000 in
theorem M_nameLength {l : Launch} (hl0 : l.stackTraces = false) {D : ZD} {J : Nat → Int64} {S : ZM} {M : Nat} {r : Nat → Nat} (hM0 : iM D J S M r) (h39 : D 39 0 = 0) (hC : wC D) (x : Int32) : zMet l yX5_nameLength (Cond.code yX5_nameLength cX5_nameLength 2 (some .int) :: LWm) ({ frames := 2, cells := 0, slots := 0, locals := 43 } : Room) 0 0 [zr (some M), zi x] S (zPo (fun v S' => (hasTg D x ∧ v = some (zi (D 49 (ix x))) ∧ mR D J S' M r) ∨ (¬ hasTg D x ∧ v = some (zi 0) ∧ mR (s39 D 1) J S' M r)) (fun _ _ => False)) := by
  refine zMet.of' [some (zr (some M)), some (zi x)] hl0 (by decide) rfl (Nat.le_of_ble_eq_true rfl) rfl ?_
  intro X C N hR hN0 hX F
  subst hX
  have hN := hC.1
  obtain ⟨w0, hM⟩ := id hM0
  refine z_aload_n C rfl dX5_nameLength_0 ?_
  refine z_iconst 0 (by decide) C dX5_nameLength_1 ?_
  refine zp5_thrown C (fun w h => List.mem_cons_of_mem _ (um_wsX50 w h)) hM.1 (List.mem_cons_of_mem _ wm33) dX5_nameLength_2 ?_
  have hM := hM0.th h39
  refine z_aload_n C rfl dX5_nameLength_5 ?_
  refine z_aload_n C rfl dX5_nameLength_6 ?_
  refine z_iload_n C rfl dX5_nameLength_7 ?_
  refine z_callM 1 [zi x] C rfl (M_noTag hl0 hM hN x) rfl (zgoodV LWm_good wm80 wm81 wm82 wm37 wm83) rfl rfl rfl (by decide +kernel) rfl (by rw [hR]; exact ⟨Nat.le_of_ble_eq_true rfl, Nat.le_of_ble_eq_true rfl⟩) hM.1 (by rw [hR]; exact ⟨Nat.le_of_ble_eq_true rfl, Nat.le_of_ble_eq_true rfl⟩) (Nat.le_of_ble_eq_true rfl) dX5_nameLength_8 (fun v8 S8 h8 => ?_) (fun E8 S8 h8 => ?_)
  · obtain ⟨b8, rfl, hb8, q8⟩ := h8
    subst S8
    refine z_iconst 1 (by decide) C dX5_nameLength_11 ?_
    cases b8 with
    | false =>
      have y8 := hb8.mp rfl
      refine z_callM 2 [zi (bI false), zi 1] C rfl (M_fails0 hl0 hM h39 (bI false) 1 (by decide)) rfl (zgoodV LWm_good wm64 wm65 wm66 wm37 wm67) rfl rfl rfl (by decide +kernel) rfl (by rw [hR]; exact ⟨Nat.le_of_ble_eq_true rfl, Nat.le_of_ble_eq_true rfl⟩) hM.1 (by rw [hR]; exact ⟨Nat.le_of_ble_eq_true rfl, Nat.le_of_ble_eq_true rfl⟩) (Nat.le_of_ble_eq_true rfl) dX5_nameLength_12 (fun v12 S12 h12 => ?_) (fun E12 S12 h12 => ?_)
      · obtain ⟨rfl, q12⟩ := h12
        subst S12
        refine z_if_eq 22 C dX5_nameLength_15 (by decide) (fun _ => ?_) (fun c15 => absurd c15 (by decide))
        refine z_aload_n C rfl dX5_nameLength_22 ?_
        refine zg5_nameSize C (fun w h => List.mem_cons_of_mem _ (um_wsX50 w h)) hM.1 (List.mem_cons_of_mem _ wm11) dX5_nameLength_23 ?_
        refine z_ref (hM.q 49 rfl) ?_
        refine z_iload_n C rfl dX5_nameLength_26 ?_
        refine z_iaload C (hM.k 49 rfl) (hM.b' 49 rfl (y8.b) (by decide)) dX5_nameLength_27 ?_
        refine z_int (hM.t 49 rfl (by decide) _) ?_
        refine z_ireturn C F (Nat.le_of_ble_eq_true rfl) (Nat.le_of_ble_eq_true rfl) dX5_nameLength_28 ?_
        exact Or.inl ⟨y8, rfl, hM⟩
      · exact h12.elim
    | true =>
      have y8 := b_tf hb8
      refine z_callM 2 [zi (bI true), zi 1] C rfl (M_fails1 hl0 hM h39 (bI true) 1 (by decide)) rfl (zgoodV LWm_good wm64 wm65 wm66 wm37 wm67) rfl rfl rfl (by decide +kernel) rfl (by rw [hR]; exact ⟨Nat.le_of_ble_eq_true rfl, Nat.le_of_ble_eq_true rfl⟩) hM.1 (by rw [hR]; exact ⟨Nat.le_of_ble_eq_true rfl, Nat.le_of_ble_eq_true rfl⟩) (Nat.le_of_ble_eq_true rfl) dX5_nameLength_12 (fun v12 S12 h12 => ?_) (fun E12 S12 h12 => ?_)
      · obtain ⟨rfl, hM⟩ := h12
        refine z_if_eq 22 C dX5_nameLength_15 (by decide) (fun c15 => absurd c15 (by decide)) (fun _ => ?_)
        refine z_iconst 0 (by decide) C dX5_nameLength_18 ?_
        refine z_goto 28 C dX5_nameLength_19 (by decide) ?_
        refine z_ireturn C F (Nat.le_of_ble_eq_true rfl) (Nat.le_of_ble_eq_true rfl) dX5_nameLength_28 ?_
        exact Or.inr ⟨y8, rfl, hM⟩
      · exact h12.elim
  · exact h8.elim
set_option maxRecDepth 100000 in
set_option maxHeartbeats 4000000 in
theorem M_sizeOf {l : Launch} (hl0 : l.stackTraces = false) {D : ZD} {J : Nat → Int64} {S : ZM} {M : Nat} {r : Nat → Nat} (hM0 : iM D J S M r) (h39 : D 39 0 = 0) (hC : wC D) (x : Int32) : zMet l yX5_sizeOf (Cond.code yX5_sizeOf cX5_sizeOf 2 (some .int) :: LWm) ({ frames := 2, cells := 0, slots := 0, locals := 43 } : Room) 0 0 [zr (some M), zi x] S (zPo (fun v S' => (hasRl D x ∧ v = some (zi (D 56 (ix x))) ∧ mR D J S' M r) ∨ (¬ hasRl D x ∧ v = some (zi 0) ∧ mR (s39 D 1) J S' M r)) (fun _ _ => False)) := by
  refine zMet.of' [some (zr (some M)), some (zi x)] hl0 (by decide) rfl (Nat.le_of_ble_eq_true rfl) rfl ?_
  intro X C N hR hN0 hX F
  subst hX
  have hN := hC.1
  obtain ⟨w0, hM⟩ := id hM0
  refine z_aload_n C rfl dX5_sizeOf_0 ?_
  refine z_iconst 0 (by decide) C dX5_sizeOf_1 ?_
  refine zp5_thrown C (fun w h => List.mem_cons_of_mem _ (um_wsX50 w h)) hM.1 (List.mem_cons_of_mem _ wm33) dX5_sizeOf_2 ?_
  have hM := hM0.th h39
  refine z_aload_n C rfl dX5_sizeOf_5 ?_
  refine z_aload_n C rfl dX5_sizeOf_6 ?_
  refine z_iload_n C rfl dX5_sizeOf_7 ?_
  refine z_callM 1 [zi x] C rfl (M_noRule hl0 hM hN x) rfl (zgoodV LWm_good wm107 wm108 wm109 wm37 wm110) rfl rfl rfl (by decide +kernel) rfl (by rw [hR]; exact ⟨Nat.le_of_ble_eq_true rfl, Nat.le_of_ble_eq_true rfl⟩) hM.1 (by rw [hR]; exact ⟨Nat.le_of_ble_eq_true rfl, Nat.le_of_ble_eq_true rfl⟩) (Nat.le_of_ble_eq_true rfl) dX5_sizeOf_8 (fun v8 S8 h8 => ?_) (fun E8 S8 h8 => ?_)
  · obtain ⟨b8, rfl, hb8, q8⟩ := h8
    subst S8
    refine z_iconst 1 (by decide) C dX5_sizeOf_11 ?_
    cases b8 with
    | false =>
      have y8 := hb8.mp rfl
      refine z_callM 2 [zi (bI false), zi 1] C rfl (M_fails0 hl0 hM h39 (bI false) 1 (by decide)) rfl (zgoodV LWm_good wm64 wm65 wm66 wm37 wm67) rfl rfl rfl (by decide +kernel) rfl (by rw [hR]; exact ⟨Nat.le_of_ble_eq_true rfl, Nat.le_of_ble_eq_true rfl⟩) hM.1 (by rw [hR]; exact ⟨Nat.le_of_ble_eq_true rfl, Nat.le_of_ble_eq_true rfl⟩) (Nat.le_of_ble_eq_true rfl) dX5_sizeOf_12 (fun v12 S12 h12 => ?_) (fun E12 S12 h12 => ?_)
      · obtain ⟨rfl, q12⟩ := h12
        subst S12
        refine z_if_eq 22 C dX5_sizeOf_15 (by decide) (fun _ => ?_) (fun c15 => absurd c15 (by decide))
        refine z_aload_n C rfl dX5_sizeOf_22 ?_
        refine zg5_sizes C (fun w h => List.mem_cons_of_mem _ (um_wsX50 w h)) hM.1 (List.mem_cons_of_mem _ wm18) dX5_sizeOf_23 ?_
        refine z_ref (hM.q 56 rfl) ?_
        refine z_iload_n C rfl dX5_sizeOf_26 ?_
        refine z_iaload C (hM.k 56 rfl) (hM.b' 56 rfl (y8.b) (by decide)) dX5_sizeOf_27 ?_
        refine z_int (hM.t 56 rfl (by decide) _) ?_
        refine z_ireturn C F (Nat.le_of_ble_eq_true rfl) (Nat.le_of_ble_eq_true rfl) dX5_sizeOf_28 ?_
        exact Or.inl ⟨y8, rfl, hM⟩
      · exact h12.elim
    | true =>
      have y8 := b_tf hb8
      refine z_callM 2 [zi (bI true), zi 1] C rfl (M_fails1 hl0 hM h39 (bI true) 1 (by decide)) rfl (zgoodV LWm_good wm64 wm65 wm66 wm37 wm67) rfl rfl rfl (by decide +kernel) rfl (by rw [hR]; exact ⟨Nat.le_of_ble_eq_true rfl, Nat.le_of_ble_eq_true rfl⟩) hM.1 (by rw [hR]; exact ⟨Nat.le_of_ble_eq_true rfl, Nat.le_of_ble_eq_true rfl⟩) (Nat.le_of_ble_eq_true rfl) dX5_sizeOf_12 (fun v12 S12 h12 => ?_) (fun E12 S12 h12 => ?_)
      · obtain ⟨rfl, hM⟩ := h12
        refine z_if_eq 22 C dX5_sizeOf_15 (by decide) (fun c15 => absurd c15 (by decide)) (fun _ => ?_)
        refine z_iconst 0 (by decide) C dX5_sizeOf_18 ?_
        refine z_goto 28 C dX5_sizeOf_19 (by decide) ?_
        refine z_ireturn C F (Nat.le_of_ble_eq_true rfl) (Nat.le_of_ble_eq_true rfl) dX5_sizeOf_28 ?_
        exact Or.inr ⟨y8, rfl, hM⟩
      · exact h12.elim
  · exact h8.elim
set_option maxRecDepth 100000 in
set_option maxHeartbeats 4000000 in
theorem M_size {l : Launch} (hl0 : l.stackTraces = false) {D : ZD} {J : Nat → Int64} {S : ZM} {M : Nat} {r : Nat → Nat} (hM0 : iM D J S M r) (h39 : D 39 0 = 0) (hC : wC D) (x : Int32) : zMet l yX5_size (Cond.code yX5_size cX5_size 2 (some .int) :: LWm) ({ frames := 2, cells := 0, slots := 0, locals := 43 } : Room) 0 0 [zr (some M), zi x] S (zPo (fun v S' => (hasLs D x ∧ v = some (zi (D 64 (ix x))) ∧ mR D J S' M r) ∨ (¬ hasLs D x ∧ v = some (zi 0) ∧ mR (s39 D 1) J S' M r)) (fun _ _ => False)) := by
  refine zMet.of' [some (zr (some M)), some (zi x)] hl0 (by decide) rfl (Nat.le_of_ble_eq_true rfl) rfl ?_
  intro X C N hR hN0 hX F
  subst hX
  have hN := hC.1
  obtain ⟨w0, hM⟩ := id hM0
  refine z_aload_n C rfl dX5_size_0 ?_
  refine z_iconst 0 (by decide) C dX5_size_1 ?_
  refine zp5_thrown C (fun w h => List.mem_cons_of_mem _ (um_wsX50 w h)) hM.1 (List.mem_cons_of_mem _ wm33) dX5_size_2 ?_
  have hM := hM0.th h39
  refine z_aload_n C rfl dX5_size_5 ?_
  refine z_aload_n C rfl dX5_size_6 ?_
  refine z_iload_n C rfl dX5_size_7 ?_
  refine z_callM 1 [zi x] C rfl (M_noList hl0 hM hN x) rfl (zgoodV LWm_good wm103 wm104 wm105 wm37 wm106) rfl rfl rfl (by decide +kernel) rfl (by rw [hR]; exact ⟨Nat.le_of_ble_eq_true rfl, Nat.le_of_ble_eq_true rfl⟩) hM.1 (by rw [hR]; exact ⟨Nat.le_of_ble_eq_true rfl, Nat.le_of_ble_eq_true rfl⟩) (Nat.le_of_ble_eq_true rfl) dX5_size_8 (fun v8 S8 h8 => ?_) (fun E8 S8 h8 => ?_)
  · obtain ⟨b8, rfl, hb8, q8⟩ := h8
    subst S8
    refine z_iconst 1 (by decide) C dX5_size_11 ?_
    cases b8 with
    | false =>
      have y8 := hb8.mp rfl
      refine z_callM 2 [zi (bI false), zi 1] C rfl (M_fails0 hl0 hM h39 (bI false) 1 (by decide)) rfl (zgoodV LWm_good wm64 wm65 wm66 wm37 wm67) rfl rfl rfl (by decide +kernel) rfl (by rw [hR]; exact ⟨Nat.le_of_ble_eq_true rfl, Nat.le_of_ble_eq_true rfl⟩) hM.1 (by rw [hR]; exact ⟨Nat.le_of_ble_eq_true rfl, Nat.le_of_ble_eq_true rfl⟩) (Nat.le_of_ble_eq_true rfl) dX5_size_12 (fun v12 S12 h12 => ?_) (fun E12 S12 h12 => ?_)
      · obtain ⟨rfl, q12⟩ := h12
        subst S12
        refine z_if_eq 22 C dX5_size_15 (by decide) (fun _ => ?_) (fun c15 => absurd c15 (by decide))
        refine z_aload_n C rfl dX5_size_22 ?_
        refine zg5_many C (fun w h => List.mem_cons_of_mem _ (um_wsX50 w h)) hM.1 (List.mem_cons_of_mem _ wm25) dX5_size_23 ?_
        refine z_ref (hM.q 64 rfl) ?_
        refine z_iload_n C rfl dX5_size_26 ?_
        refine z_iaload C (hM.k 64 rfl) (hM.b' 64 rfl (y8.b) (by decide)) dX5_size_27 ?_
        refine z_int (hM.t 64 rfl (by decide) _) ?_
        refine z_ireturn C F (Nat.le_of_ble_eq_true rfl) (Nat.le_of_ble_eq_true rfl) dX5_size_28 ?_
        exact Or.inl ⟨y8, rfl, hM⟩
      · exact h12.elim
    | true =>
      have y8 := b_tf hb8
      refine z_callM 2 [zi (bI true), zi 1] C rfl (M_fails1 hl0 hM h39 (bI true) 1 (by decide)) rfl (zgoodV LWm_good wm64 wm65 wm66 wm37 wm67) rfl rfl rfl (by decide +kernel) rfl (by rw [hR]; exact ⟨Nat.le_of_ble_eq_true rfl, Nat.le_of_ble_eq_true rfl⟩) hM.1 (by rw [hR]; exact ⟨Nat.le_of_ble_eq_true rfl, Nat.le_of_ble_eq_true rfl⟩) (Nat.le_of_ble_eq_true rfl) dX5_size_12 (fun v12 S12 h12 => ?_) (fun E12 S12 h12 => ?_)
      · obtain ⟨rfl, hM⟩ := h12
        refine z_if_eq 22 C dX5_size_15 (by decide) (fun c15 => absurd c15 (by decide)) (fun _ => ?_)
        refine z_iconst 0 (by decide) C dX5_size_18 ?_
        refine z_goto 28 C dX5_size_19 (by decide) ?_
        refine z_ireturn C F (Nat.le_of_ble_eq_true rfl) (Nat.le_of_ble_eq_true rfl) dX5_size_28 ?_
        exact Or.inr ⟨y8, rfl, hM⟩
      · exact h12.elim
  · exact h8.elim
set_option maxRecDepth 100000 in
set_option maxHeartbeats 4000000 in
theorem M_playedLast {l : Launch} (hl0 : l.stackTraces = false) {D : ZD} {J : Nat → Int64} {S : ZM} {M : Nat} {r : Nat → Nat} (hM0 : iM D J S M r) (h39 : D 39 0 = 0) (hC : wC D) (x : Int32) : zMet l yX5_playedLast (Cond.code yX5_playedLast cX5_playedLast 2 (some .int) :: LWm) ({ frames := 2, cells := 0, slots := 0, locals := 43 } : Room) 0 0 [zr (some M), zi x] S (zPo (fun v S' => (hasTr D x ∧ ¬ D 44 (ix x) = 0 ∧ v = some (zi (D 45 (ix x))) ∧ mR D J S' M r) ∨ (¬ hasTr D x ∧ v = some (zi 0) ∧ mR (s39 D 1) J S' M r) ∨ (hasTr D x ∧ D 44 (ix x) = 0 ∧ v = some (zi 0) ∧ mR (s39 D 2) J S' M r)) (fun _ _ => False)) := by
  refine zMet.of' [some (zr (some M)), some (zi x)] hl0 (by decide) rfl (Nat.le_of_ble_eq_true rfl) rfl ?_
  intro X C N hR hN0 hX F
  subst hX
  have hN := hC.1
  obtain ⟨w0, hM⟩ := id hM0
  refine z_aload_n C rfl dX5_playedLast_0 ?_
  refine z_iconst 0 (by decide) C dX5_playedLast_1 ?_
  refine zp5_thrown C (fun w h => List.mem_cons_of_mem _ (um_wsX50 w h)) hM.1 (List.mem_cons_of_mem _ wm33) dX5_playedLast_2 ?_
  have hM := hM0.th h39
  refine z_aload_n C rfl dX5_playedLast_5 ?_
  refine z_aload_n C rfl dX5_playedLast_6 ?_
  refine z_iload_n C rfl dX5_playedLast_7 ?_
  refine z_callM 1 [zi x] C rfl (M_noTrack hl0 hM hN x) rfl (zgoodV LWm_good wm72 wm73 wm74 wm37 wm75) rfl rfl rfl (by decide +kernel) rfl (by rw [hR]; exact ⟨Nat.le_of_ble_eq_true rfl, Nat.le_of_ble_eq_true rfl⟩) hM.1 (by rw [hR]; exact ⟨Nat.le_of_ble_eq_true rfl, Nat.le_of_ble_eq_true rfl⟩) (Nat.le_of_ble_eq_true rfl) dX5_playedLast_8 (fun v8 S8 h8 => ?_) (fun E8 S8 h8 => ?_)
  · obtain ⟨b8, rfl, hb8, q8⟩ := h8
    subst S8
    refine z_iconst 1 (by decide) C dX5_playedLast_11 ?_
    cases b8 with
    | false =>
      have y8 := hb8.mp rfl
      refine z_callM 2 [zi (bI false), zi 1] C rfl (M_fails0 hl0 hM h39 (bI false) 1 (by decide)) rfl (zgoodV LWm_good wm64 wm65 wm66 wm37 wm67) rfl rfl rfl (by decide +kernel) rfl (by rw [hR]; exact ⟨Nat.le_of_ble_eq_true rfl, Nat.le_of_ble_eq_true rfl⟩) hM.1 (by rw [hR]; exact ⟨Nat.le_of_ble_eq_true rfl, Nat.le_of_ble_eq_true rfl⟩) (Nat.le_of_ble_eq_true rfl) dX5_playedLast_12 (fun v12 S12 h12 => ?_) (fun E12 S12 h12 => ?_)
      · obtain ⟨rfl, q12⟩ := h12
        subst S12
        refine z_if_ne 40 C dX5_playedLast_15 (by decide) (fun c15 => absurd c15 (by decide)) (fun _ => ?_)
        refine z_aload_n C rfl dX5_playedLast_18 ?_
        refine z_aload_n C rfl dX5_playedLast_19 ?_
        refine zg5_plays C (fun w h => List.mem_cons_of_mem _ (um_wsX50 w h)) hM.1 (List.mem_cons_of_mem _ wm6) dX5_playedLast_20 ?_
        refine z_ref (hM.q 44 rfl) ?_
        refine z_iload_n C rfl dX5_playedLast_23 ?_
        refine z_iaload C (hM.k 44 rfl) (hM.b' 44 rfl (y8.b) (by decide)) dX5_playedLast_24 ?_
        refine z_int (hM.t 44 rfl (by decide) _) ?_
        refine z_if_ne 32 C dX5_playedLast_25 (by decide) (fun c25 => ?_) (fun c25 => ?_)
        · refine z_iconst 0 (by decide) C dX5_playedLast_32 ?_
          refine z_iconst 2 (by decide) C dX5_playedLast_33 ?_
          refine z_callM 2 [zi (0), zi 2] C rfl (M_fails0 hl0 hM h39 0 2 (by decide)) rfl (zgoodV LWm_good wm64 wm65 wm66 wm37 wm67) rfl rfl rfl (by decide +kernel) rfl (by rw [hR]; exact ⟨Nat.le_of_ble_eq_true rfl, Nat.le_of_ble_eq_true rfl⟩) hM.1 (by rw [hR]; exact ⟨Nat.le_of_ble_eq_true rfl, Nat.le_of_ble_eq_true rfl⟩) (Nat.le_of_ble_eq_true rfl) dX5_playedLast_34 (fun v34 S34 h34 => ?_) (fun E34 S34 h34 => ?_)
          · obtain ⟨rfl, q34⟩ := h34
            subst S34
            refine z_if_eq 44 C dX5_playedLast_37 (by decide) (fun _ => ?_) (fun c37 => absurd c37 (by decide))
            refine z_aload_n C rfl dX5_playedLast_44 ?_
            refine zg5_last C (fun w h => List.mem_cons_of_mem _ (um_wsX50 w h)) hM.1 (List.mem_cons_of_mem _ wm7) dX5_playedLast_45 ?_
            refine z_ref (hM.q 45 rfl) ?_
            refine z_iload_n C rfl dX5_playedLast_48 ?_
            refine z_iaload C (hM.k 45 rfl) (hM.b' 45 rfl (y8.b) (by decide)) dX5_playedLast_49 ?_
            refine z_int (hM.t 45 rfl (by decide) _) ?_
            refine z_ireturn C F (Nat.le_of_ble_eq_true rfl) (Nat.le_of_ble_eq_true rfl) dX5_playedLast_50 ?_
            exact Or.inl ⟨y8, c25, rfl, hM⟩
          · exact h34.elim
        · refine z_iconst 1 (by decide) C dX5_playedLast_28 ?_
          refine z_goto 33 C dX5_playedLast_29 (by decide) ?_
          refine z_iconst 2 (by decide) C dX5_playedLast_33 ?_
          refine z_callM 2 [zi (1), zi 2] C rfl (M_fails1 hl0 hM h39 1 2 (by decide)) rfl (zgoodV LWm_good wm64 wm65 wm66 wm37 wm67) rfl rfl rfl (by decide +kernel) rfl (by rw [hR]; exact ⟨Nat.le_of_ble_eq_true rfl, Nat.le_of_ble_eq_true rfl⟩) hM.1 (by rw [hR]; exact ⟨Nat.le_of_ble_eq_true rfl, Nat.le_of_ble_eq_true rfl⟩) (Nat.le_of_ble_eq_true rfl) dX5_playedLast_34 (fun v34 S34 h34 => ?_) (fun E34 S34 h34 => ?_)
          · obtain ⟨rfl, hM⟩ := h34
            refine z_if_eq 44 C dX5_playedLast_37 (by decide) (fun c37 => absurd c37 (by decide)) (fun _ => ?_)
            refine z_iconst 0 (by decide) C dX5_playedLast_40 ?_
            refine z_goto 50 C dX5_playedLast_41 (by decide) ?_
            refine z_ireturn C F (Nat.le_of_ble_eq_true rfl) (Nat.le_of_ble_eq_true rfl) dX5_playedLast_50 ?_
            exact Or.inr (Or.inr ⟨y8, c25, rfl, hM⟩)
          · exact h34.elim
      · exact h12.elim
    | true =>
      have y8 := b_tf hb8
      refine z_callM 2 [zi (bI true), zi 1] C rfl (M_fails1 hl0 hM h39 (bI true) 1 (by decide)) rfl (zgoodV LWm_good wm64 wm65 wm66 wm37 wm67) rfl rfl rfl (by decide +kernel) rfl (by rw [hR]; exact ⟨Nat.le_of_ble_eq_true rfl, Nat.le_of_ble_eq_true rfl⟩) hM.1 (by rw [hR]; exact ⟨Nat.le_of_ble_eq_true rfl, Nat.le_of_ble_eq_true rfl⟩) (Nat.le_of_ble_eq_true rfl) dX5_playedLast_12 (fun v12 S12 h12 => ?_) (fun E12 S12 h12 => ?_)
      · obtain ⟨rfl, hM⟩ := h12
        refine z_if_ne 40 C dX5_playedLast_15 (by decide) (fun _ => ?_) (fun c15 => absurd c15 (by decide))
        refine z_iconst 0 (by decide) C dX5_playedLast_40 ?_
        refine z_goto 50 C dX5_playedLast_41 (by decide) ?_
        refine z_ireturn C F (Nat.le_of_ble_eq_true rfl) (Nat.le_of_ble_eq_true rfl) dX5_playedLast_50 ?_
        exact Or.inr (Or.inl ⟨y8, rfl, hM⟩)
      · exact h12.elim
  · exact h8.elim
/-- what the names keep to -/
def nmOk (D : ZD) : Prop := ∀ g : Nat, g < 16 → ∃ n : Nat, D 49 g = nI n ∧ n ≤ 6 ∧ (dG D ≤ g → n = 0) ∧ ∀ j : Nat, j < n → ∃ c : Nat, D 50 (6 * g + j) = nI c ∧ c < 65536
theorem nm_b {D : ZD} (h : nmOk D) {x y : Int32} (hx : hasTg D x) (hy : 0 ≤ y ∧ y ≤ D 49 (ix x) - 1) : narrow .char (.int (D 50 (ix (6 * x + y)))) = .int (D 50 (ix (6 * x + y))) ∧ ∃ n : Nat, 6 * x + y = nI n ∧ n < 96 := by
  obtain ⟨h1, h2, h3, -⟩ := hx.d
  obtain ⟨n, en, hn, -, hc⟩ := h (ix x) h1
  obtain ⟨j, hj, rfl⟩ := (in_lt (by omega) en).mp hy
  obtain ⟨c, ec, hc2⟩ := hc j hj
  have e : (6 : Int32) * x + nI j = nI (6 * ix x + j) := by rw [h3, show (6 : Int32) * nI (ix x) = nI (6 * ix x) from pk_mul 6 _, nI_add, ← h3]
  rw [e, show ix (nI (6 * ix x + j)) = 6 * ix x + j from nI_clamp (by omega), ec]
  exact ⟨(pk_charN hc2).1, _, rfl, by omega⟩
set_option maxRecDepth 100000 in
set_option maxHeartbeats 4000000 in
theorem M_nameAt {l : Launch} (hl0 : l.stackTraces = false) {D : ZD} {J : Nat → Int64} {S : ZM} {M : Nat} {r : Nat → Nat} (hM0 : iM D J S M r) (h39 : D 39 0 = 0) (hC : wC D) (hQ3 : nmOk D) (x y : Int32) : zMet l yX5_nameAt (Cond.code yX5_nameAt cX5_nameAt 3 (some .char) :: LWm) ({ frames := 2, cells := 0, slots := 0, locals := 43 } : Room) 0 0 [zr (some M), zi x, zi y] S (zPo (fun v S' => (hasTg D x ∧ (0 ≤ y ∧ y ≤ D 49 (ix x) - 1) ∧ v = some (zi (D 50 (ix (6 * x + y)))) ∧ mR D J S' M r) ∨ (¬ hasTg D x ∧ v = some (zi 0) ∧ mR (s39 D 1) J S' M r) ∨ (hasTg D x ∧ ¬ (0 ≤ y ∧ y ≤ D 49 (ix x) - 1) ∧ v = some (zi 0) ∧ mR (s39 D 2) J S' M r)) (fun _ _ => False)) := by
  refine zMet.of' [some (zr (some M)), some (zi x), some (zi y)] hl0 (by decide) rfl (Nat.le_of_ble_eq_true rfl) rfl ?_
  intro X C N hR hN0 hX F
  subst hX
  have hN := hC.1
  obtain ⟨w0, hM⟩ := id hM0
  refine z_aload_n C rfl dX5_nameAt_0 ?_
  refine z_iconst 0 (by decide) C dX5_nameAt_1 ?_
  refine zp5_thrown C (fun w h => List.mem_cons_of_mem _ (um_wsX50 w h)) hM.1 (List.mem_cons_of_mem _ wm33) dX5_nameAt_2 ?_
  have hM := hM0.th h39
  refine z_aload_n C rfl dX5_nameAt_5 ?_
  refine z_aload_n C rfl dX5_nameAt_6 ?_
  refine z_iload_n C rfl dX5_nameAt_7 ?_
  refine z_callM 1 [zi x] C rfl (M_noTag hl0 hM hN x) rfl (zgoodV LWm_good wm80 wm81 wm82 wm37 wm83) rfl rfl rfl (by decide +kernel) rfl (by rw [hR]; exact ⟨Nat.le_of_ble_eq_true rfl, Nat.le_of_ble_eq_true rfl⟩) hM.1 (by rw [hR]; exact ⟨Nat.le_of_ble_eq_true rfl, Nat.le_of_ble_eq_true rfl⟩) (Nat.le_of_ble_eq_true rfl) dX5_nameAt_8 (fun v8 S8 h8 => ?_) (fun E8 S8 h8 => ?_)
  · obtain ⟨b8, rfl, hb8, q8⟩ := h8
    subst S8
    refine z_iconst 1 (by decide) C dX5_nameAt_11 ?_
    cases b8 with
    | false =>
      have y8 := hb8.mp rfl
      refine z_callM 2 [zi (bI false), zi 1] C rfl (M_fails0 hl0 hM h39 (bI false) 1 (by decide)) rfl (zgoodV LWm_good wm64 wm65 wm66 wm37 wm67) rfl rfl rfl (by decide +kernel) rfl (by rw [hR]; exact ⟨Nat.le_of_ble_eq_true rfl, Nat.le_of_ble_eq_true rfl⟩) hM.1 (by rw [hR]; exact ⟨Nat.le_of_ble_eq_true rfl, Nat.le_of_ble_eq_true rfl⟩) (Nat.le_of_ble_eq_true rfl) dX5_nameAt_12 (fun v12 S12 h12 => ?_) (fun E12 S12 h12 => ?_)
      · obtain ⟨rfl, q12⟩ := h12
        subst S12
        refine z_if_ne 47 C dX5_nameAt_15 (by decide) (fun c15 => absurd c15 (by decide)) (fun _ => ?_)
        refine z_aload_n C rfl dX5_nameAt_18 ?_
        refine z_iload_n C rfl dX5_nameAt_19 ?_
        refine z_iconst 0 (by decide) C dX5_nameAt_20 ?_
        refine z_aload_n C rfl dX5_nameAt_21 ?_
        refine zg5_nameSize C (fun w h => List.mem_cons_of_mem _ (um_wsX50 w h)) hM.1 (List.mem_cons_of_mem _ wm11) dX5_nameAt_22 ?_
        refine z_ref (hM.q 49 rfl) ?_
        refine z_iload_n C rfl dX5_nameAt_25 ?_
        refine z_iaload C (hM.k 49 rfl) (hM.b' 49 rfl (y8.b) (by decide)) dX5_nameAt_26 ?_
        refine z_int (hM.t 49 rfl (by decide) _) ?_
        refine z_iconst 1 (by decide) C dX5_nameAt_27 ?_
        refine z_isub C dX5_nameAt_28 ?_
        refine z_callS 3 [zi y, zi 0, zi (D 49 (ix x) - 1)] C (M_in hl0 y 0 (D 49 (ix x) - 1)) rfl (zgoodS LWm_good wm35 wm36 wm37 wm38) rfl rfl rfl (by decide +kernel) rfl (by rw [hR]; exact ⟨Nat.le_of_ble_eq_true rfl, Nat.le_of_ble_eq_true rfl⟩) (by rw [hR]; exact ⟨Nat.le_of_ble_eq_true rfl, Nat.le_of_ble_eq_true rfl⟩) (Nat.le_of_ble_eq_true rfl) dX5_nameAt_29 (fun v29 S29 h29 => ?_) (fun E29 S29 h29 => ?_)
        · obtain ⟨b29, rfl, hb29, q29⟩ := h29
          subst S29
          cases b29 with
          | false =>
            have y29 := b_ft hb29
            refine z_if_ne 39 C dX5_nameAt_32 (by decide) (fun c32 => absurd c32 (by decide)) (fun _ => ?_)
            refine z_iconst 1 (by decide) C dX5_nameAt_35 ?_
            refine z_goto 40 C dX5_nameAt_36 (by decide) ?_
            refine z_iconst 2 (by decide) C dX5_nameAt_40 ?_
            refine z_callM 2 [zi (1), zi 2] C rfl (M_fails1 hl0 hM h39 1 2 (by decide)) rfl (zgoodV LWm_good wm64 wm65 wm66 wm37 wm67) rfl rfl rfl (by decide +kernel) rfl (by rw [hR]; exact ⟨Nat.le_of_ble_eq_true rfl, Nat.le_of_ble_eq_true rfl⟩) hM.1 (by rw [hR]; exact ⟨Nat.le_of_ble_eq_true rfl, Nat.le_of_ble_eq_true rfl⟩) (Nat.le_of_ble_eq_true rfl) dX5_nameAt_41 (fun v41 S41 h41 => ?_) (fun E41 S41 h41 => ?_)
            · obtain ⟨rfl, hM⟩ := h41
              refine z_if_eq 51 C dX5_nameAt_44 (by decide) (fun c44 => absurd c44 (by decide)) (fun _ => ?_)
              refine z_iconst 0 (by decide) C dX5_nameAt_47 ?_
              refine z_goto 62 C dX5_nameAt_48 (by decide) ?_
              refine z_zreturn C F (Nat.le_of_ble_eq_true rfl) (Nat.le_of_ble_eq_true rfl) (by decide) dX5_nameAt_62 ?_
              exact Or.inr (Or.inr ⟨y8, y29, rfl, hM⟩)
            · exact h41.elim
          | true =>
            have y29 := hb29.mp rfl
            refine z_if_ne 39 C dX5_nameAt_32 (by decide) (fun _ => ?_) (fun c32 => absurd c32 (by decide))
            refine z_iconst 0 (by decide) C dX5_nameAt_39 ?_
            refine z_iconst 2 (by decide) C dX5_nameAt_40 ?_
            refine z_callM 2 [zi (0), zi 2] C rfl (M_fails0 hl0 hM h39 0 2 (by decide)) rfl (zgoodV LWm_good wm64 wm65 wm66 wm37 wm67) rfl rfl rfl (by decide +kernel) rfl (by rw [hR]; exact ⟨Nat.le_of_ble_eq_true rfl, Nat.le_of_ble_eq_true rfl⟩) hM.1 (by rw [hR]; exact ⟨Nat.le_of_ble_eq_true rfl, Nat.le_of_ble_eq_true rfl⟩) (Nat.le_of_ble_eq_true rfl) dX5_nameAt_41 (fun v41 S41 h41 => ?_) (fun E41 S41 h41 => ?_)
            · obtain ⟨rfl, q41⟩ := h41
              subst S41
              refine z_if_eq 51 C dX5_nameAt_44 (by decide) (fun _ => ?_) (fun c44 => absurd c44 (by decide))
              refine z_aload_n C rfl dX5_nameAt_51 ?_
              refine zg5_names C (fun w h => List.mem_cons_of_mem _ (um_wsX50 w h)) hM.1 (List.mem_cons_of_mem _ wm13) dX5_nameAt_52 ?_
              refine z_ref (hM.q 50 rfl) ?_
              refine z_bipush 6 (by decide) C dX5_nameAt_55 ?_
              refine z_iload_n C rfl dX5_nameAt_57 ?_
              refine z_imul C dX5_nameAt_58 ?_
              refine z_iload_n C rfl dX5_nameAt_59 ?_
              refine z_iadd C dX5_nameAt_60 ?_
              refine z_caload C (hM.k 50 rfl) (hM.b' 50 rfl ((nm_b hQ3 y8 y29).2) (by decide)) dX5_nameAt_61 ?_
              refine z_int (hM.t 50 rfl (by decide) _) ?_
              refine z_zreturn C F (Nat.le_of_ble_eq_true rfl) (Nat.le_of_ble_eq_true rfl) (nm_b hQ3 y8 y29).1 dX5_nameAt_62 ?_
              exact Or.inl ⟨y8, y29, rfl, hM⟩
            · exact h41.elim
        · exact h29.elim
      · exact h12.elim
    | true =>
      have y8 := b_tf hb8
      refine z_callM 2 [zi (bI true), zi 1] C rfl (M_fails1 hl0 hM h39 (bI true) 1 (by decide)) rfl (zgoodV LWm_good wm64 wm65 wm66 wm37 wm67) rfl rfl rfl (by decide +kernel) rfl (by rw [hR]; exact ⟨Nat.le_of_ble_eq_true rfl, Nat.le_of_ble_eq_true rfl⟩) hM.1 (by rw [hR]; exact ⟨Nat.le_of_ble_eq_true rfl, Nat.le_of_ble_eq_true rfl⟩) (Nat.le_of_ble_eq_true rfl) dX5_nameAt_12 (fun v12 S12 h12 => ?_) (fun E12 S12 h12 => ?_)
      · obtain ⟨rfl, hM⟩ := h12
        refine z_if_ne 47 C dX5_nameAt_15 (by decide) (fun _ => ?_) (fun c15 => absurd c15 (by decide))
        refine z_iconst 0 (by decide) C dX5_nameAt_47 ?_
        refine z_goto 62 C dX5_nameAt_48 (by decide) ?_
        refine z_zreturn C F (Nat.le_of_ble_eq_true rfl) (Nat.le_of_ble_eq_true rfl) (by decide) dX5_nameAt_62 ?_
        exact Or.inr (Or.inl ⟨y8, rfl, hM⟩)
      · exact h12.elim
  · exact h8.elim
set_option maxRecDepth 100000 in
set_option maxHeartbeats 4000000 in
theorem M_contains {l : Launch} (hl0 : l.stackTraces = false) {D : ZD} {J : Nat → Int64} {S : ZM} {M : Nat} {r : Nat → Nat} (hM0 : iM D J S M r) (h39 : D 39 0 = 0) (hC : wC D) (x y : Int32) : zMet l yX5_contains (Cond.code yX5_contains cX5_contains 3 (some .boolean) :: LWm) ({ frames := 2, cells := 0, slots := 0, locals := 43 } : Room) 0 0 [zr (some M), zi x, zi y] S (zPo (fun v S' => (hasLs D x ∧ hasTr D y ∧ v = some (zi (bI (hasB (D 61 (ix x)) y))) ∧ mR D J S' M r) ∨ (¬ (hasLs D x ∧ hasTr D y) ∧ v = some (zi 0) ∧ mR (s39 D 1) J S' M r)) (fun _ _ => False)) := by
  refine zMet.of' [some (zr (some M)), some (zi x), some (zi y)] hl0 (by decide) rfl (Nat.le_of_ble_eq_true rfl) rfl ?_
  intro X C N hR hN0 hX F
  subst hX
  have hN := hC.1
  obtain ⟨w0, hM⟩ := id hM0
  refine z_aload_n C rfl dX5_contains_0 ?_
  refine z_iconst 0 (by decide) C dX5_contains_1 ?_
  refine zp5_thrown C (fun w h => List.mem_cons_of_mem _ (um_wsX50 w h)) hM.1 (List.mem_cons_of_mem _ wm33) dX5_contains_2 ?_
  have hM := hM0.th h39
  refine z_aload_n C rfl dX5_contains_5 ?_
  refine z_aload_n C rfl dX5_contains_6 ?_
  refine z_iload_n C rfl dX5_contains_7 ?_
  refine z_callM 1 [zi x] C rfl (M_noList hl0 hM hN x) rfl (zgoodV LWm_good wm103 wm104 wm105 wm37 wm106) rfl rfl rfl (by decide +kernel) rfl (by rw [hR]; exact ⟨Nat.le_of_ble_eq_true rfl, Nat.le_of_ble_eq_true rfl⟩) hM.1 (by rw [hR]; exact ⟨Nat.le_of_ble_eq_true rfl, Nat.le_of_ble_eq_true rfl⟩) (Nat.le_of_ble_eq_true rfl) dX5_contains_8 (fun v8 S8 h8 => ?_) (fun E8 S8 h8 => ?_)
  · obtain ⟨b8, rfl, hb8, q8⟩ := h8
    subst S8
    cases b8 with
    | false =>
      have y8 := hb8.mp rfl
      refine z_if_ne 22 C dX5_contains_11 (by decide) (fun c11 => absurd c11 (by decide)) (fun _ => ?_)
      refine z_aload_n C rfl dX5_contains_14 ?_
      refine z_iload_n C rfl dX5_contains_15 ?_
      refine z_callM 1 [zi y] C rfl (M_noTrack hl0 hM hN y) rfl (zgoodV LWm_good wm72 wm73 wm74 wm37 wm75) rfl rfl rfl (by decide +kernel) rfl (by rw [hR]; exact ⟨Nat.le_of_ble_eq_true rfl, Nat.le_of_ble_eq_true rfl⟩) hM.1 (by rw [hR]; exact ⟨Nat.le_of_ble_eq_true rfl, Nat.le_of_ble_eq_true rfl⟩) (Nat.le_of_ble_eq_true rfl) dX5_contains_16 (fun v16 S16 h16 => ?_) (fun E16 S16 h16 => ?_)
      · obtain ⟨b16, rfl, hb16, q16⟩ := h16
        subst S16
        cases b16 with
        | false =>
          have y16 := hb16.mp rfl
          refine z_if_eq 26 C dX5_contains_19 (by decide) (fun _ => ?_) (fun c19 => absurd c19 (by decide))
          refine z_iconst 0 (by decide) C dX5_contains_26 ?_
          refine z_iconst 1 (by decide) C dX5_contains_27 ?_
          refine z_callM 2 [zi (0), zi 1] C rfl (M_fails0 hl0 hM h39 0 1 (by decide)) rfl (zgoodV LWm_good wm64 wm65 wm66 wm37 wm67) rfl rfl rfl (by decide +kernel) rfl (by rw [hR]; exact ⟨Nat.le_of_ble_eq_true rfl, Nat.le_of_ble_eq_true rfl⟩) hM.1 (by rw [hR]; exact ⟨Nat.le_of_ble_eq_true rfl, Nat.le_of_ble_eq_true rfl⟩) (Nat.le_of_ble_eq_true rfl) dX5_contains_28 (fun v28 S28 h28 => ?_) (fun E28 S28 h28 => ?_)
          · obtain ⟨rfl, q28⟩ := h28
            subst S28
            refine z_if_ne 52 C dX5_contains_31 (by decide) (fun c31 => absurd c31 (by decide)) (fun _ => ?_)
            refine z_aload_n C rfl dX5_contains_34 ?_
            refine zg5_kept C (fun w h => List.mem_cons_of_mem _ (um_wsX50 w h)) hM.1 (List.mem_cons_of_mem _ wm22) dX5_contains_35 ?_
            refine z_ref (hM.q 61 rfl) ?_
            refine z_iload_n C rfl dX5_contains_38 ?_
            refine z_iaload C (hM.k 61 rfl) (hM.b' 61 rfl (y8.b) (by decide)) dX5_contains_39 ?_
            refine z_int (hM.t 61 rfl (by decide) _) ?_
            refine z_iload_n C rfl dX5_contains_40 ?_
            refine z_ishr C dX5_contains_41 ?_
            refine z_iconst 1 (by decide) C dX5_contains_42 ?_
            refine z_iand C dX5_contains_43 ?_
            refine z_iconst 1 (by decide) C dX5_contains_44 ?_
            refine z_icmp_ne 52 C dX5_contains_45 (by decide) (fun c45 => ?_) (fun c45 => ?_)
            · refine z_iconst 0 (by decide) C dX5_contains_52 ?_
              refine z_zreturn C F (Nat.le_of_ble_eq_true rfl) (Nat.le_of_ble_eq_true rfl) (by decide) dX5_contains_53 ?_
              exact Or.inl ⟨y8, y16, by rw [show hasB (D 61 (ix x)) y = false from Bool.eq_false_iff.mpr (fun z => c45 (by have w := y16.d; rw [w.2.1] at z ⊢; exact (shr_bit (by omega)).mpr z))]; rfl, hM⟩
            · refine z_iconst 1 (by decide) C dX5_contains_48 ?_
              refine z_goto 53 C dX5_contains_49 (by decide) ?_
              refine z_zreturn C F (Nat.le_of_ble_eq_true rfl) (Nat.le_of_ble_eq_true rfl) (by decide) dX5_contains_53 ?_
              exact Or.inl ⟨y8, y16, by rw [show hasB (D 61 (ix x)) y = true from by have w := y16.d; rw [w.2.1] at c45 ⊢; exact (shr_bit (by omega)).mp c45]; rfl, hM⟩
          · exact h28.elim
        | true =>
          have y16 := b_tf hb16
          refine z_if_eq 26 C dX5_contains_19 (by decide) (fun c19 => absurd c19 (by decide)) (fun _ => ?_)
          refine z_iconst 1 (by decide) C dX5_contains_22 ?_
          refine z_goto 27 C dX5_contains_23 (by decide) ?_
          refine z_iconst 1 (by decide) C dX5_contains_27 ?_
          refine z_callM 2 [zi (1), zi 1] C rfl (M_fails1 hl0 hM h39 1 1 (by decide)) rfl (zgoodV LWm_good wm64 wm65 wm66 wm37 wm67) rfl rfl rfl (by decide +kernel) rfl (by rw [hR]; exact ⟨Nat.le_of_ble_eq_true rfl, Nat.le_of_ble_eq_true rfl⟩) hM.1 (by rw [hR]; exact ⟨Nat.le_of_ble_eq_true rfl, Nat.le_of_ble_eq_true rfl⟩) (Nat.le_of_ble_eq_true rfl) dX5_contains_28 (fun v28 S28 h28 => ?_) (fun E28 S28 h28 => ?_)
          · obtain ⟨rfl, hM⟩ := h28
            refine z_if_ne 52 C dX5_contains_31 (by decide) (fun _ => ?_) (fun c31 => absurd c31 (by decide))
            refine z_iconst 0 (by decide) C dX5_contains_52 ?_
            refine z_zreturn C F (Nat.le_of_ble_eq_true rfl) (Nat.le_of_ble_eq_true rfl) (by decide) dX5_contains_53 ?_
            first | exact Or.inr ⟨fun z => y8 z.1, rfl, hM⟩ | exact Or.inr ⟨fun z => y16 z.2, rfl, hM⟩
          · exact h28.elim
      · exact h16.elim
    | true =>
      have y8 := b_tf hb8
      refine z_if_ne 22 C dX5_contains_11 (by decide) (fun _ => ?_) (fun c11 => absurd c11 (by decide))
      refine z_iconst 1 (by decide) C dX5_contains_22 ?_
      refine z_goto 27 C dX5_contains_23 (by decide) ?_
      refine z_iconst 1 (by decide) C dX5_contains_27 ?_
      refine z_callM 2 [zi (1), zi 1] C rfl (M_fails1 hl0 hM h39 1 1 (by decide)) rfl (zgoodV LWm_good wm64 wm65 wm66 wm37 wm67) rfl rfl rfl (by decide +kernel) rfl (by rw [hR]; exact ⟨Nat.le_of_ble_eq_true rfl, Nat.le_of_ble_eq_true rfl⟩) hM.1 (by rw [hR]; exact ⟨Nat.le_of_ble_eq_true rfl, Nat.le_of_ble_eq_true rfl⟩) (Nat.le_of_ble_eq_true rfl) dX5_contains_28 (fun v28 S28 h28 => ?_) (fun E28 S28 h28 => ?_)
      · obtain ⟨rfl, hM⟩ := h28
        refine z_if_ne 52 C dX5_contains_31 (by decide) (fun _ => ?_) (fun c31 => absurd c31 (by decide))
        refine z_iconst 0 (by decide) C dX5_contains_52 ?_
        refine z_zreturn C F (Nat.le_of_ble_eq_true rfl) (Nat.le_of_ble_eq_true rfl) (by decide) dX5_contains_53 ?_
        first | exact Or.inr ⟨fun z => y8 z.1, rfl, hM⟩ | exact Or.inr ⟨fun z => y16 z.2, rfl, hM⟩
      · exact h28.elim
  · exact h8.elim
set_option maxRecDepth 100000 in
set_option maxHeartbeats 4000000 in
theorem M_containsByRounds {l : Launch} (hl0 : l.stackTraces = false) {D : ZD} {J : Nat → Int64} {S : ZM} {M : Nat} {r : Nat → Nat} (hM0 : iM D J S M r) (h39 : D 39 0 = 0) (hC : wC D) (x y : Int32) : zMet l yX5_containsByRounds (Cond.code yX5_containsByRounds cX5_containsByRounds 3 (some .boolean) :: LWm) ({ frames := 3, cells := 0, slots := 0, locals := 65 } : Room) 0 0 [zr (some M), zi x, zi y] S (zPo (fun v S' => (hasLs D x ∧ hasTr D y ∧ v = some (zi (bI (hasB (D 61 (ix x)) y))) ∧ mR D J S' M r) ∨ (¬ (hasLs D x ∧ hasTr D y) ∧ v = some (zi 0) ∧ mR (s39 D 1) J S' M r)) (fun _ _ => False)) := by
  refine zMet.of' [some (zr (some M)), some (zi x), some (zi y)] hl0 (by decide) rfl (Nat.le_of_ble_eq_true rfl) rfl ?_
  intro X C N hR hN0 hX F
  subst hX
  refine z_aload_n C rfl dX5_containsByRounds_0 ?_
  refine z_iload_n C rfl dX5_containsByRounds_1 ?_
  refine z_iload_n C rfl dX5_containsByRounds_2 ?_
  refine z_callM 2 [zi x, zi y] C rfl (M_contains hl0 hM0 h39 hC x y) rfl (zgoodV LWm_good wm126 wm127 wm128 wm37 wm129) rfl rfl rfl (by decide +kernel) rfl (by rw [hR]; exact ⟨Nat.le_of_ble_eq_true rfl, Nat.le_of_ble_eq_true rfl⟩) hM0.k (by rw [hR]; exact ⟨Nat.le_of_ble_eq_true rfl, Nat.le_of_ble_eq_true rfl⟩) (Nat.le_of_ble_eq_true rfl) dX5_containsByRounds_3 (fun v3 S3 h3 => ?_) (fun E3 S3 h3 => ?_)
  · obtain ⟨b3, rfl⟩ : ∃ b : Bool, v3 = some (zi (bI b)) := by
      rcases h3 with ⟨-, -, e, -⟩ | ⟨-, e, -⟩
      · exact ⟨_, e⟩
      · exact ⟨false, e⟩
    refine z_zreturn C F (Nat.le_of_ble_eq_true rfl) (Nat.le_of_ble_eq_true rfl) (bI_nar b3) dX5_containsByRounds_6 ?_
    exact h3
  · exact h3.elim
set_option maxRecDepth 100000 in
set_option maxHeartbeats 4000000 in
theorem M_common {l : Launch} (hl0 : l.stackTraces = false) {D : ZD} {J : Nat → Int64} {S : ZM} {M : Nat} {r : Nat → Nat} (hM0 : iM D J S M r) (h39 : D 39 0 = 0) (hC : wC D) (x y : Int32) : zMet l yX5_common (Cond.code yX5_common cX5_common 3 (some .int) :: LWm) ({ frames := 2, cells := 0, slots := 0, locals := 43 } : Room) 0 0 [zr (some M), zi x, zi y] S (zPo (fun v S' => (hasLs D x ∧ hasLs D y ∧ v = some (zi (ctF (D 61 (ix x) &&& D 61 (ix y)) 32)) ∧ mR D J S' M r) ∨ (¬ (hasLs D x ∧ hasLs D y) ∧ v = some (zi 0) ∧ mR (s39 D 1) J S' M r)) (fun _ _ => False)) := by
  refine zMet.of' [some (zr (some M)), some (zi x), some (zi y)] hl0 (by decide) rfl (Nat.le_of_ble_eq_true rfl) rfl ?_
  intro X C N hR hN0 hX F
  subst hX
  have hN := hC.1
  obtain ⟨w0, hM⟩ := id hM0
  refine z_aload_n C rfl dX5_common_0 ?_
  refine z_iconst 0 (by decide) C dX5_common_1 ?_
  refine zp5_thrown C (fun w h => List.mem_cons_of_mem _ (um_wsX50 w h)) hM.1 (List.mem_cons_of_mem _ wm33) dX5_common_2 ?_
  have hM := hM0.th h39
  refine z_aload_n C rfl dX5_common_5 ?_
  refine z_aload_n C rfl dX5_common_6 ?_
  refine z_iload_n C rfl dX5_common_7 ?_
  refine z_callM 1 [zi x] C rfl (M_noList hl0 hM hN x) rfl (zgoodV LWm_good wm103 wm104 wm105 wm37 wm106) rfl rfl rfl (by decide +kernel) rfl (by rw [hR]; exact ⟨Nat.le_of_ble_eq_true rfl, Nat.le_of_ble_eq_true rfl⟩) hM.1 (by rw [hR]; exact ⟨Nat.le_of_ble_eq_true rfl, Nat.le_of_ble_eq_true rfl⟩) (Nat.le_of_ble_eq_true rfl) dX5_common_8 (fun v8 S8 h8 => ?_) (fun E8 S8 h8 => ?_)
  · obtain ⟨b8, rfl, hb8, q8⟩ := h8
    subst S8
    cases b8 with
    | false =>
      have y8 := hb8.mp rfl
      refine z_if_ne 22 C dX5_common_11 (by decide) (fun c11 => absurd c11 (by decide)) (fun _ => ?_)
      refine z_aload_n C rfl dX5_common_14 ?_
      refine z_iload_n C rfl dX5_common_15 ?_
      refine z_callM 1 [zi y] C rfl (M_noList hl0 hM hN y) rfl (zgoodV LWm_good wm103 wm104 wm105 wm37 wm106) rfl rfl rfl (by decide +kernel) rfl (by rw [hR]; exact ⟨Nat.le_of_ble_eq_true rfl, Nat.le_of_ble_eq_true rfl⟩) hM.1 (by rw [hR]; exact ⟨Nat.le_of_ble_eq_true rfl, Nat.le_of_ble_eq_true rfl⟩) (Nat.le_of_ble_eq_true rfl) dX5_common_16 (fun v16 S16 h16 => ?_) (fun E16 S16 h16 => ?_)
      · obtain ⟨b16, rfl, hb16, q16⟩ := h16
        subst S16
        cases b16 with
        | false =>
          have y16 := hb16.mp rfl
          refine z_if_eq 26 C dX5_common_19 (by decide) (fun _ => ?_) (fun c19 => absurd c19 (by decide))
          refine z_iconst 0 (by decide) C dX5_common_26 ?_
          refine z_iconst 1 (by decide) C dX5_common_27 ?_
          refine z_callM 2 [zi (0), zi 1] C rfl (M_fails0 hl0 hM h39 0 1 (by decide)) rfl (zgoodV LWm_good wm64 wm65 wm66 wm37 wm67) rfl rfl rfl (by decide +kernel) rfl (by rw [hR]; exact ⟨Nat.le_of_ble_eq_true rfl, Nat.le_of_ble_eq_true rfl⟩) hM.1 (by rw [hR]; exact ⟨Nat.le_of_ble_eq_true rfl, Nat.le_of_ble_eq_true rfl⟩) (Nat.le_of_ble_eq_true rfl) dX5_common_28 (fun v28 S28 h28 => ?_) (fun E28 S28 h28 => ?_)
          · obtain ⟨rfl, q28⟩ := h28
            subst S28
            refine z_if_eq 38 C dX5_common_31 (by decide) (fun _ => ?_) (fun c31 => absurd c31 (by decide))
            refine z_aload_n C rfl dX5_common_38 ?_
            refine zg5_kept C (fun w h => List.mem_cons_of_mem _ (um_wsX50 w h)) hM.1 (List.mem_cons_of_mem _ wm22) dX5_common_39 ?_
            refine z_ref (hM.q 61 rfl) ?_
            refine z_iload_n C rfl dX5_common_42 ?_
            refine z_iaload C (hM.k 61 rfl) (hM.b' 61 rfl (y8.b) (by decide)) dX5_common_43 ?_
            refine z_int (hM.t 61 rfl (by decide) _) ?_
            refine z_aload_n C rfl dX5_common_44 ?_
            refine zg5_kept C (fun w h => List.mem_cons_of_mem _ (um_wsX50 w h)) hM.1 (List.mem_cons_of_mem _ wm22) dX5_common_45 ?_
            refine z_ref (hM.q 61 rfl) ?_
            refine z_iload_n C rfl dX5_common_48 ?_
            refine z_iaload C (hM.k 61 rfl) (hM.b' 61 rfl (y16.b) (by decide)) dX5_common_49 ?_
            refine z_int (hM.t 61 rfl (by decide) _) ?_
            refine z_iand C dX5_common_50 ?_
            refine z_callS 1 [zi (D 61 (ix x) &&& D 61 (ix y))] C (M_count hl0 (D 61 (ix x) &&& D 61 (ix y))) rfl (zgoodS LWm_good wm85 wm86 wm37 wm87) rfl rfl rfl (by decide +kernel) rfl (by rw [hR]; exact ⟨Nat.le_of_ble_eq_true rfl, Nat.le_of_ble_eq_true rfl⟩) (by rw [hR]; exact ⟨Nat.le_of_ble_eq_true rfl, Nat.le_of_ble_eq_true rfl⟩) (Nat.le_of_ble_eq_true rfl) dX5_common_51 (fun v51 S51 h51 => ?_) (fun E51 S51 h51 => ?_)
            · obtain ⟨rfl, q51⟩ := h51
              subst S51
              refine z_ireturn C F (Nat.le_of_ble_eq_true rfl) (Nat.le_of_ble_eq_true rfl) dX5_common_54 ?_
              exact Or.inl ⟨y8, y16, rfl, hM⟩
            · exact h51.elim
          · exact h28.elim
        | true =>
          have y16 := b_tf hb16
          refine z_if_eq 26 C dX5_common_19 (by decide) (fun c19 => absurd c19 (by decide)) (fun _ => ?_)
          refine z_iconst 1 (by decide) C dX5_common_22 ?_
          refine z_goto 27 C dX5_common_23 (by decide) ?_
          refine z_iconst 1 (by decide) C dX5_common_27 ?_
          refine z_callM 2 [zi (1), zi 1] C rfl (M_fails1 hl0 hM h39 1 1 (by decide)) rfl (zgoodV LWm_good wm64 wm65 wm66 wm37 wm67) rfl rfl rfl (by decide +kernel) rfl (by rw [hR]; exact ⟨Nat.le_of_ble_eq_true rfl, Nat.le_of_ble_eq_true rfl⟩) hM.1 (by rw [hR]; exact ⟨Nat.le_of_ble_eq_true rfl, Nat.le_of_ble_eq_true rfl⟩) (Nat.le_of_ble_eq_true rfl) dX5_common_28 (fun v28 S28 h28 => ?_) (fun E28 S28 h28 => ?_)
          · obtain ⟨rfl, hM⟩ := h28
            refine z_if_eq 38 C dX5_common_31 (by decide) (fun c31 => absurd c31 (by decide)) (fun _ => ?_)
            refine z_iconst 0 (by decide) C dX5_common_34 ?_
            refine z_goto 54 C dX5_common_35 (by decide) ?_
            refine z_ireturn C F (Nat.le_of_ble_eq_true rfl) (Nat.le_of_ble_eq_true rfl) dX5_common_54 ?_
            first | exact Or.inr ⟨fun z => y8 z.1, rfl, hM⟩ | exact Or.inr ⟨fun z => y16 z.2, rfl, hM⟩
          · exact h28.elim
      · exact h16.elim
    | true =>
      have y8 := b_tf hb8
      refine z_if_ne 22 C dX5_common_11 (by decide) (fun _ => ?_) (fun c11 => absurd c11 (by decide))
      refine z_iconst 1 (by decide) C dX5_common_22 ?_
      refine z_goto 27 C dX5_common_23 (by decide) ?_
      refine z_iconst 1 (by decide) C dX5_common_27 ?_
      refine z_callM 2 [zi (1), zi 1] C rfl (M_fails1 hl0 hM h39 1 1 (by decide)) rfl (zgoodV LWm_good wm64 wm65 wm66 wm37 wm67) rfl rfl rfl (by decide +kernel) rfl (by rw [hR]; exact ⟨Nat.le_of_ble_eq_true rfl, Nat.le_of_ble_eq_true rfl⟩) hM.1 (by rw [hR]; exact ⟨Nat.le_of_ble_eq_true rfl, Nat.le_of_ble_eq_true rfl⟩) (Nat.le_of_ble_eq_true rfl) dX5_common_28 (fun v28 S28 h28 => ?_) (fun E28 S28 h28 => ?_)
      · obtain ⟨rfl, hM⟩ := h28
        refine z_if_eq 38 C dX5_common_31 (by decide) (fun c31 => absurd c31 (by decide)) (fun _ => ?_)
        refine z_iconst 0 (by decide) C dX5_common_34 ?_
        refine z_goto 54 C dX5_common_35 (by decide) ?_
        refine z_ireturn C F (Nat.le_of_ble_eq_true rfl) (Nat.le_of_ble_eq_true rfl) dX5_common_54 ?_
        first | exact Or.inr ⟨fun z => y8 z.1, rfl, hM⟩ | exact Or.inr ⟨fun z => y16 z.2, rfl, hM⟩
      · exact h28.elim
  · exact h8.elim
