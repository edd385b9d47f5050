/-! the reference: what changes it -/
theorem wC.row {D D1 : ZD} (h : wC D) (hD : ∀ k : Nat, k = 41 ∨ k = 48 ∨ (52 ≤ k ∧ k ≤ 55) ∨ k = 57 ∨ k = 58 → D1 k = D k) : wC D1 := by
  have e41 := hD 41 (by decide)
  have e48 := hD 48 (by decide)
  have e52 := hD 52 (by decide)
  have e53 := hD 53 (by decide)
  have e54 := hD 54 (by decide)
  have e55 := hD 55 (by decide)
  have e57 := hD 57 (by decide)
  have e58 := hD 58 (by decide)
  obtain ⟨h1, h2, h3, h4⟩ := h
  refine ⟨?_, ?_, ?_, ?_⟩
  · simp only [wfN, dT, dG, dR, dL, e41, e48, e52, e57] at h1 ⊢; exact h1
  · simp only [wfR, dG, dR, dL, e48, e52, e53, e54, e55, e57] at h2 ⊢; exact h2
  · rw [wfO_eq e52 e57 e58]; exact h3
  · rw [acD_eq e53 e54 e55 e57 e58]; exact h4
/-- the reference behind a change: X, but for what no answer rests on -/
def okM (J : Nat → Int64) (S' : ZM) (M : Nat) (r : Nat → Nat) (X : ZD) : Prop := ∃ D' : ZD, mR D' J S' M r ∧ D' 39 0 = 0 ∧ eqJ D' X ∧ wfM D'
theorem nar_c {x : Int32} {n : Nat} (e : x = nI n) (hn : n < 65536) : vp_nar .char x = x := by
  subst e
  exact Value.int.inj (show narrow .char (.int (nI n)) = .int (nI n) from (pk_charN hn).1)
theorem nar_o {x : Int32} (h : x = 115 ∨ x = 114 ∨ x = 112 ∨ x = 110) : vp_nar .char x = x := by
  rcases h with rfl | rfl | rfl | rfl <;> decide
theorem nar_l {x : Int32} (h : 97 ≤ x ∧ x ≤ 122) : vp_nar .char x = x := by
  obtain ⟨n, e, hn⟩ := in_nI (n := 122) (Int32.le_trans (by decide) h.1) h.2 (by decide)
  exact nar_c e (by omega)

set_option maxRecDepth 100000 in
set_option maxHeartbeats 800000 in
theorem M_setRating {l : Launch} (hl0 : l.stackTraces = false) {D : ZD} {J : Nat → Int64} {S : ZM} {M : Nat} {r : Nat → Nat} (hM0 : iM D J S M r) (h39 : D 39 0 = 0) (hC : wC D) (x y : Int32) : zMet l yX5_setRating (Cond.code yX5_setRating cX5_setRating 4 (some .int) :: LWm) ({ frames := 347, cells := 0, slots := 0, locals := 8868 } : Room) 0 0 [zr (some M), zi x, zi y] S (zPo (fun v S' => (hasTr D x ∧ (0 ≤ y ∧ y ≤ 5) ∧ v = some (zi (D 43 (ix x))) ∧ okM J S' M r (chgD (opRate D (ix x) y))) ∨ (¬ hasTr D x ∧ v = some (zi 0) ∧ mR (s39 D 1) J S' M r) ∨ (hasTr D x ∧ ¬ (0 ≤ y ∧ y ≤ 5) ∧ v = some (zi 0) ∧ mR (s39 D 2) J S' M r)) (fun _ _ => False)) := by
  refine zMet.of' [some (zr (some M)), some (zi x), some (zi y), none] hl0 (by decide) rfl (Nat.le_of_ble_eq_true rfl) rfl ?_
  intro X C N hR hN0 hX F
  subst hX
  have hN := hC.1
  obtain ⟨w0, hM⟩ := id hM0
  refine z_aload_n C rfl dX5_setRating_0 ?_
  refine z_iconst 0 (by decide) C dX5_setRating_1 ?_
  refine zp5_thrown C (fun w h => List.mem_cons_of_mem _ (um_wsX50 w h)) hM.1 (List.mem_cons_of_mem _ wm33) dX5_setRating_2 ?_
  have hM := hM0.th h39
  refine z_aload_n C rfl dX5_setRating_5 ?_
  refine z_aload_n C rfl dX5_setRating_6 ?_
  refine z_iload_n C rfl dX5_setRating_7 ?_
  refine z_callM 1 [zi x] C rfl (M_noTrack hl0 hM hN x) rfl (zgoodV LWm_good wm72 wm73 wm74 wm37 wm75) rfl rfl rfl (by decide +kernel) rfl (by rw [hR]; exact ⟨Nat.le_of_ble_eq_true rfl, Nat.le_of_ble_eq_true rfl⟩) hM.1 (by rw [hR]; exact ⟨Nat.le_of_ble_eq_true rfl, Nat.le_of_ble_eq_true rfl⟩) (Nat.le_of_ble_eq_true rfl) dX5_setRating_8 (fun v8 S8 h8 => ?_) (fun E8 S8 h8 => ?_)
  · obtain ⟨b8, rfl, hb8, q8⟩ := h8
    subst S8
    refine z_iconst 1 (by decide) C dX5_setRating_11 ?_
    cases b8 with
    | false =>
      have y8 := hb8.mp rfl
      refine z_callM 2 [zi (bI false), zi 1] C rfl (M_fails0 hl0 hM h39 (bI false) 1 (by decide)) rfl (zgoodV LWm_good wm64 wm65 wm66 wm37 wm67) rfl rfl rfl (by decide +kernel) rfl (by rw [hR]; exact ⟨Nat.le_of_ble_eq_true rfl, Nat.le_of_ble_eq_true rfl⟩) hM.1 (by rw [hR]; exact ⟨Nat.le_of_ble_eq_true rfl, Nat.le_of_ble_eq_true rfl⟩) (Nat.le_of_ble_eq_true rfl) dX5_setRating_12 (fun v12 S12 h12 => ?_) (fun E12 S12 h12 => ?_)
      · obtain ⟨rfl, q12⟩ := h12
        subst S12
        refine z_if_ne 40 C dX5_setRating_15 (by decide) (fun c15 => absurd c15 (by decide)) (fun _ => ?_)
        refine z_aload_n C rfl dX5_setRating_18 ?_
        refine z_iload_n C rfl dX5_setRating_19 ?_
        refine z_iconst 0 (by decide) C dX5_setRating_20 ?_
        refine z_iconst 5 (by decide) C dX5_setRating_21 ?_
        refine z_callS 3 [zi y, zi 0, zi 5] C (M_in hl0 y 0 5) rfl (zgoodS LWm_good wm35 wm36 wm37 wm38) rfl rfl rfl (by decide +kernel) rfl (by rw [hR]; exact ⟨Nat.le_of_ble_eq_true rfl, Nat.le_of_ble_eq_true rfl⟩) (by rw [hR]; exact ⟨Nat.le_of_ble_eq_true rfl, Nat.le_of_ble_eq_true rfl⟩) (Nat.le_of_ble_eq_true rfl) dX5_setRating_22 (fun v22 S22 h22 => ?_) (fun E22 S22 h22 => ?_)
        · obtain ⟨b22, rfl, hb22, q22⟩ := h22
          subst S22
          cases b22 with
          | false =>
            have y22 := b_ft hb22
            refine z_if_ne 32 C dX5_setRating_25 (by decide) (fun c25 => absurd c25 (by decide)) (fun _ => ?_)
            refine z_iconst 1 (by decide) C dX5_setRating_28 ?_
            refine z_goto 33 C dX5_setRating_29 (by decide) ?_
            refine z_iconst 2 (by decide) C dX5_setRating_33 ?_
            refine z_callM 2 [zi (1), zi 2] C rfl (M_fails1 hl0 hM h39 1 2 (by decide)) rfl (zgoodV LWm_good wm64 wm65 wm66 wm37 wm67) rfl rfl rfl (by decide +kernel) rfl (by rw [hR]; exact ⟨Nat.le_of_ble_eq_true rfl, Nat.le_of_ble_eq_true rfl⟩) hM.1 (by rw [hR]; exact ⟨Nat.le_of_ble_eq_true rfl, Nat.le_of_ble_eq_true rfl⟩) (Nat.le_of_ble_eq_true rfl) dX5_setRating_34 (fun v34 S34 h34 => ?_) (fun E34 S34 h34 => ?_)
            · obtain ⟨rfl, hM⟩ := h34
              refine z_if_eq 42 C dX5_setRating_37 (by decide) (fun c37 => absurd c37 (by decide)) (fun _ => ?_)
              refine z_iconst 0 (by decide) C dX5_setRating_40 ?_
              refine z_ireturn C F (Nat.le_of_ble_eq_true rfl) (Nat.le_of_ble_eq_true rfl) dX5_setRating_41 ?_
              exact Or.inr (Or.inr ⟨y8, y22, rfl, hM⟩)
            · exact h34.elim
          | true =>
            have y22 := hb22.mp rfl
            refine z_if_ne 32 C dX5_setRating_25 (by decide) (fun _ => ?_) (fun c25 => absurd c25 (by decide))
            refine z_iconst 0 (by decide) C dX5_setRating_32 ?_
            refine z_iconst 2 (by decide) C dX5_setRating_33 ?_
            refine z_callM 2 [zi (0), zi 2] C rfl (M_fails0 hl0 hM h39 0 2 (by decide)) rfl (zgoodV LWm_good wm64 wm65 wm66 wm37 wm67) rfl rfl rfl (by decide +kernel) rfl (by rw [hR]; exact ⟨Nat.le_of_ble_eq_true rfl, Nat.le_of_ble_eq_true rfl⟩) hM.1 (by rw [hR]; exact ⟨Nat.le_of_ble_eq_true rfl, Nat.le_of_ble_eq_true rfl⟩) (Nat.le_of_ble_eq_true rfl) dX5_setRating_34 (fun v34 S34 h34 => ?_) (fun E34 S34 h34 => ?_)
            · obtain ⟨rfl, q34⟩ := h34
              subst S34
              refine z_if_eq 42 C dX5_setRating_37 (by decide) (fun _ => ?_) (fun c37 => absurd c37 (by decide))
              refine z_aload_n C rfl dX5_setRating_42 ?_
              refine zg5_rating C (fun w h => List.mem_cons_of_mem _ (um_wsX50 w h)) hM.1 (List.mem_cons_of_mem _ wm5) dX5_setRating_43 ?_
              refine z_ref (hM.q 43 rfl) ?_
              refine z_iload_n C rfl dX5_setRating_46 ?_
              refine z_iaload C (hM.k 43 rfl) (hM.b' 43 rfl (y8.b) (by decide)) dX5_setRating_47 ?_
              refine z_int (hM.t 43 rfl (by decide) _) ?_
              refine z_istore_n [_, _, _, _] C (by decide) rfl dX5_setRating_48 ?_
              refine z_aload_n C rfl dX5_setRating_49 ?_
              refine zg5_rating C (fun w h => List.mem_cons_of_mem _ (um_wsX50 w h)) hM.1 (List.mem_cons_of_mem _ wm5) dX5_setRating_50 ?_
              refine z_ref (hM.q 43 rfl) ?_
              refine z_iload_n C rfl dX5_setRating_53 ?_
              refine z_iload_n C rfl dX5_setRating_54 ?_
              refine z_iastore C (hM.k 43 rfl) (hM.b' 43 rfl (y8.b) (by decide)) dX5_setRating_55 ?_
              refine z_memM (hM.eI 43 rfl (by decide) _ _) (fun S55 hM => ?_)
              refine z_aload_n C rfl dX5_setRating_56 ?_
              refine z_callM 0 [] C rfl (M_changes hl0 hM (hC.row (fun k hk => by rw [dS_ne (by omega)]))) rfl (zgoodV LWm_good wm68 wm69 wm70 wm37 wm71) rfl rfl rfl (by decide +kernel) rfl (by rw [hR]; exact ⟨Nat.le_of_ble_eq_true rfl, Nat.le_of_ble_eq_true rfl⟩) hM.1 (by rw [hR]; exact ⟨Nat.le_of_ble_eq_true rfl, Nat.le_of_ble_eq_true rfl⟩) (Nat.le_of_ble_eq_true rfl) dX5_setRating_57 (fun v57 S57 h57 => ?_) (fun E57 S57 h57 => ?_)
              · obtain ⟨rfl, D2, hM, e39, eJ, eM⟩ := h57
                refine z_iload_n C rfl dX5_setRating_60 ?_
                refine z_ireturn C F (Nat.le_of_ble_eq_true rfl) (Nat.le_of_ble_eq_true rfl) dX5_setRating_61 ?_
                exact Or.inl ⟨y8, y22, rfl, D2, hM, (congrFun e39 0).trans h39, eJ, eM⟩
              · exact h57.elim
            · exact h34.elim
        · exact h22.elim
      · exact h12.elim
    | true =>
      have y8 := b_tf hb8
      refine z_callM 2 [zi (bI true), zi 1] C rfl (M_fails1 hl0 hM h39 (bI true) 1 (by decide)) rfl (zgoodV LWm_good wm64 wm65 wm66 wm37 wm67) rfl rfl rfl (by decide +kernel) rfl (by rw [hR]; exact ⟨Nat.le_of_ble_eq_true rfl, Nat.le_of_ble_eq_true rfl⟩) hM.1 (by rw [hR]; exact ⟨Nat.le_of_ble_eq_true rfl, Nat.le_of_ble_eq_true rfl⟩) (Nat.le_of_ble_eq_true rfl) dX5_setRating_12 (fun v12 S12 h12 => ?_) (fun E12 S12 h12 => ?_)
      · obtain ⟨rfl, hM⟩ := h12
        refine z_if_ne 40 C dX5_setRating_15 (by decide) (fun _ => ?_) (fun c15 => absurd c15 (by decide))
        refine z_iconst 0 (by decide) C dX5_setRating_40 ?_
        refine z_ireturn C F (Nat.le_of_ble_eq_true rfl) (Nat.le_of_ble_eq_true rfl) dX5_setRating_41 ?_
        exact Or.inr (Or.inl ⟨y8, rfl, hM⟩)
      · exact h12.elim
  · exact h8.elim
set_option maxRecDepth 100000 in
set_option maxHeartbeats 800000 in
theorem M_play {l : Launch} (hl0 : l.stackTraces = false) {D : ZD} {J : Nat → Int64} {S : ZM} {M : Nat} {r : Nat → Nat} (hM0 : iM D J S M r) (h39 : D 39 0 = 0) (hC : wC D) (x : Int32) : zMet l yX5_play (Cond.code yX5_play cX5_play 2 (some .int) :: LWm) ({ frames := 347, cells := 0, slots := 0, locals := 8868 } : Room) 0 0 [zr (some M), zi x] S (zPo (fun v S' => (hasTr D x ∧ ¬ D 44 (ix x) = 999 ∧ v = some (zi (D 44 (ix x) + 1)) ∧ okM J S' M r (chgD (opPlay D (ix x)))) ∨ (¬ hasTr D x ∧ v = some (zi 0) ∧ mR (s39 D 1) J S' M r) ∨ (hasTr D x ∧ D 44 (ix x) = 999 ∧ v = some (zi 0) ∧ mR (s39 D 2) J S' M r)) (fun _ _ => False)) := by
  refine zMet.of' [some (zr (some M)), some (zi x)] hl0 (by decide) rfl (Nat.le_of_ble_eq_true rfl) rfl ?_
  intro X C N hR hN0 hX F
  subst hX
  have hN := hC.1
  obtain ⟨w0, hM⟩ := id hM0
  refine z_aload_n C rfl dX5_play_0 ?_
  refine z_iconst 0 (by decide) C dX5_play_1 ?_
  refine zp5_thrown C (fun w h => List.mem_cons_of_mem _ (um_wsX50 w h)) hM.1 (List.mem_cons_of_mem _ wm33) dX5_play_2 ?_
  have hM := hM0.th h39
  refine z_aload_n C rfl dX5_play_5 ?_
  refine z_aload_n C rfl dX5_play_6 ?_
  refine z_iload_n C rfl dX5_play_7 ?_
  refine z_callM 1 [zi x] C rfl (M_noTrack hl0 hM hN x) rfl (zgoodV LWm_good wm72 wm73 wm74 wm37 wm75) rfl rfl rfl (by decide +kernel) rfl (by rw [hR]; exact ⟨Nat.le_of_ble_eq_true rfl, Nat.le_of_ble_eq_true rfl⟩) hM.1 (by rw [hR]; exact ⟨Nat.le_of_ble_eq_true rfl, Nat.le_of_ble_eq_true rfl⟩) (Nat.le_of_ble_eq_true rfl) dX5_play_8 (fun v8 S8 h8 => ?_) (fun E8 S8 h8 => ?_)
  · obtain ⟨b8, rfl, hb8, q8⟩ := h8
    subst S8
    refine z_iconst 1 (by decide) C dX5_play_11 ?_
    cases b8 with
    | false =>
      have y8 := hb8.mp rfl
      refine z_callM 2 [zi (bI false), zi 1] C rfl (M_fails0 hl0 hM h39 (bI false) 1 (by decide)) rfl (zgoodV LWm_good wm64 wm65 wm66 wm37 wm67) rfl rfl rfl (by decide +kernel) rfl (by rw [hR]; exact ⟨Nat.le_of_ble_eq_true rfl, Nat.le_of_ble_eq_true rfl⟩) hM.1 (by rw [hR]; exact ⟨Nat.le_of_ble_eq_true rfl, Nat.le_of_ble_eq_true rfl⟩) (Nat.le_of_ble_eq_true rfl) dX5_play_12 (fun v12 S12 h12 => ?_) (fun E12 S12 h12 => ?_)
      · obtain ⟨rfl, q12⟩ := h12
        subst S12
        refine z_if_ne 43 C dX5_play_15 (by decide) (fun c15 => absurd c15 (by decide)) (fun _ => ?_)
        refine z_aload_n C rfl dX5_play_18 ?_
        refine z_aload_n C rfl dX5_play_19 ?_
        refine zg5_plays C (fun w h => List.mem_cons_of_mem _ (um_wsX50 w h)) hM.1 (List.mem_cons_of_mem _ wm6) dX5_play_20 ?_
        refine z_ref (hM.q 44 rfl) ?_
        refine z_iload_n C rfl dX5_play_23 ?_
        refine z_iaload C (hM.k 44 rfl) (hM.b' 44 rfl (y8.b) (by decide)) dX5_play_24 ?_
        refine z_int (hM.t 44 rfl (by decide) _) ?_
        refine z_sipush 999 (by decide) C dX5_play_25 ?_
        refine z_icmp_ne 35 C dX5_play_28 (by decide) (fun c28 => ?_) (fun c28 => ?_)
        · refine z_iconst 0 (by decide) C dX5_play_35 ?_
          refine z_iconst 2 (by decide) C dX5_play_36 ?_
          refine z_callM 2 [zi (0), zi 2] C rfl (M_fails0 hl0 hM h39 0 2 (by decide)) rfl (zgoodV LWm_good wm64 wm65 wm66 wm37 wm67) rfl rfl rfl (by decide +kernel) rfl (by rw [hR]; exact ⟨Nat.le_of_ble_eq_true rfl, Nat.le_of_ble_eq_true rfl⟩) hM.1 (by rw [hR]; exact ⟨Nat.le_of_ble_eq_true rfl, Nat.le_of_ble_eq_true rfl⟩) (Nat.le_of_ble_eq_true rfl) dX5_play_37 (fun v37 S37 h37 => ?_) (fun E37 S37 h37 => ?_)
          · obtain ⟨rfl, q37⟩ := h37
            subst S37
            refine z_if_eq 45 C dX5_play_40 (by decide) (fun _ => ?_) (fun c40 => absurd c40 (by decide))
            refine z_aload_n C rfl dX5_play_45 ?_
            refine zg5_plays C (fun w h => List.mem_cons_of_mem _ (um_wsX50 w h)) hM.1 (List.mem_cons_of_mem _ wm6) dX5_play_46 ?_
            refine z_ref (hM.q 44 rfl) ?_
            refine z_iload_n C rfl dX5_play_49 ?_
            refine z_dup2 rfl rfl C dX5_play_50 ?_
            refine z_iaload C (hM.k 44 rfl) (hM.b' 44 rfl (y8.b) (by decide)) dX5_play_51 ?_
            refine z_int (hM.t 44 rfl (by decide) _) ?_
            refine z_iconst 1 (by decide) C dX5_play_52 ?_
            refine z_iadd C dX5_play_53 ?_
            refine z_iastore C (hM.k 44 rfl) (hM.b' 44 rfl (y8.b) (by decide)) dX5_play_54 ?_
            refine z_memM (hM.eI 44 rfl (by decide) _ _) (fun S54 hM => ?_)
            refine z_aload_n C rfl dX5_play_55 ?_
            refine zg5_last C (fun w h => List.mem_cons_of_mem _ (um_wsX50 w h)) hM.1 (List.mem_cons_of_mem _ wm7) dX5_play_56 ?_
            refine z_ref (hM.q 45 rfl) ?_
            refine z_iload_n C rfl dX5_play_59 ?_
            refine z_aload_n C rfl dX5_play_60 ?_
            refine zg5_today C (fun w h => List.mem_cons_of_mem _ (um_wsX50 w h)) hM.1 (List.mem_cons_of_mem _ wm50) dX5_play_61 ?_
            refine z_int (hM.i 40 rfl) ?_
            refine z_int (x' := D 40 0) (congrFun (dS_ne (by decide)) 0) ?_
            refine z_iastore C (hM.k 45 rfl) (hM.b' 45 rfl (y8.b) (by decide)) dX5_play_64 ?_
            refine z_memM (hM.eI 45 rfl (by decide) _ _) (fun S64 hM => ?_)
            rw [show dS D 44 (up1 (D 44) x.toNatClampNeg (D 44 x.toNatClampNeg + 1)) 45 = D 45 from dS_ne (by decide)] at hM
            refine z_aload_n C rfl dX5_play_65 ?_
            refine z_callM 0 [] C rfl (M_changes hl0 hM (hC.row (fun k hk => by rw [dS_ne (by omega), dS_ne (by omega)]))) rfl (zgoodV LWm_good wm68 wm69 wm70 wm37 wm71) rfl rfl rfl (by decide +kernel) rfl (by rw [hR]; exact ⟨Nat.le_of_ble_eq_true rfl, Nat.le_of_ble_eq_true rfl⟩) hM.1 (by rw [hR]; exact ⟨Nat.le_of_ble_eq_true rfl, Nat.le_of_ble_eq_true rfl⟩) (Nat.le_of_ble_eq_true rfl) dX5_play_66 (fun v66 S66 h66 => ?_) (fun E66 S66 h66 => ?_)
            · obtain ⟨rfl, D2, hM, e39, eJ, eM⟩ := h66
              refine z_aload_n C rfl dX5_play_69 ?_
              refine zg5_plays C (fun w h => List.mem_cons_of_mem _ (um_wsX50 w h)) hM.1 (List.mem_cons_of_mem _ wm6) dX5_play_70 ?_
              refine z_ref (hM.q 44 rfl) ?_
              refine z_iload_n C rfl dX5_play_73 ?_
              refine z_iaload C (hM.k 44 rfl) (hM.b' 44 rfl (y8.b) (by decide)) dX5_play_74 ?_
              refine z_int (hM.t 44 rfl (by decide) _) ?_
              refine z_int (x' := D 44 (ix x) + 1) ((congrFun (eJ 44 rfl) _).trans ((congrFun (coreE (core_chg _) 44 rfl) _).trans ((congrFun (opPlay_44 D (ix x)) _).trans up1_self))) ?_
              refine z_ireturn C F (Nat.le_of_ble_eq_true rfl) (Nat.le_of_ble_eq_true rfl) dX5_play_75 ?_
              exact Or.inl ⟨y8, c28, rfl, D2, hM, (congrFun e39 0).trans h39, eJ, eM⟩
            · exact h66.elim
          · exact h37.elim
        · refine z_iconst 1 (by decide) C dX5_play_31 ?_
          refine z_goto 36 C dX5_play_32 (by decide) ?_
          refine z_iconst 2 (by decide) C dX5_play_36 ?_
          refine z_callM 2 [zi (1), zi 2] C rfl (M_fails1 hl0 hM h39 1 2 (by decide)) rfl (zgoodV LWm_good wm64 wm65 wm66 wm37 wm67) rfl rfl rfl (by decide +kernel) rfl (by rw [hR]; exact ⟨Nat.le_of_ble_eq_true rfl, Nat.le_of_ble_eq_true rfl⟩) hM.1 (by rw [hR]; exact ⟨Nat.le_of_ble_eq_true rfl, Nat.le_of_ble_eq_true rfl⟩) (Nat.le_of_ble_eq_true rfl) dX5_play_37 (fun v37 S37 h37 => ?_) (fun E37 S37 h37 => ?_)
          · obtain ⟨rfl, hM⟩ := h37
            refine z_if_eq 45 C dX5_play_40 (by decide) (fun c40 => absurd c40 (by decide)) (fun _ => ?_)
            refine z_iconst 0 (by decide) C dX5_play_43 ?_
            refine z_ireturn C F (Nat.le_of_ble_eq_true rfl) (Nat.le_of_ble_eq_true rfl) dX5_play_44 ?_
            exact Or.inr (Or.inr ⟨y8, c28, rfl, hM⟩)
          · exact h37.elim
      · exact h12.elim
    | true =>
      have y8 := b_tf hb8
      refine z_callM 2 [zi (bI true), zi 1] C rfl (M_fails1 hl0 hM h39 (bI true) 1 (by decide)) rfl (zgoodV LWm_good wm64 wm65 wm66 wm37 wm67) rfl rfl rfl (by decide +kernel) rfl (by rw [hR]; exact ⟨Nat.le_of_ble_eq_true rfl, Nat.le_of_ble_eq_true rfl⟩) hM.1 (by rw [hR]; exact ⟨Nat.le_of_ble_eq_true rfl, Nat.le_of_ble_eq_true rfl⟩) (Nat.le_of_ble_eq_true rfl) dX5_play_12 (fun v12 S12 h12 => ?_) (fun E12 S12 h12 => ?_)
      · obtain ⟨rfl, hM⟩ := h12
        refine z_if_ne 43 C dX5_play_15 (by decide) (fun _ => ?_) (fun c15 => absurd c15 (by decide))
        refine z_iconst 0 (by decide) C dX5_play_43 ?_
        refine z_ireturn C F (Nat.le_of_ble_eq_true rfl) (Nat.le_of_ble_eq_true rfl) dX5_play_44 ?_
        exact Or.inr (Or.inl ⟨y8, rfl, hM⟩)
      · exact h12.elim
  · exact h8.elim
set_option maxRecDepth 100000 in
set_option maxHeartbeats 800000 in
theorem M_pass {l : Launch} (hl0 : l.stackTraces = false) {D : ZD} {J : Nat → Int64} {S : ZM} {M : Nat} {r : Nat → Nat} (hM0 : iM D J S M r) (h39 : D 39 0 = 0) (hC : wC D) (y : Int32) : zMet l yX5_pass (Cond.code yX5_pass cX5_pass 2 (some .int) :: LWm) ({ frames := 347, cells := 0, slots := 0, locals := 8868 } : Room) 0 0 [zr (some M), zi y] S (zPo (fun v S' => ((1 ≤ y ∧ y ≤ 365) ∧ ¬ 9999 < D 40 0 + y ∧ v = some (zi (D 40 0 + y)) ∧ okM J S' M r (chgD (opPass D y))) ∨ (¬ (1 ≤ y ∧ y ≤ 365) ∧ v = some (zi 0) ∧ mR (s39 D 1) J S' M r) ∨ ((1 ≤ y ∧ y ≤ 365) ∧ 9999 < D 40 0 + y ∧ v = some (zi 0) ∧ mR (s39 D 2) J S' M r)) (fun _ _ => False)) := by
  refine zMet.of' [some (zr (some M)), some (zi y)] hl0 (by decide) rfl (Nat.le_of_ble_eq_true rfl) rfl ?_
  intro X C N hR hN0 hX F
  subst hX
  have hN := hC.1
  obtain ⟨w0, hM⟩ := id hM0
  refine z_aload_n C rfl dX5_pass_0 ?_
  refine z_iconst 0 (by decide) C dX5_pass_1 ?_
  refine zp5_thrown C (fun w h => List.mem_cons_of_mem _ (um_wsX50 w h)) hM.1 (List.mem_cons_of_mem _ wm33) dX5_pass_2 ?_
  have hM := hM0.th h39
  refine z_aload_n C rfl dX5_pass_5 ?_
  refine z_iload_n C rfl dX5_pass_6 ?_
  refine z_iconst 1 (by decide) C dX5_pass_7 ?_
  refine z_sipush 365 (by decide) C dX5_pass_8 ?_
  refine z_callS 3 [zi y, zi 1, zi 365] C (M_in hl0 y 1 365) rfl (zgoodS LWm_good wm35 wm36 wm37 wm38) rfl rfl rfl (by decide +kernel) rfl (by rw [hR]; exact ⟨Nat.le_of_ble_eq_true rfl, Nat.le_of_ble_eq_true rfl⟩) (by rw [hR]; exact ⟨Nat.le_of_ble_eq_true rfl, Nat.le_of_ble_eq_true rfl⟩) (Nat.le_of_ble_eq_true rfl) dX5_pass_11 (fun v11 S11 h11 => ?_) (fun E11 S11 h11 => ?_)
  · obtain ⟨b11, rfl, hb11, q11⟩ := h11
    subst S11
    cases b11 with
    | false =>
      have y11 := b_ft hb11
      refine z_if_ne 21 C dX5_pass_14 (by decide) (fun c14 => absurd c14 (by decide)) (fun _ => ?_)
      refine z_iconst 1 (by decide) C dX5_pass_17 ?_
      refine z_goto 22 C dX5_pass_18 (by decide) ?_
      refine z_iconst 1 (by decide) C dX5_pass_22 ?_
      refine z_callM 2 [zi (1), zi 1] C rfl (M_fails1 hl0 hM h39 1 1 (by decide)) rfl (zgoodV LWm_good wm64 wm65 wm66 wm37 wm67) rfl rfl rfl (by decide +kernel) rfl (by rw [hR]; exact ⟨Nat.le_of_ble_eq_true rfl, Nat.le_of_ble_eq_true rfl⟩) hM.1 (by rw [hR]; exact ⟨Nat.le_of_ble_eq_true rfl, Nat.le_of_ble_eq_true rfl⟩) (Nat.le_of_ble_eq_true rfl) dX5_pass_23 (fun v23 S23 h23 => ?_) (fun E23 S23 h23 => ?_)
      · obtain ⟨rfl, hM⟩ := h23
        refine z_if_ne 54 C dX5_pass_26 (by decide) (fun _ => ?_) (fun c26 => absurd c26 (by decide))
        refine z_iconst 0 (by decide) C dX5_pass_54 ?_
        refine z_ireturn C F (Nat.le_of_ble_eq_true rfl) (Nat.le_of_ble_eq_true rfl) dX5_pass_55 ?_
        exact Or.inr (Or.inl ⟨y11, rfl, hM⟩)
      · exact h23.elim
    | true =>
      have y11 := hb11.mp rfl
      refine z_if_ne 21 C dX5_pass_14 (by decide) (fun _ => ?_) (fun c14 => absurd c14 (by decide))
      refine z_iconst 0 (by decide) C dX5_pass_21 ?_
      refine z_iconst 1 (by decide) C dX5_pass_22 ?_
      refine z_callM 2 [zi (0), zi 1] C rfl (M_fails0 hl0 hM h39 0 1 (by decide)) rfl (zgoodV LWm_good wm64 wm65 wm66 wm37 wm67) rfl rfl rfl (by decide +kernel) rfl (by rw [hR]; exact ⟨Nat.le_of_ble_eq_true rfl, Nat.le_of_ble_eq_true rfl⟩) hM.1 (by rw [hR]; exact ⟨Nat.le_of_ble_eq_true rfl, Nat.le_of_ble_eq_true rfl⟩) (Nat.le_of_ble_eq_true rfl) dX5_pass_23 (fun v23 S23 h23 => ?_) (fun E23 S23 h23 => ?_)
      · obtain ⟨rfl, q23⟩ := h23
        subst S23
        refine z_if_ne 54 C dX5_pass_26 (by decide) (fun c26 => absurd c26 (by decide)) (fun _ => ?_)
        refine z_aload_n C rfl dX5_pass_29 ?_
        refine z_aload_n C rfl dX5_pass_30 ?_
        refine zg5_today C (fun w h => List.mem_cons_of_mem _ (um_wsX50 w h)) hM.1 (List.mem_cons_of_mem _ wm50) dX5_pass_31 ?_
        refine z_int (hM.i 40 rfl) ?_
        refine z_iload_n C rfl dX5_pass_34 ?_
        refine z_iadd C dX5_pass_35 ?_
        refine z_sipush 9999 (by decide) C dX5_pass_36 ?_
        refine z_icmp_le 46 C dX5_pass_39 (by decide) (fun c39 => ?_) (fun c39 => ?_)
        · refine z_iconst 0 (by decide) C dX5_pass_46 ?_
          refine z_iconst 2 (by decide) C dX5_pass_47 ?_
          refine z_callM 2 [zi (0), zi 2] C rfl (M_fails0 hl0 hM h39 0 2 (by decide)) rfl (zgoodV LWm_good wm64 wm65 wm66 wm37 wm67) rfl rfl rfl (by decide +kernel) rfl (by rw [hR]; exact ⟨Nat.le_of_ble_eq_true rfl, Nat.le_of_ble_eq_true rfl⟩) hM.1 (by rw [hR]; exact ⟨Nat.le_of_ble_eq_true rfl, Nat.le_of_ble_eq_true rfl⟩) (Nat.le_of_ble_eq_true rfl) dX5_pass_48 (fun v48 S48 h48 => ?_) (fun E48 S48 h48 => ?_)
          · obtain ⟨rfl, q48⟩ := h48
            subst S48
            refine z_if_eq 56 C dX5_pass_51 (by decide) (fun _ => ?_) (fun c51 => absurd c51 (by decide))
            refine z_aload_n C rfl dX5_pass_56 ?_
            refine z_dup rfl C dX5_pass_57 ?_
            refine zg5_today C (fun w h => List.mem_cons_of_mem _ (um_wsX50 w h)) hM.1 (List.mem_cons_of_mem _ wm50) dX5_pass_58 ?_
            refine z_int (hM.i 40 rfl) ?_
            refine z_iload_n C rfl dX5_pass_61 ?_
            refine z_iadd C dX5_pass_62 ?_
            refine zp5_today C (fun w h => List.mem_cons_of_mem _ (um_wsX50 w h)) hM.1 (List.mem_cons_of_mem _ wm50) dX5_pass_63 ?_
            refine z_memM (hM.sI 40 rfl _) (fun S63 hM => ?_)
            refine z_aload_n C rfl dX5_pass_66 ?_
            refine z_callM 0 [] C rfl (M_changes hl0 hM (hC.row (fun k hk => by rw [dS_ne (by omega)]))) rfl (zgoodV LWm_good wm68 wm69 wm70 wm37 wm71) rfl rfl rfl (by decide +kernel) rfl (by rw [hR]; exact ⟨Nat.le_of_ble_eq_true rfl, Nat.le_of_ble_eq_true rfl⟩) hM.1 (by rw [hR]; exact ⟨Nat.le_of_ble_eq_true rfl, Nat.le_of_ble_eq_true rfl⟩) (Nat.le_of_ble_eq_true rfl) dX5_pass_67 (fun v67 S67 h67 => ?_) (fun E67 S67 h67 => ?_)
            · obtain ⟨rfl, D2, hM, e39, eJ, eM⟩ := h67
              refine z_aload_n C rfl dX5_pass_70 ?_
              refine zg5_today C (fun w h => List.mem_cons_of_mem _ (um_wsX50 w h)) hM.1 (List.mem_cons_of_mem _ wm50) dX5_pass_71 ?_
              refine z_int (hM.i 40 rfl) ?_
              refine z_int (x' := D 40 0 + y) ((congrFun (eJ 40 rfl) _).trans ((congrFun (coreE (core_chg _) 40 rfl) _).trans ((congrFun dS_self 0).trans up1_self))) ?_
              refine z_ireturn C F (Nat.le_of_ble_eq_true rfl) (Nat.le_of_ble_eq_true rfl) dX5_pass_74 ?_
              exact Or.inl ⟨y11, Int32.not_lt.mpr c39, rfl, D2, hM, (congrFun e39 0).trans h39, eJ, eM⟩
            · exact h67.elim
          · exact h48.elim
        · refine z_iconst 1 (by decide) C dX5_pass_42 ?_
          refine z_goto 47 C dX5_pass_43 (by decide) ?_
          refine z_iconst 2 (by decide) C dX5_pass_47 ?_
          refine z_callM 2 [zi (1), zi 2] C rfl (M_fails1 hl0 hM h39 1 2 (by decide)) rfl (zgoodV LWm_good wm64 wm65 wm66 wm37 wm67) rfl rfl rfl (by decide +kernel) rfl (by rw [hR]; exact ⟨Nat.le_of_ble_eq_true rfl, Nat.le_of_ble_eq_true rfl⟩) hM.1 (by rw [hR]; exact ⟨Nat.le_of_ble_eq_true rfl, Nat.le_of_ble_eq_true rfl⟩) (Nat.le_of_ble_eq_true rfl) dX5_pass_48 (fun v48 S48 h48 => ?_) (fun E48 S48 h48 => ?_)
          · obtain ⟨rfl, hM⟩ := h48
            refine z_if_eq 56 C dX5_pass_51 (by decide) (fun c51 => absurd c51 (by decide)) (fun _ => ?_)
            refine z_iconst 0 (by decide) C dX5_pass_54 ?_
            refine z_ireturn C F (Nat.le_of_ble_eq_true rfl) (Nat.le_of_ble_eq_true rfl) dX5_pass_55 ?_
            exact Or.inr (Or.inr ⟨y11, Int32.not_le.mp c39, rfl, hM⟩)
          · exact h48.elim
      · exact h23.elim
  · exact h11.elim
set_option maxRecDepth 100000 in
set_option maxHeartbeats 800000 in
theorem M_removeTrack {l : Launch} (hl0 : l.stackTraces = false) {D : ZD} {J : Nat → Int64} {S : ZM} {M : Nat} {r : Nat → Nat} (hM0 : iM D J S M r) (h39 : D 39 0 = 0) (hC : wC D) (x : Int32) : zMet l yX5_removeTrack (Cond.code yX5_removeTrack cX5_removeTrack 2 (some .int) :: LWm) ({ frames := 347, cells := 0, slots := 0, locals := 8868 } : Room) 0 0 [zr (some M), zi x] S (zPo (fun v S' => (hasTr D x ∧ v = some (zi (nI (cnF (prD (opRem D (ix x))) 24))) ∧ okM J S' M r (chgD (opRem D (ix x)))) ∨ (¬ hasTr D x ∧ v = some (zi 0) ∧ mR (s39 D 1) J S' M r)) (fun _ _ => False)) := by
  refine zMet.of' [some (zr (some M)), some (zi x)] hl0 (by decide) rfl (Nat.le_of_ble_eq_true rfl) rfl ?_
  intro X C N hR hN0 hX F
  subst hX
  have hN := hC.1
  obtain ⟨w0, hM⟩ := id hM0
  refine z_aload_n C rfl dX5_removeTrack_0 ?_
  refine z_iconst 0 (by decide) C dX5_removeTrack_1 ?_
  refine zp5_thrown C (fun w h => List.mem_cons_of_mem _ (um_wsX50 w h)) hM.1 (List.mem_cons_of_mem _ wm33) dX5_removeTrack_2 ?_
  have hM := hM0.th h39
  refine z_aload_n C rfl dX5_removeTrack_5 ?_
  refine z_aload_n C rfl dX5_removeTrack_6 ?_
  refine z_iload_n C rfl dX5_removeTrack_7 ?_
  refine z_callM 1 [zi x] C rfl (M_noTrack hl0 hM hN x) rfl (zgoodV LWm_good wm72 wm73 wm74 wm37 wm75) rfl rfl rfl (by decide +kernel) rfl (by rw [hR]; exact ⟨Nat.le_of_ble_eq_true rfl, Nat.le_of_ble_eq_true rfl⟩) hM.1 (by rw [hR]; exact ⟨Nat.le_of_ble_eq_true rfl, Nat.le_of_ble_eq_true rfl⟩) (Nat.le_of_ble_eq_true rfl) dX5_removeTrack_8 (fun v8 S8 h8 => ?_) (fun E8 S8 h8 => ?_)
  · obtain ⟨b8, rfl, hb8, q8⟩ := h8
    subst S8
    refine z_iconst 1 (by decide) C dX5_removeTrack_11 ?_
    cases b8 with
    | false =>
      have y8 := hb8.mp rfl
      refine z_callM 2 [zi (bI false), zi 1] C rfl (M_fails0 hl0 hM h39 (bI false) 1 (by decide)) rfl (zgoodV LWm_good wm64 wm65 wm66 wm37 wm67) rfl rfl rfl (by decide +kernel) rfl (by rw [hR]; exact ⟨Nat.le_of_ble_eq_true rfl, Nat.le_of_ble_eq_true rfl⟩) hM.1 (by rw [hR]; exact ⟨Nat.le_of_ble_eq_true rfl, Nat.le_of_ble_eq_true rfl⟩) (Nat.le_of_ble_eq_true rfl) dX5_removeTrack_12 (fun v12 S12 h12 => ?_) (fun E12 S12 h12 => ?_)
      · obtain ⟨rfl, q12⟩ := h12
        subst S12
        refine z_if_eq 20 C dX5_removeTrack_15 (by decide) (fun _ => ?_) (fun c15 => absurd c15 (by decide))
        refine z_aload_n C rfl dX5_removeTrack_20 ?_
        refine zg5_isRemoved C (fun w h => List.mem_cons_of_mem _ (um_wsX50 w h)) hM.1 (List.mem_cons_of_mem _ wm10) dX5_removeTrack_21 ?_
        refine z_ref (hM.q 47 rfl) ?_
        refine z_iload_n C rfl dX5_removeTrack_24 ?_
        refine z_iconst 1 (by decide) C dX5_removeTrack_25 ?_
        refine z_zastore C (hM.k 47 rfl) (hM.b' 47 rfl (y8.b) (by decide)) dX5_removeTrack_26 ?_
        refine z_memM (hM.eI 47 rfl (by decide) _ _) (fun S26 hM => ?_)
        rw [show vp_nar .boolean 1 = 1 from by decide] at hM
        refine z_aload_n C rfl dX5_removeTrack_27 ?_
        refine z_callM 0 [] C rfl (M_changes hl0 hM (hC.row (fun k hk => by rw [dS_ne (by omega)]))) rfl (zgoodV LWm_good wm68 wm69 wm70 wm37 wm71) rfl rfl rfl (by decide +kernel) rfl (by rw [hR]; exact ⟨Nat.le_of_ble_eq_true rfl, Nat.le_of_ble_eq_true rfl⟩) hM.1 (by rw [hR]; exact ⟨Nat.le_of_ble_eq_true rfl, Nat.le_of_ble_eq_true rfl⟩) (Nat.le_of_ble_eq_true rfl) dX5_removeTrack_28 (fun v28 S28 h28 => ?_) (fun E28 S28 h28 => ?_)
        · obtain ⟨rfl, D2, hM, e39, eJ, eM⟩ := h28
          refine z_aload_n C rfl dX5_removeTrack_31 ?_
          refine z_callM 0 [] C rfl (M_present hl0 hM ((wC_of (eJ.core.trans (core_chg _))).mpr (hC.row (fun k hk => dS_ne (by omega)))).1) rfl (zgoodV LWm_good wm76 wm77 wm78 wm37 wm79) rfl rfl rfl (by decide +kernel) rfl (by rw [hR]; exact ⟨Nat.le_of_ble_eq_true rfl, Nat.le_of_ble_eq_true rfl⟩) hM.1 (by rw [hR]; exact ⟨Nat.le_of_ble_eq_true rfl, Nat.le_of_ble_eq_true rfl⟩) (Nat.le_of_ble_eq_true rfl) dX5_removeTrack_32 (fun v32 S32 h32 => ?_) (fun E32 S32 h32 => ?_)
          · obtain ⟨rfl, q32⟩ := h32
            subst S32
            refine z_ireturn C F (Nat.le_of_ble_eq_true rfl) (Nat.le_of_ble_eq_true rfl) dX5_removeTrack_35 ?_
            exact Or.inl ⟨y8, by rw [prD_of (eJ.core.trans (core_chg _))]; rfl, D2, hM, (congrFun e39 0).trans h39, eJ, eM⟩
          · exact h32.elim
        · exact h28.elim
      · exact h12.elim
    | true =>
      have y8 := b_tf hb8
      refine z_callM 2 [zi (bI true), zi 1] C rfl (M_fails1 hl0 hM h39 (bI true) 1 (by decide)) rfl (zgoodV LWm_good wm64 wm65 wm66 wm37 wm67) rfl rfl rfl (by decide +kernel) rfl (by rw [hR]; exact ⟨Nat.le_of_ble_eq_true rfl, Nat.le_of_ble_eq_true rfl⟩) hM.1 (by rw [hR]; exact ⟨Nat.le_of_ble_eq_true rfl, Nat.le_of_ble_eq_true rfl⟩) (Nat.le_of_ble_eq_true rfl) dX5_removeTrack_12 (fun v12 S12 h12 => ?_) (fun E12 S12 h12 => ?_)
      · obtain ⟨rfl, hM⟩ := h12
        refine z_if_eq 20 C dX5_removeTrack_15 (by decide) (fun c15 => absurd c15 (by decide)) (fun _ => ?_)
        refine z_iconst 0 (by decide) C dX5_removeTrack_18 ?_
        refine z_ireturn C F (Nat.le_of_ble_eq_true rfl) (Nat.le_of_ble_eq_true rfl) dX5_removeTrack_19 ?_
        exact Or.inr ⟨y8, rfl, hM⟩
      · exact h12.elim
  · exact h8.elim
set_option maxRecDepth 100000 in
set_option maxHeartbeats 800000 in
theorem M_setLimit {l : Launch} (hl0 : l.stackTraces = false) {D : ZD} {J : Nat → Int64} {S : ZM} {M : Nat} {r : Nat → Nat} (hM0 : iM D J S M r) (h39 : D 39 0 = 0) (hC : wC D) (x y : Int32) : zMet l yX5_setLimit (Cond.code yX5_setLimit cX5_setLimit 4 (some .int) :: LWm) ({ frames := 347, cells := 0, slots := 0, locals := 8868 } : Room) 0 0 [zr (some M), zi x, zi y] S (zPo (fun v S' => (hasLs D x ∧ (0 ≤ y ∧ y ≤ 9999) ∧ v = some (zi (D 60 (ix x))) ∧ okM J S' M r (chgD (opLim D (ix x) y))) ∨ (¬ hasLs D x ∧ v = some (zi 0) ∧ mR (s39 D 1) J S' M r) ∨ (hasLs D x ∧ ¬ (0 ≤ y ∧ y ≤ 9999) ∧ v = some (zi 0) ∧ mR (s39 D 2) J S' M r)) (fun _ _ => False)) := by
  refine zMet.of' [some (zr (some M)), some (zi x), some (zi y), none] hl0 (by decide) rfl (Nat.le_of_ble_eq_true rfl) rfl ?_
  intro X C N hR hN0 hX F
  subst hX
  have hN := hC.1
  obtain ⟨w0, hM⟩ := id hM0
  refine z_aload_n C rfl dX5_setLimit_0 ?_
  refine z_iconst 0 (by decide) C dX5_setLimit_1 ?_
  refine zp5_thrown C (fun w h => List.mem_cons_of_mem _ (um_wsX50 w h)) hM.1 (List.mem_cons_of_mem _ wm33) dX5_setLimit_2 ?_
  have hM := hM0.th h39
  refine z_aload_n C rfl dX5_setLimit_5 ?_
  refine z_aload_n C rfl dX5_setLimit_6 ?_
  refine z_iload_n C rfl dX5_setLimit_7 ?_
  refine z_callM 1 [zi x] C rfl (M_noList hl0 hM hN x) rfl (zgoodV LWm_good wm103 wm104 wm105 wm37 wm106) rfl rfl rfl (by decide +kernel) rfl (by rw [hR]; exact ⟨Nat.le_of_ble_eq_true rfl, Nat.le_of_ble_eq_true rfl⟩) hM.1 (by rw [hR]; exact ⟨Nat.le_of_ble_eq_true rfl, Nat.le_of_ble_eq_true rfl⟩) (Nat.le_of_ble_eq_true rfl) dX5_setLimit_8 (fun v8 S8 h8 => ?_) (fun E8 S8 h8 => ?_)
  · obtain ⟨b8, rfl, hb8, q8⟩ := h8
    subst S8
    refine z_iconst 1 (by decide) C dX5_setLimit_11 ?_
    cases b8 with
    | false =>
      have y8 := hb8.mp rfl
      refine z_callM 2 [zi (bI false), zi 1] C rfl (M_fails0 hl0 hM h39 (bI false) 1 (by decide)) rfl (zgoodV LWm_good wm64 wm65 wm66 wm37 wm67) rfl rfl rfl (by decide +kernel) rfl (by rw [hR]; exact ⟨Nat.le_of_ble_eq_true rfl, Nat.le_of_ble_eq_true rfl⟩) hM.1 (by rw [hR]; exact ⟨Nat.le_of_ble_eq_true rfl, Nat.le_of_ble_eq_true rfl⟩) (Nat.le_of_ble_eq_true rfl) dX5_setLimit_12 (fun v12 S12 h12 => ?_) (fun E12 S12 h12 => ?_)
      · obtain ⟨rfl, q12⟩ := h12
        subst S12
        refine z_if_ne 42 C dX5_setLimit_15 (by decide) (fun c15 => absurd c15 (by decide)) (fun _ => ?_)
        refine z_aload_n C rfl dX5_setLimit_18 ?_
        refine z_iload_n C rfl dX5_setLimit_19 ?_
        refine z_iconst 0 (by decide) C dX5_setLimit_20 ?_
        refine z_sipush 9999 (by decide) C dX5_setLimit_21 ?_
        refine z_callS 3 [zi y, zi 0, zi 9999] C (M_in hl0 y 0 9999) rfl (zgoodS LWm_good wm35 wm36 wm37 wm38) rfl rfl rfl (by decide +kernel) rfl (by rw [hR]; exact ⟨Nat.le_of_ble_eq_true rfl, Nat.le_of_ble_eq_true rfl⟩) (by rw [hR]; exact ⟨Nat.le_of_ble_eq_true rfl, Nat.le_of_ble_eq_true rfl⟩) (Nat.le_of_ble_eq_true rfl) dX5_setLimit_24 (fun v24 S24 h24 => ?_) (fun E24 S24 h24 => ?_)
        · obtain ⟨b24, rfl, hb24, q24⟩ := h24
          subst S24
          cases b24 with
          | false =>
            have y24 := b_ft hb24
            refine z_if_ne 34 C dX5_setLimit_27 (by decide) (fun c27 => absurd c27 (by decide)) (fun _ => ?_)
            refine z_iconst 1 (by decide) C dX5_setLimit_30 ?_
            refine z_goto 35 C dX5_setLimit_31 (by decide) ?_
            refine z_iconst 2 (by decide) C dX5_setLimit_35 ?_
            refine z_callM 2 [zi (1), zi 2] C rfl (M_fails1 hl0 hM h39 1 2 (by decide)) rfl (zgoodV LWm_good wm64 wm65 wm66 wm37 wm67) rfl rfl rfl (by decide +kernel) rfl (by rw [hR]; exact ⟨Nat.le_of_ble_eq_true rfl, Nat.le_of_ble_eq_true rfl⟩) hM.1 (by rw [hR]; exact ⟨Nat.le_of_ble_eq_true rfl, Nat.le_of_ble_eq_true rfl⟩) (Nat.le_of_ble_eq_true rfl) dX5_setLimit_36 (fun v36 S36 h36 => ?_) (fun E36 S36 h36 => ?_)
            · obtain ⟨rfl, hM⟩ := h36
              refine z_if_eq 44 C dX5_setLimit_39 (by decide) (fun c39 => absurd c39 (by decide)) (fun _ => ?_)
              refine z_iconst 0 (by decide) C dX5_setLimit_42 ?_
              refine z_ireturn C F (Nat.le_of_ble_eq_true rfl) (Nat.le_of_ble_eq_true rfl) dX5_setLimit_43 ?_
              exact Or.inr (Or.inr ⟨y8, y24, rfl, hM⟩)
            · exact h36.elim
          | true =>
            have y24 := hb24.mp rfl
            refine z_if_ne 34 C dX5_setLimit_27 (by decide) (fun _ => ?_) (fun c27 => absurd c27 (by decide))
            refine z_iconst 0 (by decide) C dX5_setLimit_34 ?_
            refine z_iconst 2 (by decide) C dX5_setLimit_35 ?_
            refine z_callM 2 [zi (0), zi 2] C rfl (M_fails0 hl0 hM h39 0 2 (by decide)) rfl (zgoodV LWm_good wm64 wm65 wm66 wm37 wm67) rfl rfl rfl (by decide +kernel) rfl (by rw [hR]; exact ⟨Nat.le_of_ble_eq_true rfl, Nat.le_of_ble_eq_true rfl⟩) hM.1 (by rw [hR]; exact ⟨Nat.le_of_ble_eq_true rfl, Nat.le_of_ble_eq_true rfl⟩) (Nat.le_of_ble_eq_true rfl) dX5_setLimit_36 (fun v36 S36 h36 => ?_) (fun E36 S36 h36 => ?_)
            · obtain ⟨rfl, q36⟩ := h36
              subst S36
              refine z_if_eq 44 C dX5_setLimit_39 (by decide) (fun _ => ?_) (fun c39 => absurd c39 (by decide))
              refine z_aload_n C rfl dX5_setLimit_44 ?_
              refine zg5_limit C (fun w h => List.mem_cons_of_mem _ (um_wsX50 w h)) hM.1 (List.mem_cons_of_mem _ wm21) dX5_setLimit_45 ?_
              refine z_ref (hM.q 60 rfl) ?_
              refine z_iload_n C rfl dX5_setLimit_48 ?_
              refine z_iaload C (hM.k 60 rfl) (hM.b' 60 rfl (y8.b) (by decide)) dX5_setLimit_49 ?_
              refine z_int (hM.t 60 rfl (by decide) _) ?_
              refine z_istore_n [_, _, _, _] C (by decide) rfl dX5_setLimit_50 ?_
              refine z_aload_n C rfl dX5_setLimit_51 ?_
              refine zg5_limit C (fun w h => List.mem_cons_of_mem _ (um_wsX50 w h)) hM.1 (List.mem_cons_of_mem _ wm21) dX5_setLimit_52 ?_
              refine z_ref (hM.q 60 rfl) ?_
              refine z_iload_n C rfl dX5_setLimit_55 ?_
              refine z_iload_n C rfl dX5_setLimit_56 ?_
              refine z_iastore C (hM.k 60 rfl) (hM.b' 60 rfl (y8.b) (by decide)) dX5_setLimit_57 ?_
              refine z_memM (hM.eI 60 rfl (by decide) _ _) (fun S57 hM => ?_)
              refine z_aload_n C rfl dX5_setLimit_58 ?_
              refine z_callM 0 [] C rfl (M_changes hl0 hM (hC.row (fun k hk => by rw [dS_ne (by omega)]))) rfl (zgoodV LWm_good wm68 wm69 wm70 wm37 wm71) rfl rfl rfl (by decide +kernel) rfl (by rw [hR]; exact ⟨Nat.le_of_ble_eq_true rfl, Nat.le_of_ble_eq_true rfl⟩) hM.1 (by rw [hR]; exact ⟨Nat.le_of_ble_eq_true rfl, Nat.le_of_ble_eq_true rfl⟩) (Nat.le_of_ble_eq_true rfl) dX5_setLimit_59 (fun v59 S59 h59 => ?_) (fun E59 S59 h59 => ?_)
              · obtain ⟨rfl, D2, hM, e39, eJ, eM⟩ := h59
                refine z_iload_n C rfl dX5_setLimit_62 ?_
                refine z_ireturn C F (Nat.le_of_ble_eq_true rfl) (Nat.le_of_ble_eq_true rfl) dX5_setLimit_63 ?_
                exact Or.inl ⟨y8, y24, rfl, D2, hM, (congrFun e39 0).trans h39, eJ, eM⟩
              · exact h59.elim
            · exact h36.elim
        · exact h24.elim
      · exact h12.elim
    | true =>
      have y8 := b_tf hb8
      refine z_callM 2 [zi (bI true), zi 1] C rfl (M_fails1 hl0 hM h39 (bI true) 1 (by decide)) rfl (zgoodV LWm_good wm64 wm65 wm66 wm37 wm67) rfl rfl rfl (by decide +kernel) rfl (by rw [hR]; exact ⟨Nat.le_of_ble_eq_true rfl, Nat.le_of_ble_eq_true rfl⟩) hM.1 (by rw [hR]; exact ⟨Nat.le_of_ble_eq_true rfl, Nat.le_of_ble_eq_true rfl⟩) (Nat.le_of_ble_eq_true rfl) dX5_setLimit_12 (fun v12 S12 h12 => ?_) (fun E12 S12 h12 => ?_)
      · obtain ⟨rfl, hM⟩ := h12
        refine z_if_ne 42 C dX5_setLimit_15 (by decide) (fun _ => ?_) (fun c15 => absurd c15 (by decide))
        refine z_iconst 0 (by decide) C dX5_setLimit_42 ?_
        refine z_ireturn C F (Nat.le_of_ble_eq_true rfl) (Nat.le_of_ble_eq_true rfl) dX5_setLimit_43 ?_
        exact Or.inr (Or.inl ⟨y8, rfl, hM⟩)
      · exact h12.elim
  · exact h8.elim
set_option maxRecDepth 100000 in
set_option maxHeartbeats 800000 in
theorem M_setOrder {l : Launch} (hl0 : l.stackTraces = false) {D : ZD} {J : Nat → Int64} {S : ZM} {M : Nat} {r : Nat → Nat} (hM0 : iM D J S M r) (h39 : D 39 0 = 0) (hC : wC D) (hO9 : ∀ i : Nat, i < dL D → D 59 i = 115 ∨ D 59 i = 114 ∨ D 59 i = 112 ∨ D 59 i = 110) (x y : Int32) : zMet l yX5_setOrder (Cond.code yX5_setOrder cX5_setOrder 4 (some .char) :: LWm) ({ frames := 347, cells := 0, slots := 0, locals := 8868 } : Room) 0 0 [zr (some M), zi x, zi y] S (zPo (fun v S' => (hasLs D x ∧ (y = 115 ∨ y = 114 ∨ y = 112 ∨ y = 110) ∧ v = some (zi (D 59 (ix x))) ∧ okM J S' M r (chgD (opOrd D (ix x) y))) ∨ (¬ hasLs D x ∧ v = some (zi 0) ∧ mR (s39 D 1) J S' M r) ∨ (hasLs D x ∧ ¬ (y = 115 ∨ y = 114 ∨ y = 112 ∨ y = 110) ∧ v = some (zi 0) ∧ mR (s39 D 2) J S' M r)) (fun _ _ => False)) := by
  refine zMet.of' [some (zr (some M)), some (zi x), some (zi y), none] hl0 (by decide) rfl (Nat.le_of_ble_eq_true rfl) rfl ?_
  intro X C N hR hN0 hX F
  subst hX
  have hN := hC.1
  obtain ⟨w0, hM⟩ := id hM0
  refine z_aload_n C rfl dX5_setOrder_0 ?_
  refine z_iconst 0 (by decide) C dX5_setOrder_1 ?_
  refine zp5_thrown C (fun w h => List.mem_cons_of_mem _ (um_wsX50 w h)) hM.1 (List.mem_cons_of_mem _ wm33) dX5_setOrder_2 ?_
  have hM := hM0.th h39
  refine z_aload_n C rfl dX5_setOrder_5 ?_
  refine z_aload_n C rfl dX5_setOrder_6 ?_
  refine z_iload_n C rfl dX5_setOrder_7 ?_
  refine z_callM 1 [zi x] C rfl (M_noList hl0 hM hN x) rfl (zgoodV LWm_good wm103 wm104 wm105 wm37 wm106) rfl rfl rfl (by decide +kernel) rfl (by rw [hR]; exact ⟨Nat.le_of_ble_eq_true rfl, Nat.le_of_ble_eq_true rfl⟩) hM.1 (by rw [hR]; exact ⟨Nat.le_of_ble_eq_true rfl, Nat.le_of_ble_eq_true rfl⟩) (Nat.le_of_ble_eq_true rfl) dX5_setOrder_8 (fun v8 S8 h8 => ?_) (fun E8 S8 h8 => ?_)
  · obtain ⟨b8, rfl, hb8, q8⟩ := h8
    subst S8
    refine z_iconst 1 (by decide) C dX5_setOrder_11 ?_
    cases b8 with
    | false =>
      have y8 := hb8.mp rfl
      refine z_callM 2 [zi (bI false), zi 1] C rfl (M_fails0 hl0 hM h39 (bI false) 1 (by decide)) rfl (zgoodV LWm_good wm64 wm65 wm66 wm37 wm67) rfl rfl rfl (by decide +kernel) rfl (by rw [hR]; exact ⟨Nat.le_of_ble_eq_true rfl, Nat.le_of_ble_eq_true rfl⟩) hM.1 (by rw [hR]; exact ⟨Nat.le_of_ble_eq_true rfl, Nat.le_of_ble_eq_true rfl⟩) (Nat.le_of_ble_eq_true rfl) dX5_setOrder_12 (fun v12 S12 h12 => ?_) (fun E12 S12 h12 => ?_)
      · obtain ⟨rfl, q12⟩ := h12
        subst S12
        refine z_if_ne 38 C dX5_setOrder_15 (by decide) (fun c15 => absurd c15 (by decide)) (fun _ => ?_)
        refine z_aload_n C rfl dX5_setOrder_18 ?_
        refine z_iload_n C rfl dX5_setOrder_19 ?_
        refine z_callS 1 [zi y] C (M_isOrder hl0 y) rfl (zgoodS LWm_good wm115 wm116 wm37 wm117) rfl rfl rfl (by decide +kernel) rfl (by rw [hR]; exact ⟨Nat.le_of_ble_eq_true rfl, Nat.le_of_ble_eq_true rfl⟩) (by rw [hR]; exact ⟨Nat.le_of_ble_eq_true rfl, Nat.le_of_ble_eq_true rfl⟩) (Nat.le_of_ble_eq_true rfl) dX5_setOrder_20 (fun v20 S20 h20 => ?_) (fun E20 S20 h20 => ?_)
        · obtain ⟨b20, rfl, hb20, q20⟩ := h20
          subst S20
          cases b20 with
          | false =>
            have y20 := b_ft hb20
            refine z_if_ne 30 C dX5_setOrder_23 (by decide) (fun c23 => absurd c23 (by decide)) (fun _ => ?_)
            refine z_iconst 1 (by decide) C dX5_setOrder_26 ?_
            refine z_goto 31 C dX5_setOrder_27 (by decide) ?_
            refine z_iconst 2 (by decide) C dX5_setOrder_31 ?_
            refine z_callM 2 [zi (1), zi 2] C rfl (M_fails1 hl0 hM h39 1 2 (by decide)) rfl (zgoodV LWm_good wm64 wm65 wm66 wm37 wm67) rfl rfl rfl (by decide +kernel) rfl (by rw [hR]; exact ⟨Nat.le_of_ble_eq_true rfl, Nat.le_of_ble_eq_true rfl⟩) hM.1 (by rw [hR]; exact ⟨Nat.le_of_ble_eq_true rfl, Nat.le_of_ble_eq_true rfl⟩) (Nat.le_of_ble_eq_true rfl) dX5_setOrder_32 (fun v32 S32 h32 => ?_) (fun E32 S32 h32 => ?_)
            · obtain ⟨rfl, hM⟩ := h32
              refine z_if_eq 40 C dX5_setOrder_35 (by decide) (fun c35 => absurd c35 (by decide)) (fun _ => ?_)
              refine z_iconst 0 (by decide) C dX5_setOrder_38 ?_
              refine z_zreturn C F (Nat.le_of_ble_eq_true rfl) (Nat.le_of_ble_eq_true rfl) (by decide) dX5_setOrder_39 ?_
              exact Or.inr (Or.inr ⟨y8, y20, rfl, hM⟩)
            · exact h32.elim
          | true =>
            have y20 := hb20.mp rfl
            refine z_if_ne 30 C dX5_setOrder_23 (by decide) (fun _ => ?_) (fun c23 => absurd c23 (by decide))
            refine z_iconst 0 (by decide) C dX5_setOrder_30 ?_
            refine z_iconst 2 (by decide) C dX5_setOrder_31 ?_
            refine z_callM 2 [zi (0), zi 2] C rfl (M_fails0 hl0 hM h39 0 2 (by decide)) rfl (zgoodV LWm_good wm64 wm65 wm66 wm37 wm67) rfl rfl rfl (by decide +kernel) rfl (by rw [hR]; exact ⟨Nat.le_of_ble_eq_true rfl, Nat.le_of_ble_eq_true rfl⟩) hM.1 (by rw [hR]; exact ⟨Nat.le_of_ble_eq_true rfl, Nat.le_of_ble_eq_true rfl⟩) (Nat.le_of_ble_eq_true rfl) dX5_setOrder_32 (fun v32 S32 h32 => ?_) (fun E32 S32 h32 => ?_)
            · obtain ⟨rfl, q32⟩ := h32
              subst S32
              refine z_if_eq 40 C dX5_setOrder_35 (by decide) (fun _ => ?_) (fun c35 => absurd c35 (by decide))
              refine z_aload_n C rfl dX5_setOrder_40 ?_
              refine zg5_order C (fun w h => List.mem_cons_of_mem _ (um_wsX50 w h)) hM.1 (List.mem_cons_of_mem _ wm20) dX5_setOrder_41 ?_
              refine z_ref (hM.q 59 rfl) ?_
              refine z_iload_n C rfl dX5_setOrder_44 ?_
              refine z_caload C (hM.k 59 rfl) (hM.b' 59 rfl (y8.b) (by decide)) dX5_setOrder_45 ?_
              refine z_int (hM.t 59 rfl (by decide) _) ?_
              refine z_istore_n [_, _, _, _] C (by decide) rfl dX5_setOrder_46 ?_
              refine z_aload_n C rfl dX5_setOrder_47 ?_
              refine zg5_order C (fun w h => List.mem_cons_of_mem _ (um_wsX50 w h)) hM.1 (List.mem_cons_of_mem _ wm20) dX5_setOrder_48 ?_
              refine z_ref (hM.q 59 rfl) ?_
              refine z_iload_n C rfl dX5_setOrder_51 ?_
              refine z_iload_n C rfl dX5_setOrder_52 ?_
              refine z_castore C (hM.k 59 rfl) (hM.b' 59 rfl (y8.b) (by decide)) dX5_setOrder_53 ?_
              refine z_memM (hM.eI 59 rfl (by decide) _ _) (fun S53 hM => ?_)
              rw [nar_o y20] at hM
              refine z_aload_n C rfl dX5_setOrder_54 ?_
              refine z_callM 0 [] C rfl (M_changes hl0 hM (hC.row (fun k hk => by rw [dS_ne (by omega)]))) rfl (zgoodV LWm_good wm68 wm69 wm70 wm37 wm71) rfl rfl rfl (by decide +kernel) rfl (by rw [hR]; exact ⟨Nat.le_of_ble_eq_true rfl, Nat.le_of_ble_eq_true rfl⟩) hM.1 (by rw [hR]; exact ⟨Nat.le_of_ble_eq_true rfl, Nat.le_of_ble_eq_true rfl⟩) (Nat.le_of_ble_eq_true rfl) dX5_setOrder_55 (fun v55 S55 h55 => ?_) (fun E55 S55 h55 => ?_)
              · obtain ⟨rfl, D2, hM, e39, eJ, eM⟩ := h55
                refine z_iload_n C rfl dX5_setOrder_58 ?_
                refine z_zreturn C F (Nat.le_of_ble_eq_true rfl) (Nat.le_of_ble_eq_true rfl) (ord_narrow (hO9 _ y8.d.2.1)).1 dX5_setOrder_59 ?_
                exact Or.inl ⟨y8, y20, rfl, D2, hM, (congrFun e39 0).trans h39, eJ, eM⟩
              · exact h55.elim
            · exact h32.elim
        · exact h20.elim
      · exact h12.elim
    | true =>
      have y8 := b_tf hb8
      refine z_callM 2 [zi (bI true), zi 1] C rfl (M_fails1 hl0 hM h39 (bI true) 1 (by decide)) rfl (zgoodV LWm_good wm64 wm65 wm66 wm37 wm67) rfl rfl rfl (by decide +kernel) rfl (by rw [hR]; exact ⟨Nat.le_of_ble_eq_true rfl, Nat.le_of_ble_eq_true rfl⟩) hM.1 (by rw [hR]; exact ⟨Nat.le_of_ble_eq_true rfl, Nat.le_of_ble_eq_true rfl⟩) (Nat.le_of_ble_eq_true rfl) dX5_setOrder_12 (fun v12 S12 h12 => ?_) (fun E12 S12 h12 => ?_)
      · obtain ⟨rfl, hM⟩ := h12
        refine z_if_ne 38 C dX5_setOrder_15 (by decide) (fun _ => ?_) (fun c15 => absurd c15 (by decide))
        refine z_iconst 0 (by decide) C dX5_setOrder_38 ?_
        refine z_zreturn C F (Nat.le_of_ble_eq_true rfl) (Nat.le_of_ble_eq_true rfl) (by decide) dX5_setOrder_39 ?_
        exact Or.inr (Or.inl ⟨y8, rfl, hM⟩)
      · exact h12.elim
  · exact h8.elim
theorem shr_01 {s : Int32} {i : Nat} (_ : i < 32) : s >>> (nI i &&& 31) &&& 1 = 0 ∨ s >>> (nI i &&& 31) &&& 1 = 1 := by
  obtain ⟨j, hj, e⟩ := pk_andE (s >>> (nI i &&& 31)) (m := 1) 1 (by decide)
  rcases (show j = 0 ∨ j = 1 by omega) with rfl | rfl
  · exact Or.inl e
  · exact Or.inr e
theorem shr_ne {s : Int32} {i : Nat} (h : i < 32) (c : ¬ s >>> (nI i &&& 31) &&& 1 = 0) : hasB s (nI i) = true := by
  rcases shr_01 (s := s) h with q | q
  · exact absurd q c
  · exact (shr_bit h).mp q
theorem shr_eq {s : Int32} {i : Nat} (h : i < 32) (c : s >>> (nI i &&& 31) &&& 1 = 0) : hasB s (nI i) = false := Bool.eq_false_iff.mpr fun z => by
  rw [(shr_bit h).mpr z] at c; cases c
set_option maxRecDepth 100000 in
set_option maxHeartbeats 800000 in
theorem M_tag {l : Launch} (hl0 : l.stackTraces = false) {D : ZD} {J : Nat → Int64} {S : ZM} {M : Nat} {r : Nat → Nat} (hM0 : iM D J S M r) (h39 : D 39 0 = 0) (hC : wC D) (x y : Int32) : zMet l yX5_tag (Cond.code yX5_tag cX5_tag 3 (some .int) :: LWm) ({ frames := 347, cells := 0, slots := 0, locals := 8868 } : Room) 0 0 [zr (some M), zi x, zi y] S (zPo (fun v S' => (hasTr D x ∧ hasTg D y ∧ hasB (D 46 (ix x)) (nI (ix y)) = false ∧ v = some (zi (ctF (D 46 (ix x) ||| bitI (ix y)) 32)) ∧ okM J S' M r (chgD (opTags D (ix x) (D 46 (ix x) ||| bitI (ix y))))) ∨ (¬ (hasTr D x ∧ hasTg D y) ∧ v = some (zi 0) ∧ mR (s39 D 1) J S' M r) ∨ (hasTr D x ∧ hasTg D y ∧ hasB (D 46 (ix x)) (nI (ix y)) = true ∧ v = some (zi 0) ∧ mR (s39 D 2) J S' M r)) (fun _ _ => False)) := by
  refine zMet.of' [some (zr (some M)), some (zi x), some (zi y)] hl0 (by decide) rfl (Nat.le_of_ble_eq_true rfl) rfl ?_
  intro X C N hR hN0 hX F
  subst hX
  have hN := hC.1
  obtain ⟨w0, hM⟩ := id hM0
  refine z_aload_n C rfl dX5_tag_0 ?_
  refine z_iconst 0 (by decide) C dX5_tag_1 ?_
  refine zp5_thrown C (fun w h => List.mem_cons_of_mem _ (um_wsX50 w h)) hM.1 (List.mem_cons_of_mem _ wm33) dX5_tag_2 ?_
  have hM := hM0.th h39
  refine z_aload_n C rfl dX5_tag_5 ?_
  refine z_aload_n C rfl dX5_tag_6 ?_
  refine z_iload_n C rfl dX5_tag_7 ?_
  refine z_callM 1 [zi x] C rfl (M_noTrack hl0 hM hN x) rfl (zgoodV LWm_good wm72 wm73 wm74 wm37 wm75) rfl rfl rfl (by decide +kernel) rfl (by rw [hR]; exact ⟨Nat.le_of_ble_eq_true rfl, Nat.le_of_ble_eq_true rfl⟩) hM.1 (by rw [hR]; exact ⟨Nat.le_of_ble_eq_true rfl, Nat.le_of_ble_eq_true rfl⟩) (Nat.le_of_ble_eq_true rfl) dX5_tag_8 (fun v8 S8 h8 => ?_) (fun E8 S8 h8 => ?_)
  · obtain ⟨b8, rfl, hb8, q8⟩ := h8
    subst S8
    cases b8 with
    | false =>
      have y8 := hb8.mp rfl
      refine z_if_ne 22 C dX5_tag_11 (by decide) (fun c11 => absurd c11 (by decide)) (fun _ => ?_)
      refine z_aload_n C rfl dX5_tag_14 ?_
      refine z_iload_n C rfl dX5_tag_15 ?_
      refine z_callM 1 [zi y] C rfl (M_noTag hl0 hM hN y) rfl (zgoodV LWm_good wm80 wm81 wm82 wm37 wm83) rfl rfl rfl (by decide +kernel) rfl (by rw [hR]; exact ⟨Nat.le_of_ble_eq_true rfl, Nat.le_of_ble_eq_true rfl⟩) hM.1 (by rw [hR]; exact ⟨Nat.le_of_ble_eq_true rfl, Nat.le_of_ble_eq_true rfl⟩) (Nat.le_of_ble_eq_true rfl) dX5_tag_16 (fun v16 S16 h16 => ?_) (fun E16 S16 h16 => ?_)
      · obtain ⟨b16, rfl, hb16, q16⟩ := h16
        subst S16
        cases b16 with
        | false =>
          have y16 := hb16.mp rfl
          refine z_if_eq 26 C dX5_tag_19 (by decide) (fun _ => ?_) (fun c19 => absurd c19 (by decide))
          refine z_iconst 0 (by decide) C dX5_tag_26 ?_
          refine z_iconst 1 (by decide) C dX5_tag_27 ?_
          refine z_callM 2 [zi (0), zi 1] C rfl (M_fails0 hl0 hM h39 0 1 (by decide)) rfl (zgoodV LWm_good wm64 wm65 wm66 wm37 wm67) rfl rfl rfl (by decide +kernel) rfl (by rw [hR]; exact ⟨Nat.le_of_ble_eq_true rfl, Nat.le_of_ble_eq_true rfl⟩) hM.1 (by rw [hR]; exact ⟨Nat.le_of_ble_eq_true rfl, Nat.le_of_ble_eq_true rfl⟩) (Nat.le_of_ble_eq_true rfl) dX5_tag_28 (fun v28 S28 h28 => ?_) (fun E28 S28 h28 => ?_)
          · obtain ⟨rfl, q28⟩ := h28
            subst S28
            refine z_if_ne 61 C dX5_tag_31 (by decide) (fun c31 => absurd c31 (by decide)) (fun _ => ?_)
            refine z_aload_n C rfl dX5_tag_34 ?_
            refine z_aload_n C rfl dX5_tag_35 ?_
            refine zg5_bits C (fun w h => List.mem_cons_of_mem _ (um_wsX50 w h)) hM.1 (List.mem_cons_of_mem _ wm8) dX5_tag_36 ?_
            refine z_ref (hM.q 46 rfl) ?_
            refine z_iload_n C rfl dX5_tag_39 ?_
            refine z_iaload C (hM.k 46 rfl) (hM.b' 46 rfl (y8.b) (by decide)) dX5_tag_40 ?_
            refine z_int (hM.t 46 rfl (by decide) _) ?_
            refine z_iload_n C rfl dX5_tag_41 ?_
            refine z_ishr C dX5_tag_42 ?_
            refine z_iconst 1 (by decide) C dX5_tag_43 ?_
            refine z_iand C dX5_tag_44 ?_
            refine z_iconst 1 (by decide) C dX5_tag_45 ?_
            refine z_icmp_ne 53 C dX5_tag_46 (by decide) (fun c46 => ?_) (fun c46 => ?_)
            · refine z_iconst 0 (by decide) C dX5_tag_53 ?_
              refine z_iconst 2 (by decide) C dX5_tag_54 ?_
              refine z_callM 2 [zi (0), zi 2] C rfl (M_fails0 hl0 hM h39 0 2 (by decide)) rfl (zgoodV LWm_good wm64 wm65 wm66 wm37 wm67) rfl rfl rfl (by decide +kernel) rfl (by rw [hR]; exact ⟨Nat.le_of_ble_eq_true rfl, Nat.le_of_ble_eq_true rfl⟩) hM.1 (by rw [hR]; exact ⟨Nat.le_of_ble_eq_true rfl, Nat.le_of_ble_eq_true rfl⟩) (Nat.le_of_ble_eq_true rfl) dX5_tag_55 (fun v55 S55 h55 => ?_) (fun E55 S55 h55 => ?_)
              · obtain ⟨rfl, q55⟩ := h55
                subst S55
                refine z_if_eq 63 C dX5_tag_58 (by decide) (fun _ => ?_) (fun c58 => absurd c58 (by decide))
                refine z_aload_n C rfl dX5_tag_63 ?_
                refine zg5_bits C (fun w h => List.mem_cons_of_mem _ (um_wsX50 w h)) hM.1 (List.mem_cons_of_mem _ wm8) dX5_tag_64 ?_
                refine z_ref (hM.q 46 rfl) ?_
                refine z_iload_n C rfl dX5_tag_67 ?_
                refine z_dup2 rfl rfl C dX5_tag_68 ?_
                refine z_iaload C (hM.k 46 rfl) (hM.b' 46 rfl (y8.b) (by decide)) dX5_tag_69 ?_
                refine z_int (hM.t 46 rfl (by decide) _) ?_
                refine z_iconst 1 (by decide) C dX5_tag_70 ?_
                refine z_iload_n C rfl dX5_tag_71 ?_
                refine z_ishl C dX5_tag_72 ?_
                refine z_ior C dX5_tag_73 ?_
                refine z_iastore C (hM.k 46 rfl) (hM.b' 46 rfl (y8.b) (by decide)) dX5_tag_74 ?_
                refine z_memM (hM.eI 46 rfl (by decide) _ _) (fun S74 hM => ?_)
                rw [show (1 : Int32) <<< (y &&& 31) = bitI (ix y) from by unfold bitI; rw [← y16.d.2.2.1]] at hM
                refine z_aload_n C rfl dX5_tag_75 ?_
                refine z_iconst 0 (by decide) C dX5_tag_76 ?_
                refine zp5_tidied C (fun w h => List.mem_cons_of_mem _ (um_wsX50 w h)) hM.1 (List.mem_cons_of_mem _ wm84) dX5_tag_77 ?_
                refine z_memM (hM.sI 67 rfl _) (fun S77 hM => ?_)
                rw [show dS D 46 _ 67 = D 67 from dS_ne (by decide)] at hM
                refine z_aload_n C rfl dX5_tag_80 ?_
                refine z_callM 0 [] C rfl (M_changes hl0 hM (hC.row (fun k hk => by rw [dS_ne (by omega), dS_ne (by omega)]))) rfl (zgoodV LWm_good wm68 wm69 wm70 wm37 wm71) rfl rfl rfl (by decide +kernel) rfl (by rw [hR]; exact ⟨Nat.le_of_ble_eq_true rfl, Nat.le_of_ble_eq_true rfl⟩) hM.1 (by rw [hR]; exact ⟨Nat.le_of_ble_eq_true rfl, Nat.le_of_ble_eq_true rfl⟩) (Nat.le_of_ble_eq_true rfl) dX5_tag_81 (fun v81 S81 h81 => ?_) (fun E81 S81 h81 => ?_)
                · obtain ⟨rfl, D2, hM, e39, eJ, eM⟩ := h81
                  refine z_aload_n C rfl dX5_tag_84 ?_
                  refine zg5_bits C (fun w h => List.mem_cons_of_mem _ (um_wsX50 w h)) hM.1 (List.mem_cons_of_mem _ wm8) dX5_tag_85 ?_
                  refine z_ref (hM.q 46 rfl) ?_
                  refine z_iload_n C rfl dX5_tag_88 ?_
                  refine z_iaload C (hM.k 46 rfl) (hM.b' 46 rfl (y8.b) (by decide)) dX5_tag_89 ?_
                  refine z_int (hM.t 46 rfl (by decide) _) ?_
                  refine z_int (x' := D 46 (ix x) ||| bitI (ix y)) ((congrFun (eJ 46 rfl) _).trans ((congrFun (coreE (core_chg _) 46 rfl) _).trans ((congrFun (opTags_46 D (ix x) _) _).trans (up1_self)))) ?_
                  refine z_callS 1 [zi (D 46 (ix x) ||| bitI (ix y))] C (M_count hl0 (D 46 (ix x) ||| bitI (ix y))) rfl (zgoodS LWm_good wm85 wm86 wm37 wm87) rfl rfl rfl (by decide +kernel) rfl (by rw [hR]; exact ⟨Nat.le_of_ble_eq_true rfl, Nat.le_of_ble_eq_true rfl⟩) (by rw [hR]; exact ⟨Nat.le_of_ble_eq_true rfl, Nat.le_of_ble_eq_true rfl⟩) (Nat.le_of_ble_eq_true rfl) dX5_tag_90 (fun v90 S90 h90 => ?_) (fun E90 S90 h90 => ?_)
                  · obtain ⟨rfl, q90⟩ := h90
                    subst S90
                    refine z_ireturn C F (Nat.le_of_ble_eq_true rfl) (Nat.le_of_ble_eq_true rfl) dX5_tag_93 ?_
                    exact Or.inl ⟨y8, y16, Bool.eq_false_iff.mpr (fun z => c46 (by have w := y16.d; rw [w.2.2.1]; exact (shr_bit (by omega)).mpr z)), rfl, D2, hM, (congrFun e39 0).trans h39, eJ, eM⟩
                  · exact h90.elim
                · exact h81.elim
              · exact h55.elim
            · refine z_iconst 1 (by decide) C dX5_tag_49 ?_
              refine z_goto 54 C dX5_tag_50 (by decide) ?_
              refine z_iconst 2 (by decide) C dX5_tag_54 ?_
              refine z_callM 2 [zi (1), zi 2] C rfl (M_fails1 hl0 hM h39 1 2 (by decide)) rfl (zgoodV LWm_good wm64 wm65 wm66 wm37 wm67) rfl rfl rfl (by decide +kernel) rfl (by rw [hR]; exact ⟨Nat.le_of_ble_eq_true rfl, Nat.le_of_ble_eq_true rfl⟩) hM.1 (by rw [hR]; exact ⟨Nat.le_of_ble_eq_true rfl, Nat.le_of_ble_eq_true rfl⟩) (Nat.le_of_ble_eq_true rfl) dX5_tag_55 (fun v55 S55 h55 => ?_) (fun E55 S55 h55 => ?_)
              · obtain ⟨rfl, hM⟩ := h55
                refine z_if_eq 63 C dX5_tag_58 (by decide) (fun c58 => absurd c58 (by decide)) (fun _ => ?_)
                refine z_iconst 0 (by decide) C dX5_tag_61 ?_
                refine z_ireturn C F (Nat.le_of_ble_eq_true rfl) (Nat.le_of_ble_eq_true rfl) dX5_tag_62 ?_
                exact Or.inr (Or.inr ⟨y8, y16, (by have w := y16.d; rw [w.2.2.1] at c46; exact (shr_bit (by omega)).mp c46), rfl, hM⟩)
              · exact h55.elim
          · exact h28.elim
        | true =>
          have y16 := b_tf hb16
          refine z_if_eq 26 C dX5_tag_19 (by decide) (fun c19 => absurd c19 (by decide)) (fun _ => ?_)
          refine z_iconst 1 (by decide) C dX5_tag_22 ?_
          refine z_goto 27 C dX5_tag_23 (by decide) ?_
          refine z_iconst 1 (by decide) C dX5_tag_27 ?_
          refine z_callM 2 [zi (1), zi 1] C rfl (M_fails1 hl0 hM h39 1 1 (by decide)) rfl (zgoodV LWm_good wm64 wm65 wm66 wm37 wm67) rfl rfl rfl (by decide +kernel) rfl (by rw [hR]; exact ⟨Nat.le_of_ble_eq_true rfl, Nat.le_of_ble_eq_true rfl⟩) hM.1 (by rw [hR]; exact ⟨Nat.le_of_ble_eq_true rfl, Nat.le_of_ble_eq_true rfl⟩) (Nat.le_of_ble_eq_true rfl) dX5_tag_28 (fun v28 S28 h28 => ?_) (fun E28 S28 h28 => ?_)
          · obtain ⟨rfl, hM⟩ := h28
            refine z_if_ne 61 C dX5_tag_31 (by decide) (fun _ => ?_) (fun c31 => absurd c31 (by decide))
            refine z_iconst 0 (by decide) C dX5_tag_61 ?_
            refine z_ireturn C F (Nat.le_of_ble_eq_true rfl) (Nat.le_of_ble_eq_true rfl) dX5_tag_62 ?_
            first | exact Or.inr (Or.inl ⟨fun z => y8 z.1, rfl, hM⟩) | exact Or.inr (Or.inl ⟨fun z => y16 z.2, rfl, hM⟩)
          · exact h28.elim
      · exact h16.elim
    | true =>
      have y8 := b_tf hb8
      refine z_if_ne 22 C dX5_tag_11 (by decide) (fun _ => ?_) (fun c11 => absurd c11 (by decide))
      refine z_iconst 1 (by decide) C dX5_tag_22 ?_
      refine z_goto 27 C dX5_tag_23 (by decide) ?_
      refine z_iconst 1 (by decide) C dX5_tag_27 ?_
      refine z_callM 2 [zi (1), zi 1] C rfl (M_fails1 hl0 hM h39 1 1 (by decide)) rfl (zgoodV LWm_good wm64 wm65 wm66 wm37 wm67) rfl rfl rfl (by decide +kernel) rfl (by rw [hR]; exact ⟨Nat.le_of_ble_eq_true rfl, Nat.le_of_ble_eq_true rfl⟩) hM.1 (by rw [hR]; exact ⟨Nat.le_of_ble_eq_true rfl, Nat.le_of_ble_eq_true rfl⟩) (Nat.le_of_ble_eq_true rfl) dX5_tag_28 (fun v28 S28 h28 => ?_) (fun E28 S28 h28 => ?_)
      · obtain ⟨rfl, hM⟩ := h28
        refine z_if_ne 61 C dX5_tag_31 (by decide) (fun _ => ?_) (fun c31 => absurd c31 (by decide))
        refine z_iconst 0 (by decide) C dX5_tag_61 ?_
        refine z_ireturn C F (Nat.le_of_ble_eq_true rfl) (Nat.le_of_ble_eq_true rfl) dX5_tag_62 ?_
        first | exact Or.inr (Or.inl ⟨fun z => y8 z.1, rfl, hM⟩) | exact Or.inr (Or.inl ⟨fun z => y16 z.2, rfl, hM⟩)
      · exact h28.elim
  · exact h8.elim
set_option maxRecDepth 100000 in
set_option maxHeartbeats 800000 in
theorem M_untag {l : Launch} (hl0 : l.stackTraces = false) {D : ZD} {J : Nat → Int64} {S : ZM} {M : Nat} {r : Nat → Nat} (hM0 : iM D J S M r) (h39 : D 39 0 = 0) (hC : wC D) (x y : Int32) : zMet l yX5_untag (Cond.code yX5_untag cX5_untag 3 (some .int) :: LWm) ({ frames := 347, cells := 0, slots := 0, locals := 8868 } : Room) 0 0 [zr (some M), zi x, zi y] S (zPo (fun v S' => (hasTr D x ∧ hasTg D y ∧ hasB (D 46 (ix x)) (nI (ix y)) = true ∧ v = some (zi (ctF (D 46 (ix x) &&& (bitI (ix y) ^^^ (-1))) 32)) ∧ okM J S' M r (chgD (opTags D (ix x) (D 46 (ix x) &&& (bitI (ix y) ^^^ (-1)))))) ∨ (¬ (hasTr D x ∧ hasTg D y) ∧ v = some (zi 0) ∧ mR (s39 D 1) J S' M r) ∨ (hasTr D x ∧ hasTg D y ∧ hasB (D 46 (ix x)) (nI (ix y)) = false ∧ v = some (zi 0) ∧ mR (s39 D 2) J S' M r)) (fun _ _ => False)) := by
  refine zMet.of' [some (zr (some M)), some (zi x), some (zi y)] hl0 (by decide) rfl (Nat.le_of_ble_eq_true rfl) rfl ?_
  intro X C N hR hN0 hX F
  subst hX
  have hN := hC.1
  obtain ⟨w0, hM⟩ := id hM0
  refine z_aload_n C rfl dX5_untag_0 ?_
  refine z_iconst 0 (by decide) C dX5_untag_1 ?_
  refine zp5_thrown C (fun w h => List.mem_cons_of_mem _ (um_wsX50 w h)) hM.1 (List.mem_cons_of_mem _ wm33) dX5_untag_2 ?_
  have hM := hM0.th h39
  refine z_aload_n C rfl dX5_untag_5 ?_
  refine z_aload_n C rfl dX5_untag_6 ?_
  refine z_iload_n C rfl dX5_untag_7 ?_
  refine z_callM 1 [zi x] C rfl (M_noTrack hl0 hM hN x) rfl (zgoodV LWm_good wm72 wm73 wm74 wm37 wm75) rfl rfl rfl (by decide +kernel) rfl (by rw [hR]; exact ⟨Nat.le_of_ble_eq_true rfl, Nat.le_of_ble_eq_true rfl⟩) hM.1 (by rw [hR]; exact ⟨Nat.le_of_ble_eq_true rfl, Nat.le_of_ble_eq_true rfl⟩) (Nat.le_of_ble_eq_true rfl) dX5_untag_8 (fun v8 S8 h8 => ?_) (fun E8 S8 h8 => ?_)
  · obtain ⟨b8, rfl, hb8, q8⟩ := h8
    subst S8
    cases b8 with
    | false =>
      have y8 := hb8.mp rfl
      refine z_if_ne 22 C dX5_untag_11 (by decide) (fun c11 => absurd c11 (by decide)) (fun _ => ?_)
      refine z_aload_n C rfl dX5_untag_14 ?_
      refine z_iload_n C rfl dX5_untag_15 ?_
      refine z_callM 1 [zi y] C rfl (M_noTag hl0 hM hN y) rfl (zgoodV LWm_good wm80 wm81 wm82 wm37 wm83) rfl rfl rfl (by decide +kernel) rfl (by rw [hR]; exact ⟨Nat.le_of_ble_eq_true rfl, Nat.le_of_ble_eq_true rfl⟩) hM.1 (by rw [hR]; exact ⟨Nat.le_of_ble_eq_true rfl, Nat.le_of_ble_eq_true rfl⟩) (Nat.le_of_ble_eq_true rfl) dX5_untag_16 (fun v16 S16 h16 => ?_) (fun E16 S16 h16 => ?_)
      · obtain ⟨b16, rfl, hb16, q16⟩ := h16
        subst S16
        cases b16 with
        | false =>
          have y16 := hb16.mp rfl
          refine z_if_eq 26 C dX5_untag_19 (by decide) (fun _ => ?_) (fun c19 => absurd c19 (by decide))
          refine z_iconst 0 (by decide) C dX5_untag_26 ?_
          refine z_iconst 1 (by decide) C dX5_untag_27 ?_
          refine z_callM 2 [zi (0), zi 1] C rfl (M_fails0 hl0 hM h39 0 1 (by decide)) rfl (zgoodV LWm_good wm64 wm65 wm66 wm37 wm67) rfl rfl rfl (by decide +kernel) rfl (by rw [hR]; exact ⟨Nat.le_of_ble_eq_true rfl, Nat.le_of_ble_eq_true rfl⟩) hM.1 (by rw [hR]; exact ⟨Nat.le_of_ble_eq_true rfl, Nat.le_of_ble_eq_true rfl⟩) (Nat.le_of_ble_eq_true rfl) dX5_untag_28 (fun v28 S28 h28 => ?_) (fun E28 S28 h28 => ?_)
          · obtain ⟨rfl, q28⟩ := h28
            subst S28
            refine z_if_ne 60 C dX5_untag_31 (by decide) (fun c31 => absurd c31 (by decide)) (fun _ => ?_)
            refine z_aload_n C rfl dX5_untag_34 ?_
            refine z_aload_n C rfl dX5_untag_35 ?_
            refine zg5_bits C (fun w h => List.mem_cons_of_mem _ (um_wsX50 w h)) hM.1 (List.mem_cons_of_mem _ wm8) dX5_untag_36 ?_
            refine z_ref (hM.q 46 rfl) ?_
            refine z_iload_n C rfl dX5_untag_39 ?_
            refine z_iaload C (hM.k 46 rfl) (hM.b' 46 rfl (y8.b) (by decide)) dX5_untag_40 ?_
            refine z_int (hM.t 46 rfl (by decide) _) ?_
            refine z_iload_n C rfl dX5_untag_41 ?_
            refine z_ishr C dX5_untag_42 ?_
            refine z_iconst 1 (by decide) C dX5_untag_43 ?_
            refine z_iand C dX5_untag_44 ?_
            refine z_if_ne 52 C dX5_untag_45 (by decide) (fun c45 => ?_) (fun c45 => ?_)
            · refine z_iconst 0 (by decide) C dX5_untag_52 ?_
              refine z_iconst 2 (by decide) C dX5_untag_53 ?_
              refine z_callM 2 [zi (0), zi 2] C rfl (M_fails0 hl0 hM h39 0 2 (by decide)) rfl (zgoodV LWm_good wm64 wm65 wm66 wm37 wm67) rfl rfl rfl (by decide +kernel) rfl (by rw [hR]; exact ⟨Nat.le_of_ble_eq_true rfl, Nat.le_of_ble_eq_true rfl⟩) hM.1 (by rw [hR]; exact ⟨Nat.le_of_ble_eq_true rfl, Nat.le_of_ble_eq_true rfl⟩) (Nat.le_of_ble_eq_true rfl) dX5_untag_54 (fun v54 S54 h54 => ?_) (fun E54 S54 h54 => ?_)
              · obtain ⟨rfl, q54⟩ := h54
                subst S54
                refine z_if_eq 62 C dX5_untag_57 (by decide) (fun _ => ?_) (fun c57 => absurd c57 (by decide))
                refine z_aload_n C rfl dX5_untag_62 ?_
                refine zg5_bits C (fun w h => List.mem_cons_of_mem _ (um_wsX50 w h)) hM.1 (List.mem_cons_of_mem _ wm8) dX5_untag_63 ?_
                refine z_ref (hM.q 46 rfl) ?_
                refine z_iload_n C rfl dX5_untag_66 ?_
                refine z_dup2 rfl rfl C dX5_untag_67 ?_
                refine z_iaload C (hM.k 46 rfl) (hM.b' 46 rfl (y8.b) (by decide)) dX5_untag_68 ?_
                refine z_int (hM.t 46 rfl (by decide) _) ?_
                refine z_iconst 1 (by decide) C dX5_untag_69 ?_
                refine z_iload_n C rfl dX5_untag_70 ?_
                refine z_ishl C dX5_untag_71 ?_
                refine z_iconst (-1) (by decide) C dX5_untag_72 ?_
                refine z_ixor C dX5_untag_73 ?_
                refine z_iand C dX5_untag_74 ?_
                refine z_iastore C (hM.k 46 rfl) (hM.b' 46 rfl (y8.b) (by decide)) dX5_untag_75 ?_
                refine z_memM (hM.eI 46 rfl (by decide) _ _) (fun S75 hM => ?_)
                rw [show (1 : Int32) <<< (y &&& 31) = bitI (ix y) from by unfold bitI; rw [← y16.d.2.2.1]] at hM
                refine z_aload_n C rfl dX5_untag_76 ?_
                refine z_iconst 0 (by decide) C dX5_untag_77 ?_
                refine zp5_tidied C (fun w h => List.mem_cons_of_mem _ (um_wsX50 w h)) hM.1 (List.mem_cons_of_mem _ wm84) dX5_untag_78 ?_
                refine z_memM (hM.sI 67 rfl _) (fun S78 hM => ?_)
                rw [show dS D 46 _ 67 = D 67 from dS_ne (by decide)] at hM
                refine z_aload_n C rfl dX5_untag_81 ?_
                refine z_callM 0 [] C rfl (M_changes hl0 hM (hC.row (fun k hk => by rw [dS_ne (by omega), dS_ne (by omega)]))) rfl (zgoodV LWm_good wm68 wm69 wm70 wm37 wm71) rfl rfl rfl (by decide +kernel) rfl (by rw [hR]; exact ⟨Nat.le_of_ble_eq_true rfl, Nat.le_of_ble_eq_true rfl⟩) hM.1 (by rw [hR]; exact ⟨Nat.le_of_ble_eq_true rfl, Nat.le_of_ble_eq_true rfl⟩) (Nat.le_of_ble_eq_true rfl) dX5_untag_82 (fun v82 S82 h82 => ?_) (fun E82 S82 h82 => ?_)
                · obtain ⟨rfl, D2, hM, e39, eJ, eM⟩ := h82
                  refine z_aload_n C rfl dX5_untag_85 ?_
                  refine zg5_bits C (fun w h => List.mem_cons_of_mem _ (um_wsX50 w h)) hM.1 (List.mem_cons_of_mem _ wm8) dX5_untag_86 ?_
                  refine z_ref (hM.q 46 rfl) ?_
                  refine z_iload_n C rfl dX5_untag_89 ?_
                  refine z_iaload C (hM.k 46 rfl) (hM.b' 46 rfl (y8.b) (by decide)) dX5_untag_90 ?_
                  refine z_int (hM.t 46 rfl (by decide) _) ?_
                  refine z_int (x' := D 46 (ix x) &&& (bitI (ix y) ^^^ (-1))) ((congrFun (eJ 46 rfl) _).trans ((congrFun (coreE (core_chg _) 46 rfl) _).trans ((congrFun (opTags_46 D (ix x) _) _).trans (up1_self)))) ?_
                  refine z_callS 1 [zi (D 46 (ix x) &&& (bitI (ix y) ^^^ (-1)))] C (M_count hl0 (D 46 (ix x) &&& (bitI (ix y) ^^^ (-1)))) rfl (zgoodS LWm_good wm85 wm86 wm37 wm87) rfl rfl rfl (by decide +kernel) rfl (by rw [hR]; exact ⟨Nat.le_of_ble_eq_true rfl, Nat.le_of_ble_eq_true rfl⟩) (by rw [hR]; exact ⟨Nat.le_of_ble_eq_true rfl, Nat.le_of_ble_eq_true rfl⟩) (Nat.le_of_ble_eq_true rfl) dX5_untag_91 (fun v91 S91 h91 => ?_) (fun E91 S91 h91 => ?_)
                  · obtain ⟨rfl, q91⟩ := h91
                    subst S91
                    refine z_ireturn C F (Nat.le_of_ble_eq_true rfl) (Nat.le_of_ble_eq_true rfl) dX5_untag_94 ?_
                    exact Or.inl ⟨y8, y16, (by have w := y16.d; rw [w.2.2.1] at c45; exact shr_ne (by omega) c45), rfl, D2, hM, (congrFun e39 0).trans h39, eJ, eM⟩
                  · exact h91.elim
                · exact h82.elim
              · exact h54.elim
            · refine z_iconst 1 (by decide) C dX5_untag_48 ?_
              refine z_goto 53 C dX5_untag_49 (by decide) ?_
              refine z_iconst 2 (by decide) C dX5_untag_53 ?_
              refine z_callM 2 [zi (1), zi 2] C rfl (M_fails1 hl0 hM h39 1 2 (by decide)) rfl (zgoodV LWm_good wm64 wm65 wm66 wm37 wm67) rfl rfl rfl (by decide +kernel) rfl (by rw [hR]; exact ⟨Nat.le_of_ble_eq_true rfl, Nat.le_of_ble_eq_true rfl⟩) hM.1 (by rw [hR]; exact ⟨Nat.le_of_ble_eq_true rfl, Nat.le_of_ble_eq_true rfl⟩) (Nat.le_of_ble_eq_true rfl) dX5_untag_54 (fun v54 S54 h54 => ?_) (fun E54 S54 h54 => ?_)
              · obtain ⟨rfl, hM⟩ := h54
                refine z_if_eq 62 C dX5_untag_57 (by decide) (fun c57 => absurd c57 (by decide)) (fun _ => ?_)
                refine z_iconst 0 (by decide) C dX5_untag_60 ?_
                refine z_ireturn C F (Nat.le_of_ble_eq_true rfl) (Nat.le_of_ble_eq_true rfl) dX5_untag_61 ?_
                exact Or.inr (Or.inr ⟨y8, y16, (by have w := y16.d; rw [w.2.2.1] at c45; exact shr_eq (by omega) c45), rfl, hM⟩)
              · exact h54.elim
          · exact h28.elim
        | true =>
          have y16 := b_tf hb16
          refine z_if_eq 26 C dX5_untag_19 (by decide) (fun c19 => absurd c19 (by decide)) (fun _ => ?_)
          refine z_iconst 1 (by decide) C dX5_untag_22 ?_
          refine z_goto 27 C dX5_untag_23 (by decide) ?_
          refine z_iconst 1 (by decide) C dX5_untag_27 ?_
          refine z_callM 2 [zi (1), zi 1] C rfl (M_fails1 hl0 hM h39 1 1 (by decide)) rfl (zgoodV LWm_good wm64 wm65 wm66 wm37 wm67) rfl rfl rfl (by decide +kernel) rfl (by rw [hR]; exact ⟨Nat.le_of_ble_eq_true rfl, Nat.le_of_ble_eq_true rfl⟩) hM.1 (by rw [hR]; exact ⟨Nat.le_of_ble_eq_true rfl, Nat.le_of_ble_eq_true rfl⟩) (Nat.le_of_ble_eq_true rfl) dX5_untag_28 (fun v28 S28 h28 => ?_) (fun E28 S28 h28 => ?_)
          · obtain ⟨rfl, hM⟩ := h28
            refine z_if_ne 60 C dX5_untag_31 (by decide) (fun _ => ?_) (fun c31 => absurd c31 (by decide))
            refine z_iconst 0 (by decide) C dX5_untag_60 ?_
            refine z_ireturn C F (Nat.le_of_ble_eq_true rfl) (Nat.le_of_ble_eq_true rfl) dX5_untag_61 ?_
            first | exact Or.inr (Or.inl ⟨fun z => y8 z.1, rfl, hM⟩) | exact Or.inr (Or.inl ⟨fun z => y16 z.2, rfl, hM⟩)
          · exact h28.elim
      · exact h16.elim
    | true =>
      have y8 := b_tf hb8
      refine z_if_ne 22 C dX5_untag_11 (by decide) (fun _ => ?_) (fun c11 => absurd c11 (by decide))
      refine z_iconst 1 (by decide) C dX5_untag_22 ?_
      refine z_goto 27 C dX5_untag_23 (by decide) ?_
      refine z_iconst 1 (by decide) C dX5_untag_27 ?_
      refine z_callM 2 [zi (1), zi 1] C rfl (M_fails1 hl0 hM h39 1 1 (by decide)) rfl (zgoodV LWm_good wm64 wm65 wm66 wm37 wm67) rfl rfl rfl (by decide +kernel) rfl (by rw [hR]; exact ⟨Nat.le_of_ble_eq_true rfl, Nat.le_of_ble_eq_true rfl⟩) hM.1 (by rw [hR]; exact ⟨Nat.le_of_ble_eq_true rfl, Nat.le_of_ble_eq_true rfl⟩) (Nat.le_of_ble_eq_true rfl) dX5_untag_28 (fun v28 S28 h28 => ?_) (fun E28 S28 h28 => ?_)
      · obtain ⟨rfl, hM⟩ := h28
        refine z_if_ne 60 C dX5_untag_31 (by decide) (fun _ => ?_) (fun c31 => absurd c31 (by decide))
        refine z_iconst 0 (by decide) C dX5_untag_60 ?_
        refine z_ireturn C F (Nat.le_of_ble_eq_true rfl) (Nat.le_of_ble_eq_true rfl) dX5_untag_61 ?_
        first | exact Or.inr (Or.inl ⟨fun z => y8 z.1, rfl, hM⟩) | exact Or.inr (Or.inl ⟨fun z => y16 z.2, rfl, hM⟩)
      · exact h28.elim
  · exact h8.elim
set_option maxRecDepth 100000 in
set_option maxHeartbeats 800000 in
theorem M_addTag {l : Launch} (hl0 : l.stackTraces = false) {D : ZD} {J : Nat → Int64} {S : ZM} {M : Nat} {r : Nat → Nat} (hM0 : iM D J S M r) (h39 : D 39 0 = 0) (hC : wC D) : zMet l yX5_addTag (Cond.code yX5_addTag cX5_addTag 1 (some .int) :: LWm) ({ frames := 1, cells := 0, slots := 0, locals := 22 } : Room) 0 0 [zr (some M)] S (zPo (fun v S' => (¬ D 48 0 = 16 ∧ v = some (zi (D 48 0)) ∧ mR (opTag D) J S' M r) ∨ (D 48 0 = 16 ∧ v = some (zi 0) ∧ mR (s39 D 1) J S' M r)) (fun _ _ => False)) := by
  refine zMet.of' [some (zr (some M))] hl0 (by decide) rfl (Nat.le_of_ble_eq_true rfl) rfl ?_
  intro X C N hR hN0 hX F
  subst hX
  have hN := hC.1
  obtain ⟨w0, hM⟩ := id hM0
  refine z_aload_n C rfl dX5_addTag_0 ?_
  refine z_iconst 0 (by decide) C dX5_addTag_1 ?_
  refine zp5_thrown C (fun w h => List.mem_cons_of_mem _ (um_wsX50 w h)) hM.1 (List.mem_cons_of_mem _ wm33) dX5_addTag_2 ?_
  have hM := hM0.th h39
  refine z_aload_n C rfl dX5_addTag_5 ?_
  refine z_aload_n C rfl dX5_addTag_6 ?_
  refine zg5_tags C (fun w h => List.mem_cons_of_mem _ (um_wsX50 w h)) hM.1 (List.mem_cons_of_mem _ wm39) dX5_addTag_7 ?_
  refine z_int (hM.i 48 rfl) ?_
  refine z_bipush 16 (by decide) C dX5_addTag_10 ?_
  refine z_icmp_ne 19 C dX5_addTag_12 (by decide) (fun c12 => ?_) (fun c12 => ?_)
  · refine z_iconst 0 (by decide) C dX5_addTag_19 ?_
    refine z_iconst 1 (by decide) C dX5_addTag_20 ?_
    refine z_callM 2 [zi (0), zi 1] C rfl (M_fails0 hl0 hM h39 0 1 (by decide)) rfl (zgoodV LWm_good wm64 wm65 wm66 wm37 wm67) rfl rfl rfl (by decide +kernel) rfl (by rw [hR]; exact ⟨Nat.le_of_ble_eq_true rfl, Nat.le_of_ble_eq_true rfl⟩) hM.1 (by rw [hR]; exact ⟨Nat.le_of_ble_eq_true rfl, Nat.le_of_ble_eq_true rfl⟩) (Nat.le_of_ble_eq_true rfl) dX5_addTag_21 (fun v21 S21 h21 => ?_) (fun E21 S21 h21 => ?_)
    · obtain ⟨rfl, q21⟩ := h21
      subst S21
      refine z_if_eq 29 C dX5_addTag_24 (by decide) (fun _ => ?_) (fun c24 => absurd c24 (by decide))
      refine z_aload_n C rfl dX5_addTag_29 ?_
      refine z_dup rfl C dX5_addTag_30 ?_
      refine zg5_tags C (fun w h => List.mem_cons_of_mem _ (um_wsX50 w h)) hM.1 (List.mem_cons_of_mem _ wm39) dX5_addTag_31 ?_
      refine z_int (hM.i 48 rfl) ?_
      refine z_iconst 1 (by decide) C dX5_addTag_34 ?_
      refine z_iadd C dX5_addTag_35 ?_
      refine zp5_tags C (fun w h => List.mem_cons_of_mem _ (um_wsX50 w h)) hM.1 (List.mem_cons_of_mem _ wm39) dX5_addTag_36 ?_
      refine z_memM (hM.sI 48 rfl _) (fun S36 hM => ?_)
      refine z_aload_n C rfl dX5_addTag_39 ?_
      refine zg5_tags C (fun w h => List.mem_cons_of_mem _ (um_wsX50 w h)) hM.1 (List.mem_cons_of_mem _ wm39) dX5_addTag_40 ?_
      refine z_int (x' := D 48 0 + 1) ((hM.i 48 rfl).trans ((congrFun dS_self 0).trans up1_self)) ?_
      refine z_iconst 1 (by decide) C dX5_addTag_43 ?_
      refine z_isub C dX5_addTag_44 ?_
      refine z_int (x' := D 48 0) (by rw [hN.2.1.1, ← nI_succ, nI_pred]) ?_
      refine z_ireturn C F (Nat.le_of_ble_eq_true rfl) (Nat.le_of_ble_eq_true rfl) dX5_addTag_45 ?_
      exact Or.inl ⟨c12, rfl, hM⟩
    · exact h21.elim
  · refine z_iconst 1 (by decide) C dX5_addTag_15 ?_
    refine z_goto 20 C dX5_addTag_16 (by decide) ?_
    refine z_iconst 1 (by decide) C dX5_addTag_20 ?_
    refine z_callM 2 [zi (1), zi 1] C rfl (M_fails1 hl0 hM h39 1 1 (by decide)) rfl (zgoodV LWm_good wm64 wm65 wm66 wm37 wm67) rfl rfl rfl (by decide +kernel) rfl (by rw [hR]; exact ⟨Nat.le_of_ble_eq_true rfl, Nat.le_of_ble_eq_true rfl⟩) hM.1 (by rw [hR]; exact ⟨Nat.le_of_ble_eq_true rfl, Nat.le_of_ble_eq_true rfl⟩) (Nat.le_of_ble_eq_true rfl) dX5_addTag_21 (fun v21 S21 h21 => ?_) (fun E21 S21 h21 => ?_)
    · obtain ⟨rfl, hM⟩ := h21
      refine z_if_eq 29 C dX5_addTag_24 (by decide) (fun c24 => absurd c24 (by decide)) (fun _ => ?_)
      refine z_iconst 0 (by decide) C dX5_addTag_27 ?_
      refine z_ireturn C F (Nat.le_of_ble_eq_true rfl) (Nat.le_of_ble_eq_true rfl) dX5_addTag_28 ?_
      exact Or.inr ⟨c12, rfl, hM⟩
    · exact h21.elim
