/-! the reference: rules asked, matches, products -/
theorem zMet.post {l : Launch} {y : MethodName} {ws : List Cond} {rm : Room} {mc ms : Nat} {vs : List ZV} {S : ZM} {P P' : zP} (h : zMet l y ws rm mc ms vs S P) (hP : ∀ (o : (Option ZV) ⊕ String) (S' : ZM), P o S' → P' o S') : zMet l y ws rm mc ms vs S P' := by
  intro G A sz hA
  refine MetFree.mono (h G A sz hA) (fun _ _ q => q) (fun _ _ _ _ _ q => q) (fun a s o s' _ q => ?_)
  rcases q with ⟨⟨⟨v, S', e, hp, hh⟩, hF⟩, k⟩ | ⟨w, e, E, ce, L, ⟨⟨S', hp, hh⟩, hF⟩, k⟩
  · exact Or.inl ⟨⟨⟨v, S', e, hP _ _ hp, hh⟩, hF⟩, k⟩
  · exact Or.inr ⟨w, e, E, ce, L, ⟨⟨S', hP _ _ hp, hh⟩, hF⟩, k⟩
def keD (D : ZD) : Prop := ∀ l : Nat, l < dL D → D 61 l = fixD D l
theorem M_holdsX {l : Launch} (hl0 : l.stackTraces = false) {D : ZD} {J : Nat → Int64} {S : ZM} {M : Nat} {r : Nat → Nat} (hM : mR D J S M r) (h39 : D 39 0 = 0) (hC : wC D) (hW : wfM D) (hK : keD D) {x y : Int32} (hx : hasRl D x) (hy : hasTr D y) : ∃ f9 l9 : Nat, f9 ≤ 384 ∧ l9 ≤ 9723 ∧ zMet l yX5_holdsFor (Cond.code yX5_holdsFor cX5_holdsFor 4 (some .boolean) :: LWm) ({ frames := f9, cells := 0, slots := 0, locals := l9 } : Room) 0 0 [zr (some M), zi x, zi y] S (zPo (fun v S' => ∃ b : Bool, v = some (zi (bI b)) ∧ b = ev D (fixD D) (ix x) (ix y) ∧ okM J S' M r D) (fun _ _ => False)) := by
  obtain ⟨hN, hw, hO, hAc⟩ := hC
  obtain ⟨rk, hr8, hrk⟩ := id hAc
  have h40 : dR D ≤ 40 := hN.2.2.1.2
  have h8 : dL D ≤ 8 := hN.2.2.2.2
  have h16 : dG D ≤ 16 := hN.2.1.2
  obtain ⟨w1, w2, w3⟩ := hx.d
  obtain ⟨u1, u2, u3⟩ := hy.d
  refine ⟨43 * 8 + ix x + 1, 1100 * 8 + 26 + 23 * ix x, by omega, by omega, ?_⟩
  have q := M_holdsFor hl0 (J := J) (M := M) (r := r) (rk := rk) hw h40 h16 h8 (n := 8) (fun i hi hr => M_fill hl0 hw hN hO hAc hrk 8 i hi hr) 41 (ix x) (ix y) D S (by omega) w2 u1 hM (fun _ _ => rfl) (inv_of hW) (fun i hi hb => ⟨lsR_in hw h40 h8 41 (ix x) i (by omega) w2 (by omega) hb, hr8 i (lsR_in hw h40 h8 41 (ix x) i (by omega) w2 (by omega) hb)⟩)
  rw [← w3, ← u2] at q
  refine zMet.post q ?_
  rintro (v | E) S' h
  · obtain ⟨b, hv, hb, E', hM', hE', hs⟩ := h
    obtain ⟨k1, k2, k3⟩ := stp_end hE' hs hW hK
    exact ⟨b, hv, hb, E', hM', (congrFun k3 0).trans h39, k1, k2⟩
  · exact h

set_option maxRecDepth 100000 in
set_option maxHeartbeats 800000 in
theorem M_holds {l : Launch} (hl0 : l.stackTraces = false) {D : ZD} {J : Nat → Int64} {S : ZM} {M : Nat} {r : Nat → Nat} (hM0 : iM D J S M r) (h39 : D 39 0 = 0) (hC : wC D) (hW : wfM D) (hK : keD D) (x y : Int32) : zMet l yX5_holds (Cond.code yX5_holds cX5_holds 3 (some .boolean) :: LWm) ({ frames := 385, cells := 0, slots := 0, locals := 9746 } : Room) 0 0 [zr (some M), zi x, zi y] S (zPo (fun v S' => (hasRl D x ∧ hasTr D y ∧ v = some (zi (bI (ev D (fixD D) (ix x) (ix y)))) ∧ okM J S' M r D) ∨ (¬ (hasRl D x ∧ hasTr D y) ∧ v = some (zi 0) ∧ mR (s39 D 1) J S' M r)) (fun _ _ => False)) := by
  refine zMet.of' [some (zr (some M)), some (zi x), some (zi y)] hl0 (by decide) rfl (Nat.le_of_ble_eq_true rfl) rfl ?_
  intro X C N hR hN0 hX F
  subst hX
  have hN := hC.1
  obtain ⟨w0, hM⟩ := id hM0
  refine z_aload_n C rfl dX5_holds_0 ?_
  refine z_iconst 0 (by decide) C dX5_holds_1 ?_
  refine zp5_thrown C (fun w h => List.mem_cons_of_mem _ (um_wsX50 w h)) hM.1 (List.mem_cons_of_mem _ wm33) dX5_holds_2 ?_
  have hM := hM0.th h39
  refine z_aload_n C rfl dX5_holds_5 ?_
  refine z_aload_n C rfl dX5_holds_6 ?_
  refine z_iload_n C rfl dX5_holds_7 ?_
  refine z_callM 1 [zi x] C rfl (M_noRule hl0 hM hN x) rfl (zgoodV LWm_good wm107 wm108 wm109 wm37 wm110) rfl rfl rfl (by decide +kernel) rfl (by rw [hR]; exact ⟨Nat.le_of_ble_eq_true rfl, Nat.le_of_ble_eq_true rfl⟩) hM.1 (by rw [hR]; exact ⟨Nat.le_of_ble_eq_true rfl, Nat.le_of_ble_eq_true rfl⟩) (Nat.le_of_ble_eq_true rfl) dX5_holds_8 (fun v8 S8 h8 => ?_) (fun E8 S8 h8 => ?_)
  · obtain ⟨b8, rfl, hb8, q8⟩ := h8
    subst S8
    cases b8 with
    | false =>
      have y8 := hb8.mp rfl
      refine z_if_ne 22 C dX5_holds_11 (by decide) (fun c11 => absurd c11 (by decide)) (fun _ => ?_)
      refine z_aload_n C rfl dX5_holds_14 ?_
      refine z_iload_n C rfl dX5_holds_15 ?_
      refine z_callM 1 [zi y] C rfl (M_noTrack hl0 hM hN y) rfl (zgoodV LWm_good wm72 wm73 wm74 wm37 wm75) rfl rfl rfl (by decide +kernel) rfl (by rw [hR]; exact ⟨Nat.le_of_ble_eq_true rfl, Nat.le_of_ble_eq_true rfl⟩) hM.1 (by rw [hR]; exact ⟨Nat.le_of_ble_eq_true rfl, Nat.le_of_ble_eq_true rfl⟩) (Nat.le_of_ble_eq_true rfl) dX5_holds_16 (fun v16 S16 h16 => ?_) (fun E16 S16 h16 => ?_)
      · obtain ⟨b16, rfl, hb16, q16⟩ := h16
        subst S16
        cases b16 with
        | false =>
          have y16 := hb16.mp rfl
          refine z_if_eq 26 C dX5_holds_19 (by decide) (fun _ => ?_) (fun c19 => absurd c19 (by decide))
          refine z_iconst 0 (by decide) C dX5_holds_26 ?_
          refine z_iconst 1 (by decide) C dX5_holds_27 ?_
          refine z_callM 2 [zi (0), zi 1] C rfl (M_fails0 hl0 hM h39 0 1 (by decide)) rfl (zgoodV LWm_good wm64 wm65 wm66 wm37 wm67) rfl rfl rfl (by decide +kernel) rfl (by rw [hR]; exact ⟨Nat.le_of_ble_eq_true rfl, Nat.le_of_ble_eq_true rfl⟩) hM.1 (by rw [hR]; exact ⟨Nat.le_of_ble_eq_true rfl, Nat.le_of_ble_eq_true rfl⟩) (Nat.le_of_ble_eq_true rfl) dX5_holds_28 (fun v28 S28 h28 => ?_) (fun E28 S28 h28 => ?_)
          · obtain ⟨rfl, q28⟩ := h28
            subst S28
            refine z_if_ne 47 C dX5_holds_31 (by decide) (fun c31 => absurd c31 (by decide)) (fun _ => ?_)
            obtain ⟨f9, l9, hf9, hl9, hk9⟩ := M_holdsX hl0 hM h39 hC hW hK y8 y16
            refine z_aload_n C rfl dX5_holds_34 ?_
            refine z_iload_n C rfl dX5_holds_35 ?_
            refine z_iload_n C rfl dX5_holds_36 ?_
            refine z_callM 2 [zi x, zi y] C rfl (hk9) rfl (zgoodV LWm_good wm54 wm55 wm56 wm37 wm49) rfl rfl rfl (by decide +kernel) rfl (by rw [hR]; exact ⟨by show f9 + 1 ≤ 385; omega, by show 8 + (4 + 11) + l9 ≤ 9746; omega⟩) hM.1 (by rw [hR]; exact ⟨Nat.le_of_ble_eq_true rfl, Nat.le_of_ble_eq_true rfl⟩) (Nat.le_of_ble_eq_true rfl) dX5_holds_37 (fun v37 S37 h37 => ?_) (fun E37 S37 h37 => ?_)
            · obtain ⟨b37, rfl, hb37, hok⟩ := h37
              cases b37 with
              | false =>
                refine z_if_eq 47 C dX5_holds_40 (by decide) (fun _ => ?_) (fun c40 => absurd c40 (by decide))
                refine z_iconst 0 (by decide) C dX5_holds_47 ?_
                refine z_zreturn C F (Nat.le_of_ble_eq_true rfl) (Nat.le_of_ble_eq_true rfl) (by decide) dX5_holds_48 ?_
                exact Or.inl ⟨y8, y16, by rw [← hb37]; rfl, hok⟩
              | true =>
                refine z_if_eq 47 C dX5_holds_40 (by decide) (fun c40 => absurd c40 (by decide)) (fun _ => ?_)
                refine z_iconst 1 (by decide) C dX5_holds_43 ?_
                refine z_goto 48 C dX5_holds_44 (by decide) ?_
                refine z_zreturn C F (Nat.le_of_ble_eq_true rfl) (Nat.le_of_ble_eq_true rfl) (by decide) dX5_holds_48 ?_
                exact Or.inl ⟨y8, y16, by rw [← hb37]; rfl, hok⟩
            · exact h37.elim
          · exact h28.elim
        | true =>
          have y16 := b_tf hb16
          refine z_if_eq 26 C dX5_holds_19 (by decide) (fun c19 => absurd c19 (by decide)) (fun _ => ?_)
          refine z_iconst 1 (by decide) C dX5_holds_22 ?_
          refine z_goto 27 C dX5_holds_23 (by decide) ?_
          refine z_iconst 1 (by decide) C dX5_holds_27 ?_
          refine z_callM 2 [zi (1), zi 1] C rfl (M_fails1 hl0 hM h39 1 1 (by decide)) rfl (zgoodV LWm_good wm64 wm65 wm66 wm37 wm67) rfl rfl rfl (by decide +kernel) rfl (by rw [hR]; exact ⟨Nat.le_of_ble_eq_true rfl, Nat.le_of_ble_eq_true rfl⟩) hM.1 (by rw [hR]; exact ⟨Nat.le_of_ble_eq_true rfl, Nat.le_of_ble_eq_true rfl⟩) (Nat.le_of_ble_eq_true rfl) dX5_holds_28 (fun v28 S28 h28 => ?_) (fun E28 S28 h28 => ?_)
          · obtain ⟨rfl, hM⟩ := h28
            refine z_if_ne 47 C dX5_holds_31 (by decide) (fun _ => ?_) (fun c31 => absurd c31 (by decide))
            refine z_iconst 0 (by decide) C dX5_holds_47 ?_
            refine z_zreturn C F (Nat.le_of_ble_eq_true rfl) (Nat.le_of_ble_eq_true rfl) (by decide) dX5_holds_48 ?_
            first | exact Or.inr ⟨fun z => y8 z.1, rfl, hM⟩ | exact Or.inr ⟨fun z => y16 z.2, rfl, hM⟩
          · exact h28.elim
      · exact h16.elim
    | true =>
      have y8 := b_tf hb8
      refine z_if_ne 22 C dX5_holds_11 (by decide) (fun _ => ?_) (fun c11 => absurd c11 (by decide))
      refine z_iconst 1 (by decide) C dX5_holds_22 ?_
      refine z_goto 27 C dX5_holds_23 (by decide) ?_
      refine z_iconst 1 (by decide) C dX5_holds_27 ?_
      refine z_callM 2 [zi (1), zi 1] C rfl (M_fails1 hl0 hM h39 1 1 (by decide)) rfl (zgoodV LWm_good wm64 wm65 wm66 wm37 wm67) rfl rfl rfl (by decide +kernel) rfl (by rw [hR]; exact ⟨Nat.le_of_ble_eq_true rfl, Nat.le_of_ble_eq_true rfl⟩) hM.1 (by rw [hR]; exact ⟨Nat.le_of_ble_eq_true rfl, Nat.le_of_ble_eq_true rfl⟩) (Nat.le_of_ble_eq_true rfl) dX5_holds_28 (fun v28 S28 h28 => ?_) (fun E28 S28 h28 => ?_)
      · obtain ⟨rfl, hM⟩ := h28
        refine z_if_ne 47 C dX5_holds_31 (by decide) (fun _ => ?_) (fun c31 => absurd c31 (by decide))
        refine z_iconst 0 (by decide) C dX5_holds_47 ?_
        refine z_zreturn C F (Nat.le_of_ble_eq_true rfl) (Nat.le_of_ble_eq_true rfl) (by decide) dX5_holds_48 ?_
        first | exact Or.inr ⟨fun z => y8 z.1, rfl, hM⟩ | exact Or.inr ⟨fun z => y16 z.2, rfl, hM⟩
      · exact h28.elim
  · exact h8.elim
theorem cnF_out24 {p : Nat → Bool} {n : Nat} (hn : n ≤ 24) (h : ∀ t : Nat, n ≤ t → p t = false) : cnF p n = cnF p 24 := by
  have : ∀ m : Nat, cnF p (n + m) = cnF p n := by
    intro m
    induction m with
    | zero => rfl
    | succ m ih => rw [← Nat.add_assoc, cnF_s0 (h _ (by omega))]; exact ih
  have := this (24 - n)
  rw [show n + (24 - n) = 24 by omega] at this
  exact this.symm
set_option maxRecDepth 100000 in
set_option maxHeartbeats 800000 in
theorem M_matches {l : Launch} (hl0 : l.stackTraces = false) {D : ZD} {J : Nat → Int64} {S : ZM} {M : Nat} {r : Nat → Nat} (hM0 : iM D J S M r) (h39 : D 39 0 = 0) (hC : wC D) (hW : wfM D) (hK : keD D) (x : Int32) : zMet l yX5_matches (Cond.code yX5_matches cX5_matches 4 (some .int) :: LWm) ({ frames := 386, cells := 0, slots := 0, locals := 9768 } : Room) 0 0 [zr (some M), zi x] S (zPo (fun v S' => (hasLs D x ∧ v = some (zi (nI (cnF (fun t => prD D t && ev D (fixD D) (ix (D 58 (ix x))) t) 24))) ∧ okM J S' M r D) ∨ (¬ hasLs D x ∧ v = some (zi 0) ∧ mR (s39 D 1) J S' M r)) (fun _ _ => False)) := by
  refine zMet.of' [some (zr (some M)), some (zi x), none, none] hl0 (by decide) rfl (Nat.le_of_ble_eq_true rfl) rfl ?_
  intro X C N hR hN0 hX F
  subst hX
  have hN := hC.1
  obtain ⟨w0, hM⟩ := id hM0
  refine z_aload_n C rfl dX5_matches_0 ?_
  refine z_iconst 0 (by decide) C dX5_matches_1 ?_
  refine zp5_thrown C (fun w h => List.mem_cons_of_mem _ (um_wsX50 w h)) hM.1 (List.mem_cons_of_mem _ wm33) dX5_matches_2 ?_
  have hM := hM0.th h39
  refine z_aload_n C rfl dX5_matches_5 ?_
  refine z_aload_n C rfl dX5_matches_6 ?_
  refine z_iload_n C rfl dX5_matches_7 ?_
  refine z_callM 1 [zi x] C rfl (M_noList hl0 hM hN x) rfl (zgoodV LWm_good wm103 wm104 wm105 wm37 wm106) rfl rfl rfl (by decide +kernel) rfl (by rw [hR]; exact ⟨Nat.le_of_ble_eq_true rfl, Nat.le_of_ble_eq_true rfl⟩) hM.1 (by rw [hR]; exact ⟨Nat.le_of_ble_eq_true rfl, Nat.le_of_ble_eq_true rfl⟩) (Nat.le_of_ble_eq_true rfl) dX5_matches_8 (fun v8 S8 h8 => ?_) (fun E8 S8 h8 => ?_)
  · obtain ⟨b8, rfl, hb8, q8⟩ := h8
    subst S8
    refine z_iconst 1 (by decide) C dX5_matches_11 ?_
    cases b8 with
    | false =>
      have y8 := hb8.mp rfl
      refine z_callM 2 [zi (bI false), zi 1] C rfl (M_fails0 hl0 hM h39 (bI false) 1 (by decide)) rfl (zgoodV LWm_good wm64 wm65 wm66 wm37 wm67) rfl rfl rfl (by decide +kernel) rfl (by rw [hR]; exact ⟨Nat.le_of_ble_eq_true rfl, Nat.le_of_ble_eq_true rfl⟩) hM.1 (by rw [hR]; exact ⟨Nat.le_of_ble_eq_true rfl, Nat.le_of_ble_eq_true rfl⟩) (Nat.le_of_ble_eq_true rfl) dX5_matches_12 (fun v12 S12 h12 => ?_) (fun E12 S12 h12 => ?_)
      · obtain ⟨rfl, q12⟩ := h12
        subst S12
        refine z_if_eq 20 C dX5_matches_15 (by decide) (fun _ => ?_) (fun c15 => absurd c15 (by decide))
        obtain ⟨hN, hw, hO, hAc⟩ := id hC
        obtain ⟨rk, hr8, hrk⟩ := id hAc
        have h40 : dR D ≤ 40 := hN.2.2.1.2
        have h8 : dL D ≤ 8 := hN.2.2.2.2
        have h16 : dG D ≤ 16 := hN.2.1.2
        have h24 : dT D ≤ 24 := hN.1.2
        have h41 : D 41 0 = nI (dT D) := hN.1.1
        obtain ⟨w1, w2, w3⟩ := y8.d
        have loop : ∀ (m t : Nat) (E : ZD) (S1 : ZM), t + m = dT D → mR E J S1 M r → eqF E D → stp D rk 8 D E → zW X 4 (0 + 0 + 0) (0 + 0 + 0) S1 24 [some (zr (some M)), some (zi (nI (ix x))), some (zi (nI (cnF (fun t => prD D t && ev D (fixD D) (ix (D 58 (ix x))) t) t))), some (zi (nI t))] [] := by
          intro m
          induction m with
          | zero =>
            intro t E S1 ht hM hE hs
            obtain rfl : t = dT D := by omega
            refine z_iload_n C rfl dX5_matches_24 ?_
            refine z_aload_n C rfl dX5_matches_25 ?_
            refine zg5_tracks C (fun w h => List.mem_cons_of_mem _ (um_wsX50 w h)) hM.1 (List.mem_cons_of_mem _ wm34) dX5_matches_26 ?_
            refine z_int (hM.i 41 rfl) ?_
            refine z_int ((congrFun (hE 41 rfl) 0).trans h41) ?_
            refine z_icmp_ge 55 C dX5_matches_29 (by decide) (fun c29 => ?_) (fun c29 => ?_)
            · refine z_iload_n C rfl dX5_matches_55 ?_
              refine z_ireturn C F (Nat.le_of_ble_eq_true rfl) (Nat.le_of_ble_eq_true rfl) dX5_matches_56 ?_
              obtain ⟨k1, k2, k3⟩ := stp_end hE hs hW hK
              exact Or.inl ⟨y8, by rw [cnF_out24 h24 (fun t ht => by rw [pr_out ht]; rfl)], E, hM, (congrFun k3 0).trans h39, k1, k2⟩
            · exact absurd (Int32.le_refl _) c29
          | succ m ih =>
            intro t E S1 ht hM hE hs
            have htd : t < dT D := by omega
            refine z_iload_n C rfl dX5_matches_24 ?_
            refine z_aload_n C rfl dX5_matches_25 ?_
            refine zg5_tracks C (fun w h => List.mem_cons_of_mem _ (um_wsX50 w h)) hM.1 (List.mem_cons_of_mem _ wm34) dX5_matches_26 ?_
            refine z_int (hM.i 41 rfl) ?_
            refine z_int ((congrFun (hE 41 rfl) 0).trans h41) ?_
            refine z_icmp_ge 55 C dX5_matches_29 (by decide) (fun c29 => ?_) (fun c29 => ?_)
            · exact absurd c29 (n_ge htd (by omega))
            · refine z_iload_n C rfl dX5_matches_32 ?_
              refine z_aload_n C rfl dX5_matches_33 ?_
              refine z_iload_n C rfl dX5_matches_34 ?_
              refine z_iload_n C rfl dX5_matches_35 ?_
              refine z_callM 2 [zi (nI (ix x)), zi (nI t)] C rfl (M_isMatch hl0 hw hO h40 h16 h8 h24 (n := 8) (fun i hi hr => M_fill hl0 hw hN hO hAc hrk 8 i hi hr) w2 htd hM hE ((inv_of hW).stp hs) (fun j hj hb => ⟨(hrk _ j w2 hj hb).1, hr8 j (hrk _ j w2 hj hb).1⟩)) rfl (zgoodV LWm_good wm42 wm43 wm44 wm37 wm57) rfl rfl rfl (by decide +kernel) rfl (by rw [hR]; exact ⟨by show 43 * 8 + 41 + 1 ≤ 386; omega, by show 8 + (3 + 11) + (1100 * 8 + 946) ≤ 9768; omega⟩) hM.1 (by rw [hR]; exact ⟨Nat.le_of_ble_eq_true rfl, Nat.le_of_ble_eq_true rfl⟩) (Nat.le_of_ble_eq_true rfl) dX5_matches_36 (fun v36 S36 h36 => ?_) (fun E36 S36 h36 => ?_)
              · obtain ⟨b36, rfl, hb36, E4, hM, hE4, hs4⟩ := h36
                cases b36 with
                | false =>
                  refine z_if_eq 46 C dX5_matches_39 (by decide) (fun _ => ?_) (fun c39 => absurd c39 (by decide))
                  refine z_iconst 0 (by decide) C dX5_matches_46 ?_
                  refine z_iadd C dX5_matches_47 ?_
                  refine z_istore_n [_, _, _, _] C (by decide) rfl dX5_matches_48 ?_
                  refine z_inc (1) [_, _, _, _] C rfl (by decide) (by decide) rfl dX5_matches_49 ?_
                  refine z_goto 24 C dX5_matches_52 (by decide) ?_
                  have q := ih (t + 1) E4 _ (by omega) hM hE4 (hs.trans hs4)
                  rw [cnF_s0 hb36.symm, nI_succ, ← Int32.add_zero (nI (cnF (fun t => prD D t && ev D (fixD D) (ix (D 58 (ix x))) t) t))] at q
                  exact q
                | true =>
                  refine z_if_eq 46 C dX5_matches_39 (by decide) (fun c39 => absurd c39 (by decide)) (fun _ => ?_)
                  refine z_iconst 1 (by decide) C dX5_matches_42 ?_
                  refine z_goto 47 C dX5_matches_43 (by decide) ?_
                  refine z_iadd C dX5_matches_47 ?_
                  refine z_istore_n [_, _, _, _] C (by decide) rfl dX5_matches_48 ?_
                  refine z_inc (1) [_, _, _, _] C rfl (by decide) (by decide) rfl dX5_matches_49 ?_
                  refine z_goto 24 C dX5_matches_52 (by decide) ?_
                  have q := ih (t + 1) E4 _ (by omega) hM hE4 (hs.trans hs4)
                  rw [cnF_s1 hb36.symm, nI_succ, nI_succ] at q
                  exact q
              · exact h36.elim
        refine z_iconst 0 (by decide) C dX5_matches_20 ?_
        refine z_istore_n [_, _, _, _] C (by decide) rfl dX5_matches_21 ?_
        refine z_iconst 0 (by decide) C dX5_matches_22 ?_
        refine z_istore_n [_, _, _, _] C (by decide) rfl dX5_matches_23 ?_
        have q := loop (dT D) 0 D _ (by omega) hM (fun _ _ => rfl) (stp.refl D rk 8 D)
        rw [← w3] at q
        exact q
      · exact h12.elim
    | true =>
      have y8 := b_tf hb8
      refine z_callM 2 [zi (bI true), zi 1] C rfl (M_fails1 hl0 hM h39 (bI true) 1 (by decide)) rfl (zgoodV LWm_good wm64 wm65 wm66 wm37 wm67) rfl rfl rfl (by decide +kernel) rfl (by rw [hR]; exact ⟨Nat.le_of_ble_eq_true rfl, Nat.le_of_ble_eq_true rfl⟩) hM.1 (by rw [hR]; exact ⟨Nat.le_of_ble_eq_true rfl, Nat.le_of_ble_eq_true rfl⟩) (Nat.le_of_ble_eq_true rfl) dX5_matches_12 (fun v12 S12 h12 => ?_) (fun E12 S12 h12 => ?_)
      · obtain ⟨rfl, hM⟩ := h12
        refine z_if_eq 20 C dX5_matches_15 (by decide) (fun c15 => absurd c15 (by decide)) (fun _ => ?_)
        refine z_iconst 0 (by decide) C dX5_matches_18 ?_
        refine z_ireturn C F (Nat.le_of_ble_eq_true rfl) (Nat.le_of_ble_eq_true rfl) dX5_matches_19 ?_
        exact Or.inr ⟨y8, rfl, hM⟩
      · exact h12.elim
  · exact h8.elim
set_option maxRecDepth 100000 in
set_option maxHeartbeats 800000 in
theorem M_mixes {l : Launch} (hl0 : l.stackTraces = false) {D : ZD} {J : Nat → Int64} {S : ZM} {M : Nat} {r : Nat → Nat} (hM0 : iM D J S M r) (h39 : D 39 0 = 0) (hC : wC D) (hW : wfM D) (x : Int32) : zMet l yX5_mixes (Cond.code yX5_mixes cX5_mixes 5 (some .int) :: LWm) ({ frames := 2, cells := 0, slots := 0, locals := 43 } : Room) 0 0 [zr (some M), zi x] S (zPo (fun v S' => (hasLs D x ∧ lg_cmp (prP (fun j => (D 44 j + 1).toInt64) 1 (tkD D (ix x))) 2147483647 ≤ 0 ∧ v = some (zi (prP (fun j => (D 44 j + 1).toInt64) 1 (tkD D (ix x))).toInt32) ∧ mR D J S' M r) ∨ (¬ hasLs D x ∧ v = some (zi 0) ∧ mR (s39 D 1) J S' M r) ∨ (hasLs D x ∧ ¬ lg_cmp (prP (fun j => (D 44 j + 1).toInt64) 1 (tkD D (ix x))) 2147483647 ≤ 0 ∧ v = some (zi 0) ∧ mR (s39 D 2) J S' M r)) (fun _ _ => False)) := by
  refine zMet.of' [some (zr (some M)), some (zi x), none, none, none] hl0 (by decide) rfl (Nat.le_of_ble_eq_true rfl) rfl ?_
  intro X C N hR hN0 hX F
  subst hX
  have hN := hC.1
  obtain ⟨w0, hM⟩ := id hM0
  refine z_aload_n C rfl dX5_mixes_0 ?_
  refine z_iconst 0 (by decide) C dX5_mixes_1 ?_
  refine zp5_thrown C (fun w h => List.mem_cons_of_mem _ (um_wsX50 w h)) hM.1 (List.mem_cons_of_mem _ wm33) dX5_mixes_2 ?_
  have hM := hM0.th h39
  refine z_aload_n C rfl dX5_mixes_5 ?_
  refine z_aload_n C rfl dX5_mixes_6 ?_
  refine z_iload_n C rfl dX5_mixes_7 ?_
  refine z_callM 1 [zi x] C rfl (M_noList hl0 hM hN x) rfl (zgoodV LWm_good wm103 wm104 wm105 wm37 wm106) rfl rfl rfl (by decide +kernel) rfl (by rw [hR]; exact ⟨Nat.le_of_ble_eq_true rfl, Nat.le_of_ble_eq_true rfl⟩) hM.1 (by rw [hR]; exact ⟨Nat.le_of_ble_eq_true rfl, Nat.le_of_ble_eq_true rfl⟩) (Nat.le_of_ble_eq_true rfl) dX5_mixes_8 (fun v8 S8 h8 => ?_) (fun E8 S8 h8 => ?_)
  · obtain ⟨b8, rfl, hb8, q8⟩ := h8
    subst S8
    refine z_iconst 1 (by decide) C dX5_mixes_11 ?_
    cases b8 with
    | false =>
      have y8 := hb8.mp rfl
      refine z_callM 2 [zi (bI false), zi 1] C rfl (M_fails0 hl0 hM h39 (bI false) 1 (by decide)) rfl (zgoodV LWm_good wm64 wm65 wm66 wm37 wm67) rfl rfl rfl (by decide +kernel) rfl (by rw [hR]; exact ⟨Nat.le_of_ble_eq_true rfl, Nat.le_of_ble_eq_true rfl⟩) hM.1 (by rw [hR]; exact ⟨Nat.le_of_ble_eq_true rfl, Nat.le_of_ble_eq_true rfl⟩) (Nat.le_of_ble_eq_true rfl) dX5_mixes_12 (fun v12 S12 h12 => ?_) (fun E12 S12 h12 => ?_)
      · obtain ⟨rfl, q12⟩ := h12
        subst S12
        refine z_if_eq 20 C dX5_mixes_15 (by decide) (fun _ => ?_) (fun c15 => absurd c15 (by decide))
        obtain ⟨w1, w2, w3⟩ := y8.d
        have hg := hW _ w2
        have hl := tkD_len D (ix x)
        have after : ∀ (w4 : Option ZV) (S1 : ZM), mR D J S1 M r → zW X 5 (0 + 0 + 0) (0 + 0 + 0) S1 73 [some (zr (some M)), some (zi x), some (zj (prP (fun j => (D 44 j + 1).toInt64) 1 (tkD D (ix x)))), none, w4] [] := by
          intro w4 S1 hM
          refine z_aload_n C rfl dX5_mixes_73 ?_
          refine z_lload_n C rfl dX5_mixes_74 ?_
          refine z_ldc2_w C (List.mem_cons_of_mem _ wm134) dX5_mixes_75 ?_
          refine z_lcmp C dX5_mixes_78 ?_
          refine z_if_le 86 C dX5_mixes_79 (by decide) (fun c79 => ?_) (fun c79 => ?_)
          · refine z_iconst 0 (by decide) C dX5_mixes_86 ?_
            refine z_iconst 2 (by decide) C dX5_mixes_87 ?_
            refine z_callM 2 [zi (0), zi 2] C rfl (M_fails0 hl0 hM h39 0 2 (by decide)) rfl (zgoodV LWm_good wm64 wm65 wm66 wm37 wm67) rfl rfl rfl (by decide +kernel) rfl (by rw [hR]; exact ⟨Nat.le_of_ble_eq_true rfl, Nat.le_of_ble_eq_true rfl⟩) hM.1 (by rw [hR]; exact ⟨Nat.le_of_ble_eq_true rfl, Nat.le_of_ble_eq_true rfl⟩) (Nat.le_of_ble_eq_true rfl) dX5_mixes_88 (fun v88 S88 h88 => ?_) (fun E88 S88 h88 => ?_)
            · obtain ⟨rfl, q88⟩ := h88
              subst S88
              refine z_if_eq 98 C dX5_mixes_91 (by decide) (fun _ => ?_) (fun c91 => absurd c91 (by decide))
              refine z_lload_n C rfl dX5_mixes_98 ?_
              refine z_l2i C dX5_mixes_99 ?_
              refine z_ireturn C F (Nat.le_of_ble_eq_true rfl) (Nat.le_of_ble_eq_true rfl) dX5_mixes_100 ?_
              exact Or.inl ⟨y8, c79, rfl, hM⟩
            · exact h88.elim
          · refine z_iconst 1 (by decide) C dX5_mixes_82 ?_
            refine z_goto 87 C dX5_mixes_83 (by decide) ?_
            refine z_iconst 2 (by decide) C dX5_mixes_87 ?_
            refine z_callM 2 [zi (1), zi 2] C rfl (M_fails1 hl0 hM h39 1 2 (by decide)) rfl (zgoodV LWm_good wm64 wm65 wm66 wm37 wm67) rfl rfl rfl (by decide +kernel) rfl (by rw [hR]; exact ⟨Nat.le_of_ble_eq_true rfl, Nat.le_of_ble_eq_true rfl⟩) hM.1 (by rw [hR]; exact ⟨Nat.le_of_ble_eq_true rfl, Nat.le_of_ble_eq_true rfl⟩) (Nat.le_of_ble_eq_true rfl) dX5_mixes_88 (fun v88 S88 h88 => ?_) (fun E88 S88 h88 => ?_)
            · obtain ⟨rfl, hM⟩ := h88
              refine z_if_eq 98 C dX5_mixes_91 (by decide) (fun c91 => absurd c91 (by decide)) (fun _ => ?_)
              refine z_iconst 0 (by decide) C dX5_mixes_94 ?_
              refine z_goto 100 C dX5_mixes_95 (by decide) ?_
              refine z_ireturn C F (Nat.le_of_ble_eq_true rfl) (Nat.le_of_ble_eq_true rfl) dX5_mixes_100 ?_
              exact Or.inr (Or.inr ⟨y8, c79, rfl, hM⟩)
            · exact h88.elim
        have loop : ∀ (m k : Nat) (p : Int64) (S1 : ZM), k + m = (tkD D (ix x)).length → prP (fun j => (D 44 j + 1).toInt64) p ((tkD D (ix x)).drop k) = prP (fun j => (D 44 j + 1).toInt64) 1 (tkD D (ix x)) → mR D J S1 M r → zW X 5 (0 + 0 + 0) (0 + 0 + 0) S1 25 [some (zr (some M)), some (zi x), some (zj p), none, some (zi (nI k))] [] := by
          intro m
          induction m with
          | zero =>
            intro k p S1 hk hp hM
            obtain rfl : k = (tkD D (ix x)).length := by omega
            refine z_iload C rfl dX5_mixes_25 ?_
            refine z_aload_n C rfl dX5_mixes_27 ?_
            refine zg5_many C (fun w h => List.mem_cons_of_mem _ (um_wsX50 w h)) hM.1 (List.mem_cons_of_mem _ wm25) dX5_mixes_28 ?_
            refine z_ref (hM.q 64 rfl) ?_
            refine z_iload_n C rfl dX5_mixes_31 ?_
            refine z_iaload C (hM.k 64 rfl) (hM.b' 64 rfl (⟨ix x, w3, w1⟩) (by decide)) dX5_mixes_32 ?_
            refine z_int (hM.t 64 rfl (by decide) _) ?_
            refine z_int (x' := nI (tkD D (ix x)).length) hg.2.1 ?_
            refine z_icmp_ge 73 C dX5_mixes_33 (by decide) (fun c33 => ?_) (fun c33 => ?_)
            · have q := after (some (zi (nI (tkD D (ix x)).length))) S1 hM
              rw [← hp, List.drop_length] at q
              exact q
            · exact absurd (Int32.le_refl _) c33
          | succ m ih =>
            intro k p S1 hk hp hM
            obtain ⟨j, hj⟩ := get_some (show k < (tkD D (ix x)).length by omega)
            have hj24 := (tkD_in hj).1
            have hdr : (tkD D (ix x)).drop k = j :: (tkD D (ix x)).drop (k + 1) := by
              rw [List.drop_eq_getElem_cons (by omega), (List.getElem?_eq_some_iff.mp hj).2]
            have hix : (24 : Int32) * x + nI k = nI (24 * ix x + k) := by
              conv => lhs; rw [w3]
              exact idx24
            refine z_iload C rfl dX5_mixes_25 ?_
            refine z_aload_n C rfl dX5_mixes_27 ?_
            refine zg5_many C (fun w h => List.mem_cons_of_mem _ (um_wsX50 w h)) hM.1 (List.mem_cons_of_mem _ wm25) dX5_mixes_28 ?_
            refine z_ref (hM.q 64 rfl) ?_
            refine z_iload_n C rfl dX5_mixes_31 ?_
            refine z_iaload C (hM.k 64 rfl) (hM.b' 64 rfl (⟨ix x, w3, w1⟩) (by decide)) dX5_mixes_32 ?_
            refine z_int (hM.t 64 rfl (by decide) _) ?_
            refine z_int (x' := nI (tkD D (ix x)).length) hg.2.1 ?_
            refine z_icmp_ge 73 C dX5_mixes_33 (by decide) (fun c33 => ?_) (fun c33 => ?_)
            · exact absurd c33 (n_ge (by omega) (by omega))
            · refine z_lload_n C rfl dX5_mixes_36 ?_
              refine z_ldc2_w C (List.mem_cons_of_mem _ wm134) dX5_mixes_37 ?_
              refine z_lcmp C dX5_mixes_40 ?_
              refine z_if_gt 73 C dX5_mixes_41 (by decide) (fun c41 => ?_) (fun c41 => ?_)
              · have q := after (some (zi (nI k))) S1 hM
                rw [← hp, hdr, show prP (fun j => (D 44 j + 1).toInt64) p (j :: (tkD D (ix x)).drop (k + 1)) = p from if_neg (Int32.not_le.mpr c41)] at q
                exact q
              · refine z_lload_n C rfl dX5_mixes_44 ?_
                refine z_aload_n C rfl dX5_mixes_45 ?_
                refine zg5_plays C (fun w h => List.mem_cons_of_mem _ (um_wsX50 w h)) hM.1 (List.mem_cons_of_mem _ wm6) dX5_mixes_46 ?_
                refine z_ref (hM.q 44 rfl) ?_
                refine z_aload_n C rfl dX5_mixes_49 ?_
                refine zg5_ranked C (fun w h => List.mem_cons_of_mem _ (um_wsX50 w h)) hM.1 (List.mem_cons_of_mem _ wm24) dX5_mixes_50 ?_
                refine z_ref (hM.q 63 rfl) ?_
                refine z_bipush 24 (by decide) C dX5_mixes_53 ?_
                refine z_iload_n C rfl dX5_mixes_55 ?_
                refine z_imul C dX5_mixes_56 ?_
                refine z_iload C rfl dX5_mixes_57 ?_
                refine z_iadd C dX5_mixes_59 ?_
                refine z_iaload C (hM.k 63 rfl) (hM.b' 63 rfl (⟨24 * ix x + k, hix, by show _ < 192; omega⟩) (by decide)) dX5_mixes_60 ?_
                refine z_int (hM.t 63 rfl (by decide) _) ?_
                refine z_int (x' := nI j) (by rw [hix, nI_clamp (by omega)]; exact hg.2.2 k j hj) ?_
                refine z_iaload C (hM.k 44 rfl) (hM.b' 44 rfl (⟨j, rfl, hj24⟩) (by decide)) dX5_mixes_61 ?_
                refine z_int (hM.t 44 rfl (by decide) _) ?_
                refine z_int (x' := D 44 j) (congrArg _ (nI_clamp (by omega))) ?_
                refine z_iconst 1 (by decide) C dX5_mixes_62 ?_
                refine z_iadd C dX5_mixes_63 ?_
                refine z_i2l C dX5_mixes_64 ?_
                refine z_lmul C dX5_mixes_65 ?_
                refine z_lstore_n [_, _, _, _, _] C (by decide) rfl dX5_mixes_66 ?_
                refine z_inc (1) [_, _, _, _, _] C rfl (by decide) (by decide) rfl dX5_mixes_67 ?_
                refine z_goto 25 C dX5_mixes_70 (by decide) ?_
                have q := ih (k + 1) (p * (D 44 j + 1).toInt64) S1 (by omega) (by rw [← hp, hdr]; exact (if_pos (Int32.not_lt.mp c41)).symm) hM
                rw [nI_succ] at q
                exact q
        refine z_lconst 1 (by decide) C dX5_mixes_20 ?_
        refine z_lstore_n [_, _, _, _, _] C (by decide) rfl dX5_mixes_21 ?_
        refine z_iconst 0 (by decide) C dX5_mixes_22 ?_
        refine z_istore [_, _, _, _, _] C (by decide) rfl dX5_mixes_23 ?_
        exact loop (tkD D (ix x)).length 0 1 _ (by omega) rfl hM
      · exact h12.elim
    | true =>
      have y8 := b_tf hb8
      refine z_callM 2 [zi (bI true), zi 1] C rfl (M_fails1 hl0 hM h39 (bI true) 1 (by decide)) rfl (zgoodV LWm_good wm64 wm65 wm66 wm37 wm67) rfl rfl rfl (by decide +kernel) rfl (by rw [hR]; exact ⟨Nat.le_of_ble_eq_true rfl, Nat.le_of_ble_eq_true rfl⟩) hM.1 (by rw [hR]; exact ⟨Nat.le_of_ble_eq_true rfl, Nat.le_of_ble_eq_true rfl⟩) (Nat.le_of_ble_eq_true rfl) dX5_mixes_12 (fun v12 S12 h12 => ?_) (fun E12 S12 h12 => ?_)
      · obtain ⟨rfl, hM⟩ := h12
        refine z_if_eq 20 C dX5_mixes_15 (by decide) (fun c15 => absurd c15 (by decide)) (fun _ => ?_)
        refine z_iconst 0 (by decide) C dX5_mixes_18 ?_
        refine z_ireturn C F (Nat.le_of_ble_eq_true rfl) (Nat.le_of_ble_eq_true rfl) dX5_mixes_19 ?_
        exact Or.inr (Or.inl ⟨y8, rfl, hM⟩)
      · exact h12.elim
  · exact h8.elim
