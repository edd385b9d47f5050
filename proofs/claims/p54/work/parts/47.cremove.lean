/-! the class: removeTrack -/
set_option maxRecDepth 100000 in
set_option maxHeartbeats 4000000 in
theorem C_removeTrack {l : Launch} (hl0 : l.stackTraces = false) {D : ZD} {J : Nat → Int64} {lk : ZL} {as : Nat → Nat} {S : ZM} {L T : Nat → Nat} (hR1 : cR D J lk as S L T) (x : Int32) : zMet l yX4_removeTrack (Cond.code yX4_removeTrack cX4_removeTrack 3 (some .int) :: LWc) ({ frames := 45, cells := 1, slots := 6, locals := 1001 } : Room) 1 6 [zr (some (L 0)), zi x] S (zPo (fun v S' => ∃ t : Nat, t < 24 ∧ x = nI t ∧ prD D t = true ∧ v = some (zi (nI (cnF (prD (opRem D t)) 24))) ∧ cR (chgD (opRem D t)) J lk as S' L T) (fun E S' => S' = S ∧ ¬ hasTr D x ∧ E = "java/util/NoSuchElementException")) := by
  refine zMet.of' [some (zr (some (L 0))), some (zi x), none] hl0 (by decide) rfl (Nat.le_of_ble_eq_true rfl) rfl ?_
  intro X C N hR hN0 hX F
  subst hX
  obtain ⟨hX0, hV, hK, hU, hQ, hF⟩ := id hR1
  obtain ⟨hS, hT, hG, hRR, hLL, hA, hday, hpl, hO, hAc⟩ := id hX0
  refine z_aload_n C rfl dX4_removeTrack_0 ?_
  refine z_iload_n C rfl dX4_removeTrack_1 ?_
  refine z_callC 1 [zi x] C rfl (C_needTrack hl0 hS x) rfl (zgoodV LWc_good wc157 wc158 wc159 wc58 wc160) rfl rfl rfl (by decide +kernel) rfl (by rw [hR]; exact ⟨Nat.le_of_ble_eq_true rfl, Nat.le_of_ble_eq_true rfl⟩) hS.c (by rw [hR]; exact ⟨Nat.le_of_ble_eq_true rfl, Nat.le_of_ble_eq_true rfl⟩) (Nat.le_of_ble_eq_true rfl) dX4_removeTrack_2 (fun v2 S2 h2 => ?_) (fun E2 S2 h2 => ?_)
  · obtain ⟨a9, e2, rfl, q2⟩ := h2
    subst S2
    obtain ⟨t, ht2, ex2, ea2, hp2, k5, n16, n17, n18, n19, n20, n21⟩ := hT.some e2
    refine z_astore_n [_, _, _] C (by decide) rfl dX4_removeTrack_5 ?_
    refine z_aload_n C rfl dX4_removeTrack_6 ?_
    refine zg4_allTracks C (fun w h => List.mem_cons_of_mem _ (uc_wsX40 w h)) hS.c (List.mem_cons_of_mem _ wc32) dX4_removeTrack_7 ?_
    refine z_ref hS.t.1 ?_
    refine z_aload_n C rfl dX4_removeTrack_10 ?_
    refine zg3_number C (fun w h => List.mem_cons_of_mem _ (uc_wsX30 w h)) k5 (List.mem_cons_of_mem _ wc101) dX4_removeTrack_11 ?_
    refine z_int n16 ?_
    refine z_null C dX4_removeTrack_14 ?_
    refine z_aastore_3 C hS.t.2.1 (fun v hv => by cases hv) (by rw [hS.t.2.2]; exact vp_in_nI ht2 (by decide)) dX4_removeTrack_15 ?_
    refine z_mem (S' := eQ S (L 1) t none) (by rw [nI_clamp (by omega)]) ?_
    obtain ⟨g0, g1, g2, g3, g4, g5, g6⟩ := hR1.rem ht2 hp2
    refine z_aload_n C rfl dX4_removeTrack_16 ?_
    refine z_dup rfl C dX4_removeTrack_17 ?_
    refine zg4_tracksLeft C (fun w h => List.mem_cons_of_mem _ (uc_wsX40 w h)) hS.c (List.mem_cons_of_mem _ wc40) dX4_removeTrack_18 ?_
    refine z_int hV.2.1 ?_
    refine z_iconst 1 (by decide) C dX4_removeTrack_21 ?_
    refine z_isub C dX4_removeTrack_22 ?_
    refine z_int g0 ?_
    refine zp4_tracksLeft C (fun w h => List.mem_cons_of_mem _ (uc_wsX40 w h)) hS.c (List.mem_cons_of_mem _ wc40) dX4_removeTrack_23 ?_
    refine z_aload_n C rfl dX4_removeTrack_26 ?_
    refine z_callC 0 [] C rfl (C_update hl0 g1) rfl (zgoodV LWc_good wc151 wc152 wc153 wc58 wc154) rfl rfl rfl (by decide +kernel) rfl (by rw [hR]; exact ⟨Nat.le_of_ble_eq_true rfl, Nat.le_of_ble_eq_true rfl⟩) hS.c (by rw [hR]; exact ⟨Nat.le_of_ble_eq_true rfl, Nat.le_of_ble_eq_true rfl⟩) (Nat.le_of_ble_eq_true rfl) dX4_removeTrack_27 (fun v27 S27 h27 => ?_) (fun E27 S27 h27 => ?_)
    · obtain ⟨rfl, A1, q27⟩ := h27
      subst S27
      refine z_aload_n C rfl dX4_removeTrack_30 ?_
      refine zg4_tracksLeft C (fun w h => List.mem_cons_of_mem _ (uc_wsX40 w h)) hS.c (List.mem_cons_of_mem _ wc40) dX4_removeTrack_31 ?_
      refine z_int (x' := nI (cnF (prD (opRem D t)) 24)) (by rw [mI_up (by decide), mI_sI]) ?_
      refine z_ireturn C F (Nat.le_of_ble_eq_true rfl) (Nat.le_of_ble_eq_true rfl) dX4_removeTrack_34 ?_
      exact ⟨t, ht2, ex2, hp2, rfl, cR.up g1 g2 g3 g4 g5 g6 A1⟩
    · exact h27.elim
  · obtain ⟨e2, rfl, q2⟩ := h2
    subst S2
    exact z_out C F N (Nat.le_of_ble_eq_true rfl) (Nat.le_of_ble_eq_true rfl) ⟨rfl, hT.none e2, rfl⟩
