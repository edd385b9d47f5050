/-! the class: addTrack -/
theorem trS_f {S : ZM} {a : Nat} {num len rate : Int32} : mI (trS S a num len rate) 16 a = num ∧ mI (trS S a num len rate) 17 a = len ∧ mI (trS S a num len rate) 18 a = rate ∧ mI (trS S a num len rate) 19 a = 0 ∧ mI (trS S a num len rate) 20 a = -1 ∧ mI (trS S a num len rate) 21 a = 0 := by
  refine ⟨?_, ?_, ?_, ?_, ?_, ?_⟩
  · rw [mI_sI_k (by decide), mI_sI_k (by decide), mI_sI]
  · rw [mI_sI_k (by decide), mI_sI]
  · rw [mI_sI]
  · rw [mI_sI_k (by decide), mI_sI_k (by decide), mI_sI_k (by decide), mI_sI_k (by decide), mI_sI_k (by decide), mI_sI]
  · rw [mI_sI_k (by decide), mI_sI_k (by decide), mI_sI_k (by decide), mI_sI_k (by decide), mI_sI]
  · rw [mI_sI_k (by decide), mI_sI_k (by decide), mI_sI_k (by decide), mI_sI]

set_option maxRecDepth 100000 in
set_option maxHeartbeats 4000000 in
theorem C_addTrack {l : Launch} (hl0 : l.stackTraces = false) {D : ZD} {J : Nat → Int64} {lk : ZL} {as : Nat → Nat} {S : ZM} {L T : Nat → Nat} (hR1 : cR D J lk as S L T) (x y : Int32) : zMet l yX4_addTrack (Cond.code yX4_addTrack cX4_addTrack 4 (some .int) :: LWc) ({ frames := 45, cells := 4, slots := 24, locals := 1001 } : Room) 4 24 [zr (some (L 0)), zi x, zi y] S (zPo (fun v S' => 1 ≤ x ∧ x ≤ 999 ∧ 0 ≤ y ∧ y ≤ 5 ∧ dT D < 24 ∧ v = some (zi (nI (dT D))) ∧ cR (chgD (opTrk D x y)) J lk as S' L T) (fun E S' => S' = S ∧ ((¬ (1 ≤ x ∧ x ≤ 999 ∧ 0 ≤ y ∧ y ≤ 5) ∧ E = "java/lang/IllegalArgumentException") ∨ (1 ≤ x ∧ x ≤ 999 ∧ 0 ≤ y ∧ y ≤ 5 ∧ ¬ D 41 0 < 24 ∧ E = "java/lang/IllegalStateException")))) := by
  refine zMet.of' [some (zr (some (L 0))), some (zi x), some (zi y), none] hl0 (by decide) rfl (Nat.le_of_ble_eq_true rfl) rfl ?_
  intro X C N hR hN0 hX F
  subst hX
  obtain ⟨hX0, hV, hK, hU, hQ, hF⟩ := id hR1
  obtain ⟨hS, hT, hG, hRR, hLL, hA, hday, hpl, hO, hAc⟩ := id hX0
  have hRk : mK S (L 0) = 6 := hS.c
  have c41 : D 41 0 = nI (dT D) := hA.1.1.1
  have h24 : dT D ≤ 24 := hA.1.1.2
  refine z_iload_n C rfl dX4_addTrack_0 ?_
  refine z_iconst 1 (by decide) C dX4_addTrack_1 ?_
  refine z_sipush 999 (by decide) C dX4_addTrack_2 ?_
  refine z_callS 3 [zi x, zi 1, zi 999] C (C_needRange hl0 x 1 999) rfl (zgoodS LWc_good wc145 wc146 wc58 wc147) rfl rfl rfl (by decide +kernel) rfl (by rw [hR]; exact ⟨Nat.le_of_ble_eq_true rfl, Nat.le_of_ble_eq_true rfl⟩) (by rw [hR]; exact ⟨Nat.le_of_ble_eq_true rfl, Nat.le_of_ble_eq_true rfl⟩) (Nat.le_of_ble_eq_true rfl) dX4_addTrack_5 (fun v5 S5 h5 => ?_) (fun E5 S5 h5 => ?_)
  · obtain ⟨lo5, hi5, rfl, q5⟩ := h5
    subst S5
    refine z_iload_n C rfl dX4_addTrack_8 ?_
    refine z_iconst 0 (by decide) C dX4_addTrack_9 ?_
    refine z_iconst 5 (by decide) C dX4_addTrack_10 ?_
    refine z_callS 3 [zi y, zi 0, zi 5] C (C_needRange hl0 y 0 5) rfl (zgoodS LWc_good wc145 wc146 wc58 wc147) rfl rfl rfl (by decide +kernel) rfl (by rw [hR]; exact ⟨Nat.le_of_ble_eq_true rfl, Nat.le_of_ble_eq_true rfl⟩) (by rw [hR]; exact ⟨Nat.le_of_ble_eq_true rfl, Nat.le_of_ble_eq_true rfl⟩) (Nat.le_of_ble_eq_true rfl) dX4_addTrack_11 (fun v11 S11 h11 => ?_) (fun E11 S11 h11 => ?_)
    · obtain ⟨lo11, hi11, rfl, q11⟩ := h11
      subst S11
      refine z_aload_n C rfl dX4_addTrack_14 ?_
      refine zg4_tracksAdded C (fun w h => List.mem_cons_of_mem _ (uc_wsX40 w h)) hRk (List.mem_cons_of_mem _ wc39) dX4_addTrack_15 ?_
      refine z_int (x' := nI (dT D)) (hV.1.trans c41) ?_
      refine z_istore_n [_, _, _, _] C (by decide) rfl dX4_addTrack_18 ?_
      refine z_iload_n C rfl dX4_addTrack_19 ?_
      refine z_bipush 24 (by decide) C dX4_addTrack_20 ?_
      refine z_icmp_lt 35 C dX4_addTrack_22 (by decide) (fun c22 => ?_) (fun c22 => ?_)
      · have hlt : dT D < 24 := (nI_ltI (b := 24) (by omega) (by decide)).1 c22
        refine z_aload_n C rfl dX4_addTrack_35 ?_
        refine zg4_allTracks C (fun w h => List.mem_cons_of_mem _ (uc_wsX40 w h)) hRk (List.mem_cons_of_mem _ wc32) dX4_addTrack_36 ?_
        refine z_ref hS.t.1 ?_
        refine z_iload_n C rfl dX4_addTrack_39 ?_
        refine z_new3 C (fun w h => List.mem_cons_of_mem _ (uc_wsX30 w h)) (List.mem_cons_of_mem _ wc31) (List.mem_cons_of_mem _ wc143) (List.mem_cons_of_mem _ wc144) (by rw [hR]; exact Nat.le_of_ble_eq_true rfl) (by rw [hR]; exact Nat.le_of_ble_eq_true rfl) dX4_addTrack_40 (fun a40 f40 => ?_)
        have e0 : ext S (nO S a40 5) := (ext.refl S).nO f40 5
        refine z_dup rfl C dX4_addTrack_43 ?_
        refine z_iload_n C rfl dX4_addTrack_44 ?_
        refine z_iload_n C rfl dX4_addTrack_45 ?_
        refine z_iload_n C rfl dX4_addTrack_46 ?_
        refine z_callI 3 [zi (nI (dT D)), zi x, zi y] C (C_X3_init hl0 (S := nO S a40 5) (a := a40) up1_self (nI (dT D)) x y) rfl (zgoodI LWc_good wc150) rfl rfl rfl (List.mem_cons_of_mem _ wc144) (List.mem_cons_of_mem _ wc148) (List.mem_cons_of_mem _ wc149) rfl (by decide +kernel) rfl (by rw [hR]; exact ⟨Nat.le_of_ble_eq_true rfl, Nat.le_of_ble_eq_true rfl⟩) (by rw [hR]; exact ⟨Nat.le_of_ble_eq_true rfl, Nat.le_of_ble_eq_true rfl⟩) (Nat.le_of_ble_eq_true rfl) dX4_addTrack_47 (fun v47 S47 h47 => ?_) (fun E47 S47 h47 => ?_)
        · obtain ⟨rfl, q47⟩ := h47
          have e1 : ext S S47 := by rw [q47]; exact (((((e0.sI f40 _).sI f40 _).sI f40 _).sI f40 _).sI f40 _).sI f40 _
          have hRx := hR1.ext e1
          have hRk : mK S47 (L 0) = 6 := hRx.1.1.c
          have kx : mK S47 a40 = 5 := by rw [q47]; exact up1_self
          obtain ⟨i16, i17, i18, i19, i20, i21⟩ : mI S47 16 a40 = nI (dT D) ∧ mI S47 17 a40 = x ∧ mI S47 18 a40 = y ∧ mI S47 19 a40 = 0 ∧ mI S47 20 a40 = -1 ∧ mI S47 21 a40 = 0 := by rw [q47]; exact trS_f
          obtain ⟨g1, g2, g3, g4, g5, g6⟩ := hRx.addTrk hlt kx i16 i17 i18 i19 i20 i21 lo5 hi5 lo11 hi11
          refine z_aastore_3 C hRx.1.1.t.2.1 (fun v hv => by cases hv; exact kx) (by rw [hRx.1.1.t.2.2]; exact vp_in_nI hlt (by decide)) dX4_addTrack_50 ?_
          refine z_mem (S' := eQ S47 (L 1) (dT D) (some a40)) (by rw [nI_clamp (by omega)]) ?_
          refine z_aload_n C rfl dX4_addTrack_51 ?_
          refine z_dup rfl C dX4_addTrack_52 ?_
          refine zg4_tracksAdded C (fun w h => List.mem_cons_of_mem _ (uc_wsX40 w h)) hRk (List.mem_cons_of_mem _ wc39) dX4_addTrack_53 ?_
          refine z_int (x' := D 41 0) hRx.2.1.1 ?_
          refine z_iconst 1 (by decide) C dX4_addTrack_56 ?_
          refine z_iadd C dX4_addTrack_57 ?_
          refine zp4_tracksAdded C (fun w h => List.mem_cons_of_mem _ (uc_wsX40 w h)) hRk (List.mem_cons_of_mem _ wc39) dX4_addTrack_58 ?_
          refine z_aload_n C rfl dX4_addTrack_61 ?_
          refine z_dup rfl C dX4_addTrack_62 ?_
          refine zg4_tracksLeft C (fun w h => List.mem_cons_of_mem _ (uc_wsX40 w h)) hRk (List.mem_cons_of_mem _ wc40) dX4_addTrack_63 ?_
          refine z_int (x' := nI (cnF (prD D) 24)) ((mI_sI_k (by decide)).trans hRx.2.1.2.1) ?_
          refine z_iconst 1 (by decide) C dX4_addTrack_66 ?_
          refine z_iadd C dX4_addTrack_67 ?_
          refine zp4_tracksLeft C (fun w h => List.mem_cons_of_mem _ (uc_wsX40 w h)) hRk (List.mem_cons_of_mem _ wc40) dX4_addTrack_68 ?_
          refine z_aload_n C rfl dX4_addTrack_71 ?_
          refine z_callC 0 [] C rfl (C_update hl0 g1) rfl (zgoodV LWc_good wc151 wc152 wc153 wc58 wc154) rfl rfl rfl (by decide +kernel) rfl (by rw [hR]; exact ⟨Nat.le_of_ble_eq_true rfl, Nat.le_of_ble_eq_true rfl⟩) hRk (by rw [hR]; exact ⟨Nat.le_of_ble_eq_true rfl, Nat.le_of_ble_eq_true rfl⟩) (Nat.le_of_ble_eq_true rfl) dX4_addTrack_72 (fun v72 S72 h72 => ?_) (fun E72 S72 h72 => ?_)
          · obtain ⟨rfl, A1, q72⟩ := h72
            subst S72
            refine z_iload_n C rfl dX4_addTrack_75 ?_
            refine z_ireturn C F (Nat.le_of_ble_eq_true rfl) (Nat.le_of_ble_eq_true rfl) dX4_addTrack_76 ?_
            exact ⟨lo5, hi5, lo11, hi11, hlt, rfl, cR.up g1 g2 g3 g4 g5 g6 A1⟩
          · exact h72.elim
        · exact h47.elim
      · refine z_throwS (text := "no more tracks can be added") ["java/lang/RuntimeException", "java/lang/Exception"] C F N (by decide +kernel) (by decide +kernel) (List.mem_cons_of_mem _ wc141) (List.mem_cons_of_mem _ wc142) (by decide +kernel) (fun w h => List.mem_cons_of_mem _ (ac_1 w h)) bc_1 (by decide) (by decide +kernel) dX4_addTrack_25 dX4_addTrack_28 dX4_addTrack_29 dX4_addTrack_31 dX4_addTrack_34 (by rw [hR]; exact Nat.le_of_ble_eq_true rfl) (by rw [hR]; exact Nat.le_of_ble_eq_true rfl) (by rw [hR]; exact Nat.le_of_ble_eq_true rfl) (by rw [hR]; exact Nat.le_of_ble_eq_true rfl) (Nat.le_of_ble_eq_true rfl) (Nat.le_of_ble_eq_true rfl) ?_
        exact ⟨rfl, Or.inr ⟨lo5, hi5, lo11, hi11, fun q => c22 (by rw [c41] at q; exact q), rfl⟩⟩
    · obtain ⟨e11, rfl, q11⟩ := h11
      subst S11
      exact z_out C F N (Nat.le_of_ble_eq_true rfl) (Nat.le_of_ble_eq_true rfl) ⟨rfl, Or.inl ⟨fun q => e11 ⟨q.2.2.1, q.2.2.2⟩, rfl⟩⟩
  · obtain ⟨e5, rfl, q5⟩ := h5
    subst S5
    exact z_out C F N (Nat.le_of_ble_eq_true rfl) (Nat.le_of_ble_eq_true rfl) ⟨rfl, Or.inl ⟨fun q => e5 ⟨q.1, q.2.1⟩, rfl⟩⟩
