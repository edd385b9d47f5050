/-! the class: setRule -/
set_option maxRecDepth 100000 in
set_option maxHeartbeats 4000000 in
theorem C_setRule {l : Launch} (hl0 : l.stackTraces = false) {D : ZD} {J : Nat → Int64} {lk : ZL} {as : Nat → Nat} {S : ZM} {L T : Nat → Nat} (hR1 : cR D J lk as S L T) (x y : Int32) : zMet l yX4_setRule (Cond.code yX4_setRule cX4_setRule 6 (some .int) :: LWc) ({ frames := 45, cells := 3, slots := 18, locals := 1001 } : Room) 3 18 [zr (some (L 0)), zi x, zi y] S (zPo (fun v S' => ∃ i r : Nat, i < 8 ∧ i < dL D ∧ x = nI i ∧ r < 40 ∧ r < dR D ∧ y = nI r ∧ hasB (wlO (lsO D) 8 (lsD D r)) (nI i) = false ∧ v = some (zi (D 58 i)) ∧ cR (chgD (opSet D i y)) J lk as S' L T) (fun E S' => S' = S ∧ ((¬ (hasLs D x ∧ hasRl D y) ∧ E = "java/util/NoSuchElementException") ∨ (∃ i r : Nat, i < 8 ∧ i < dL D ∧ x = nI i ∧ r < 40 ∧ r < dR D ∧ y = nI r ∧ hasB (wlO (lsO D) 8 (lsD D r)) (nI i) = true ∧ E = "java/lang/UnsupportedOperationException")))) := by
  refine zMet.of' [some (zr (some (L 0))), some (zi x), some (zi y), none, none, none] hl0 (by decide) rfl (Nat.le_of_ble_eq_true rfl) rfl ?_
  intro X C N hR hN0 hX F
  subst hX
  obtain ⟨hX0, hV, hK, hU, hQ, hF⟩ := id hR1
  obtain ⟨hS, hT, hG, hRR, hLL, hA, hday, hpl, hO, hAc⟩ := id hX0
  refine z_aload_n C rfl dX4_setRule_0 ?_
  refine z_iload_n C rfl dX4_setRule_1 ?_
  refine z_callC 1 [zi x] C rfl (C_needList hl0 hS x) rfl (zgoodV LWc_good wc203 wc204 wc205 wc58 wc206) rfl rfl rfl (by decide +kernel) rfl (by rw [hR]; exact ⟨Nat.le_of_ble_eq_true rfl, Nat.le_of_ble_eq_true rfl⟩) hS.c (by rw [hR]; exact ⟨Nat.le_of_ble_eq_true rfl, Nat.le_of_ble_eq_true rfl⟩) (Nat.le_of_ble_eq_true rfl) dX4_setRule_2 (fun v2 S2 h2 => ?_) (fun E2 S2 h2 => ?_)
  · obtain ⟨l9, e2, rfl, q2⟩ := h2
    subst S2
    obtain ⟨i, rr, hi2, hl2, ex2, ea2, k2_2, m0_2, er2, n1_2, n2_2⟩ := tL_some hLL e2
    refine z_astore_n [_, _, _, _, _, _] C (by decide) rfl dX4_setRule_5 ?_
    refine z_aload_n C rfl dX4_setRule_6 ?_
    refine z_iload_n C rfl dX4_setRule_7 ?_
    refine z_callC 1 [zi y] C rfl (C_needRule hl0 hS y) rfl (zgoodV LWc_good wc207 wc208 wc209 wc58 wc210) rfl rfl rfl (by decide +kernel) rfl (by rw [hR]; exact ⟨Nat.le_of_ble_eq_true rfl, Nat.le_of_ble_eq_true rfl⟩) hS.c (by rw [hR]; exact ⟨Nat.le_of_ble_eq_true rfl, Nat.le_of_ble_eq_true rfl⟩) (Nat.le_of_ble_eq_true rfl) dX4_setRule_8 (fun v8 S8 h8 => ?_) (fun E8 S8 h8 => ?_)
    · obtain ⟨r9, e8, rfl, q8⟩ := h8
      subst S8
      obtain ⟨r, hr8, hl8, ex8, ea8, k3_8, n3_8, n8_8, n9_8⟩ := tR_some hRR e8
      refine z_astore [_, _, _, _, _, _] C (by decide) rfl dX4_setRule_11 ?_
      refine z_aload_n C rfl dX4_setRule_13 ?_
      refine z_aload C rfl dX4_setRule_14 ?_
      refine zg1_listSet C (fun w h => List.mem_cons_of_mem _ (uc_wsX10 w h)) k3_8 (List.mem_cons_of_mem _ wc124) dX4_setRule_16 ?_
      refine z_int n9_8 ?_
      refine z_callC 1 [zi (lsD D r)] C rfl (C_withListsBehind hl0 hS hX0.cLr (lsD D r)) rfl (zgoodV LWc_good wc219 wc220 wc221 wc58 wc222) rfl rfl rfl (by decide +kernel) rfl (by rw [hR]; exact ⟨Nat.le_of_ble_eq_true rfl, Nat.le_of_ble_eq_true rfl⟩) hS.c (by rw [hR]; exact ⟨Nat.le_of_ble_eq_true rfl, Nat.le_of_ble_eq_true rfl⟩) (Nat.le_of_ble_eq_true rfl) dX4_setRule_19 (fun v19 S19 h19 => ?_) (fun E19 S19 h19 => ?_)
      · obtain ⟨rfl, q19⟩ := h19
        subst S19
        refine z_int (wlO_cong (fun i hi => hX0.lso hi) 8 _) ?_
        refine z_iload_n C rfl dX4_setRule_22 ?_
        refine z_callS 2 [zi (wlO (lsO D) 8 (lsD D r)), zi x] C (C_hasBit hl0 (wlO (lsO D) 8 (lsD D r)) x) rfl (zgoodS LWc_good wc102 wc103 wc58 wc104) rfl rfl rfl (by decide +kernel) rfl (by rw [hR]; exact ⟨Nat.le_of_ble_eq_true rfl, Nat.le_of_ble_eq_true rfl⟩) (by rw [hR]; exact ⟨Nat.le_of_ble_eq_true rfl, Nat.le_of_ble_eq_true rfl⟩) (Nat.le_of_ble_eq_true rfl) dX4_setRule_23 (fun v23 S23 h23 => ?_) (fun E23 S23 h23 => ?_)
        · obtain ⟨rfl, q23⟩ := h23
          subst S23
          refine z_if_eq 39 C dX4_setRule_26 (by decide) (fun c26 => ?_) (fun c26 => ?_)
          · have hB : hasB (wlO (lsO D) 8 (lsD D r)) (nI i) = false := by rw [← ex2]; exact bI_eq.mp c26
            obtain ⟨-, -, -, kx3, -, hx3⟩ := hX0.rule hl2 er2
            obtain ⟨g1, g2, g3, g4, g5, g6⟩ := hR1.setR (x := y) hl2 ea2 hl8 ex8 ea8 hB
            refine z_aload_n C rfl dX4_setRule_39 ?_
            refine zg0_rule C (fun w h => List.mem_cons_of_mem _ (uc_wsX00 w h)) k2_2 (List.mem_cons_of_mem _ wc108) dX4_setRule_40 ?_
            refine z_ref m0_2 ?_
            refine zg1_number C (fun w h => List.mem_cons_of_mem _ (uc_wsX10 w h)) kx3 (List.mem_cons_of_mem _ wc195) dX4_setRule_43 ?_
            refine z_int hx3 ?_
            refine z_istore [_, _, _, _, _, _] C (by decide) rfl dX4_setRule_46 ?_
            refine z_aload_n C rfl dX4_setRule_48 ?_
            refine z_aload C rfl dX4_setRule_49 ?_
            refine zp0_rule C (fun w h => List.mem_cons_of_mem _ (uc_wsX00 w h)) k2_2 (List.mem_cons_of_mem _ wc108) dX4_setRule_51 ?_
            refine z_aload_n C rfl dX4_setRule_54 ?_
            refine z_callC 0 [] C rfl (C_update hl0 g1) rfl (zgoodV LWc_good wc151 wc152 wc153 wc58 wc154) rfl rfl rfl (by decide +kernel) rfl (by rw [hR]; exact ⟨Nat.le_of_ble_eq_true rfl, Nat.le_of_ble_eq_true rfl⟩) hS.c (by rw [hR]; exact ⟨Nat.le_of_ble_eq_true rfl, Nat.le_of_ble_eq_true rfl⟩) (Nat.le_of_ble_eq_true rfl) dX4_setRule_55 (fun v55 S55 h55 => ?_) (fun E55 S55 h55 => ?_)
            · obtain ⟨rfl, A1, q55⟩ := h55
              subst S55
              refine z_iload C rfl dX4_setRule_58 ?_
              refine z_ireturn C F (Nat.le_of_ble_eq_true rfl) (Nat.le_of_ble_eq_true rfl) dX4_setRule_60 ?_
              exact ⟨i, r, hi2, hl2, ex2, hr8, hl8, ex8, hB, rfl, cR.up g1 g2 g3 g4 g5 g6 A1⟩
            · exact h55.elim
          · refine z_throwS (text := "the list would depend on itself") ["java/lang/RuntimeException", "java/lang/Exception"] C F N (by decide +kernel) (by decide +kernel) (List.mem_cons_of_mem _ wc181) (List.mem_cons_of_mem _ wc182) (by decide +kernel) (fun w h => List.mem_cons_of_mem _ (ac_3 w h)) bc_3 (by decide) (by decide +kernel) dX4_setRule_29 dX4_setRule_32 dX4_setRule_33 dX4_setRule_35 dX4_setRule_38 (by rw [hR]; exact Nat.le_of_ble_eq_true rfl) (by rw [hR]; exact Nat.le_of_ble_eq_true rfl) (by rw [hR]; exact Nat.le_of_ble_eq_true rfl) (by rw [hR]; exact Nat.le_of_ble_eq_true rfl) (Nat.le_of_ble_eq_true rfl) (Nat.le_of_ble_eq_true rfl) ?_
            exact ⟨rfl, Or.inr ⟨i, r, hi2, hl2, ex2, hr8, hl8, ex8, by rw [← ex2]; exact bI_ne.mp c26, rfl⟩⟩
        · exact h23.elim
      · exact h19.elim
    · obtain ⟨e8, rfl, q8⟩ := h8
      subst S8
      exact z_out C F N (Nat.le_of_ble_eq_true rfl) (Nat.le_of_ble_eq_true rfl) ⟨rfl, Or.inl ⟨fun q => tR_none hRR e8 q.2, rfl⟩⟩
  · obtain ⟨e2, rfl, q2⟩ := h2
    subst S2
    exact z_out C F N (Nat.le_of_ble_eq_true rfl) (Nat.le_of_ble_eq_true rfl) ⟨rfl, Or.inl ⟨fun q => tL_none hLL e2 q.1, rfl⟩⟩
