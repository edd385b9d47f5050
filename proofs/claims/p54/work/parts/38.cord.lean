/-! the class: orders, limits, letters asked -/
theorem ord_narrow {o : Int32} (h : o = 115 ∨ o = 114 ∨ o = 112 ∨ o = 110) : narrow .char (.int o) = .int o ∧ fits .char (.int o) = true := by
  rcases h with rfl | rfl | rfl | rfl
  · exact pk_charN (q := 115) (by decide)
  · exact pk_charN (q := 114) (by decide)
  · exact pk_charN (q := 112) (by decide)
  · exact pk_charN (q := 110) (by decide)

set_option maxRecDepth 100000 in
set_option maxHeartbeats 4000000 in
theorem C_setOrder {l : Launch} (hl0 : l.stackTraces = false) {D : ZD} {J : Nat → Int64} {lk : ZL} {as : Nat → Nat} {S : ZM} {L T : Nat → Nat} (hR1 : cR D J lk as S L T) (x o : Int32) : zMet l yX4_setOrder (Cond.code yX4_setOrder cX4_setOrder 5 (some .char) :: LWc) ({ frames := 45, cells := 2, slots := 12, locals := 1001 } : Room) 2 12 [zr (some (L 0)), zi x, zi o] S (zPo (fun v S' => ∃ i : Nat, i < 8 ∧ i < dL D ∧ x = nI i ∧ (o = 115 ∨ o = 114 ∨ o = 112 ∨ o = 110) ∧ v = some (zi (D 59 i)) ∧ cR (chgD (opOrd D i o)) J lk as S' L T) (fun E S' => S' = S ∧ ((¬ hasLs D x ∧ E = "java/util/NoSuchElementException") ∨ (hasLs D x ∧ ¬ (o = 115 ∨ o = 114 ∨ o = 112 ∨ o = 110) ∧ E = "java/lang/IllegalArgumentException")))) := by
  refine zMet.of' [some (zr (some (L 0))), some (zi x), some (zi o), none, none] hl0 (by decide) rfl (Nat.le_of_ble_eq_true rfl) rfl ?_
  intro X C N hR hN0 hX F
  subst hX
  obtain ⟨hX0, hV, hK, hU, hQ, hF⟩ := id hR1
  obtain ⟨hS, hT, hG, hRR, hLL, hA, hday, hpl, hO, hAc⟩ := id hX0
  refine z_aload_n C rfl dX4_setOrder_0 ?_
  refine z_iload_n C rfl dX4_setOrder_1 ?_
  refine z_callC 1 [zi x] C rfl (C_needList hl0 hS x) rfl (zgoodV LWc_good wc203 wc204 wc205 wc58 wc206) rfl rfl rfl (by decide +kernel) rfl (by rw [hR]; exact ⟨Nat.le_of_ble_eq_true rfl, Nat.le_of_ble_eq_true rfl⟩) hS.c (by rw [hR]; exact ⟨Nat.le_of_ble_eq_true rfl, Nat.le_of_ble_eq_true rfl⟩) (Nat.le_of_ble_eq_true rfl) dX4_setOrder_2 (fun v2 S2 h2 => ?_) (fun E2 S2 h2 => ?_)
  · obtain ⟨l9, e2, rfl, q2⟩ := h2
    subst S2
    obtain ⟨i, rr, hi2, hl2, ex2, ea2, k2_2, m0_2, er2, n1_2, n2_2⟩ := tL_some hLL e2
    refine z_astore_n [_, _, _, _, _] C (by decide) rfl dX4_setOrder_5 ?_
    refine z_iload_n C rfl dX4_setOrder_6 ?_
    refine z_callS 1 [zi o] C (C_needOrder hl0 o) rfl (zgoodS LWc_good wc213 wc214 wc58 wc215) rfl rfl rfl (by decide +kernel) rfl (by rw [hR]; exact ⟨Nat.le_of_ble_eq_true rfl, Nat.le_of_ble_eq_true rfl⟩) (by rw [hR]; exact ⟨Nat.le_of_ble_eq_true rfl, Nat.le_of_ble_eq_true rfl⟩) (Nat.le_of_ble_eq_true rfl) dX4_setOrder_7 (fun v7 S7 h7 => ?_) (fun E7 S7 h7 => ?_)
    · obtain ⟨ho, rfl, q7⟩ := h7
      subst S7
      refine z_aload_n C rfl dX4_setOrder_10 ?_
      refine zg0_order C (fun w h => List.mem_cons_of_mem _ (uc_wsX00 w h)) k2_2 (List.mem_cons_of_mem _ wc109) dX4_setOrder_11 ?_
      refine z_int n1_2 ?_
      refine z_istore [_, _, _, _, _] C (by decide) rfl dX4_setOrder_14 ?_
      refine z_aload_n C rfl dX4_setOrder_16 ?_
      refine z_iload_n C rfl dX4_setOrder_17 ?_
      refine zp0_order C (fun w h => List.mem_cons_of_mem _ (uc_wsX00 w h)) k2_2 (ord_narrow ho).1 (ord_narrow ho).2 (List.mem_cons_of_mem _ wc109) dX4_setOrder_18 ?_
      obtain ⟨g1, g2, g3, g4, g5, g6⟩ := hR1.ord hl2 ea2 n2_2 ho
      refine z_aload_n C rfl dX4_setOrder_21 ?_
      refine z_callC 0 [] C rfl (C_update hl0 g1) rfl (zgoodV LWc_good wc151 wc152 wc153 wc58 wc154) rfl rfl rfl (by decide +kernel) rfl (by rw [hR]; exact ⟨Nat.le_of_ble_eq_true rfl, Nat.le_of_ble_eq_true rfl⟩) hS.c (by rw [hR]; exact ⟨Nat.le_of_ble_eq_true rfl, Nat.le_of_ble_eq_true rfl⟩) (Nat.le_of_ble_eq_true rfl) dX4_setOrder_22 (fun v22 S22 h22 => ?_) (fun E22 S22 h22 => ?_)
      · obtain ⟨rfl, A1, q22⟩ := h22
        subst S22
        refine z_iload C rfl dX4_setOrder_25 ?_
        refine z_zreturn C F (Nat.le_of_ble_eq_true rfl) (Nat.le_of_ble_eq_true rfl) (ord_narrow (hQ.2.2.2.2.2.1.2.2 i hl2)).1 dX4_setOrder_27 ?_
        exact ⟨i, hi2, hl2, ex2, ho, rfl, cR.up g1 g2 g3 g4 g5 g6 A1⟩
      · exact h22.elim
    · obtain ⟨e7, rfl, q7⟩ := h7
      subst S7
      exact z_out C F N (Nat.le_of_ble_eq_true rfl) (Nat.le_of_ble_eq_true rfl) ⟨rfl, Or.inr ⟨⟨i, hi2, hl2, ex2⟩, e7, rfl⟩⟩
  · obtain ⟨e2, rfl, q2⟩ := h2
    subst S2
    exact z_out C F N (Nat.le_of_ble_eq_true rfl) (Nat.le_of_ble_eq_true rfl) ⟨rfl, Or.inl ⟨tL_none hLL e2, rfl⟩⟩
set_option maxRecDepth 100000 in
set_option maxHeartbeats 4000000 in
theorem C_setLimit {l : Launch} (hl0 : l.stackTraces = false) {D : ZD} {J : Nat → Int64} {lk : ZL} {as : Nat → Nat} {S : ZM} {L T : Nat → Nat} (hR1 : cR D J lk as S L T) (x y : Int32) : zMet l yX4_setLimit (Cond.code yX4_setLimit cX4_setLimit 5 (some .int) :: LWc) ({ frames := 45, cells := 2, slots := 12, locals := 1001 } : Room) 2 12 [zr (some (L 0)), zi x, zi y] S (zPo (fun v S' => ∃ i : Nat, i < 8 ∧ i < dL D ∧ x = nI i ∧ 0 ≤ y ∧ y ≤ 9999 ∧ v = some (zi (D 60 i)) ∧ cR (chgD (opLim D i y)) J lk as S' L T) (fun E S' => S' = S ∧ ((¬ hasLs D x ∧ E = "java/util/NoSuchElementException") ∨ (hasLs D x ∧ ¬ (0 ≤ y ∧ y ≤ 9999) ∧ E = "java/lang/IllegalArgumentException")))) := by
  refine zMet.of' [some (zr (some (L 0))), some (zi x), some (zi y), none, none] hl0 (by decide) rfl (Nat.le_of_ble_eq_true rfl) rfl ?_
  intro X C N hR hN0 hX F
  subst hX
  obtain ⟨hX0, hV, hK, hU, hQ, hF⟩ := id hR1
  obtain ⟨hS, hT, hG, hRR, hLL, hA, hday, hpl, hO, hAc⟩ := id hX0
  refine z_aload_n C rfl dX4_setLimit_0 ?_
  refine z_iload_n C rfl dX4_setLimit_1 ?_
  refine z_callC 1 [zi x] C rfl (C_needList hl0 hS x) rfl (zgoodV LWc_good wc203 wc204 wc205 wc58 wc206) rfl rfl rfl (by decide +kernel) rfl (by rw [hR]; exact ⟨Nat.le_of_ble_eq_true rfl, Nat.le_of_ble_eq_true rfl⟩) hS.c (by rw [hR]; exact ⟨Nat.le_of_ble_eq_true rfl, Nat.le_of_ble_eq_true rfl⟩) (Nat.le_of_ble_eq_true rfl) dX4_setLimit_2 (fun v2 S2 h2 => ?_) (fun E2 S2 h2 => ?_)
  · obtain ⟨l9, e2, rfl, q2⟩ := h2
    subst S2
    obtain ⟨i, rr, hi2, hl2, ex2, ea2, k2_2, m0_2, er2, n1_2, n2_2⟩ := tL_some hLL e2
    refine z_astore_n [_, _, _, _, _] C (by decide) rfl dX4_setLimit_5 ?_
    refine z_iload_n C rfl dX4_setLimit_6 ?_
    refine z_iconst 0 (by decide) C dX4_setLimit_7 ?_
    refine z_sipush 9999 (by decide) C dX4_setLimit_8 ?_
    refine z_callS 3 [zi y, zi 0, zi 9999] C (C_needRange hl0 y 0 9999) rfl (zgoodS LWc_good wc145 wc146 wc58 wc147) rfl rfl rfl (by decide +kernel) rfl (by rw [hR]; exact ⟨Nat.le_of_ble_eq_true rfl, Nat.le_of_ble_eq_true rfl⟩) (by rw [hR]; exact ⟨Nat.le_of_ble_eq_true rfl, Nat.le_of_ble_eq_true rfl⟩) (Nat.le_of_ble_eq_true rfl) dX4_setLimit_11 (fun v11 S11 h11 => ?_) (fun E11 S11 h11 => ?_)
    · obtain ⟨lo11, hi11, rfl, q11⟩ := h11
      subst S11
      refine z_aload_n C rfl dX4_setLimit_14 ?_
      refine zg0_limit C (fun w h => List.mem_cons_of_mem _ (uc_wsX00 w h)) k2_2 (List.mem_cons_of_mem _ wc110) dX4_setLimit_15 ?_
      refine z_int n2_2 ?_
      refine z_istore [_, _, _, _, _] C (by decide) rfl dX4_setLimit_18 ?_
      refine z_aload_n C rfl dX4_setLimit_20 ?_
      refine z_iload_n C rfl dX4_setLimit_21 ?_
      refine zp0_limit C (fun w h => List.mem_cons_of_mem _ (uc_wsX00 w h)) k2_2 (List.mem_cons_of_mem _ wc110) dX4_setLimit_22 ?_
      obtain ⟨g1, g2, g3, g4, g5, g6⟩ := hR1.lim hl2 ea2 n1_2 y
      refine z_aload_n C rfl dX4_setLimit_25 ?_
      refine z_callC 0 [] C rfl (C_update hl0 g1) rfl (zgoodV LWc_good wc151 wc152 wc153 wc58 wc154) rfl rfl rfl (by decide +kernel) rfl (by rw [hR]; exact ⟨Nat.le_of_ble_eq_true rfl, Nat.le_of_ble_eq_true rfl⟩) hS.c (by rw [hR]; exact ⟨Nat.le_of_ble_eq_true rfl, Nat.le_of_ble_eq_true rfl⟩) (Nat.le_of_ble_eq_true rfl) dX4_setLimit_26 (fun v26 S26 h26 => ?_) (fun E26 S26 h26 => ?_)
      · obtain ⟨rfl, A1, q26⟩ := h26
        subst S26
        refine z_iload C rfl dX4_setLimit_29 ?_
        refine z_ireturn C F (Nat.le_of_ble_eq_true rfl) (Nat.le_of_ble_eq_true rfl) dX4_setLimit_31 ?_
        exact ⟨i, hi2, hl2, ex2, lo11, hi11, rfl, cR.up g1 g2 g3 g4 g5 g6 A1⟩
      · exact h26.elim
    · obtain ⟨e11, rfl, q11⟩ := h11
      subst S11
      exact z_out C F N (Nat.le_of_ble_eq_true rfl) (Nat.le_of_ble_eq_true rfl) ⟨rfl, Or.inr ⟨⟨i, hi2, hl2, ex2⟩, e11, rfl⟩⟩
  · obtain ⟨e2, rfl, q2⟩ := h2
    subst S2
    exact z_out C F N (Nat.le_of_ble_eq_true rfl) (Nat.le_of_ble_eq_true rfl) ⟨rfl, Or.inl ⟨tL_none hLL e2, rfl⟩⟩
set_option maxRecDepth 100000 in
set_option maxHeartbeats 4000000 in
theorem C_nameAt {l : Launch} (hl0 : l.stackTraces = false) {D : ZD} {J : Nat → Int64} {lk : ZL} {as : Nat → Nat} {S : ZM} {L T : Nat → Nat} (hR1 : cR D J lk as S L T) (x y : Int32) : zMet l yX4_nameAt (Cond.code yX4_nameAt cX4_nameAt 4 (some .char) :: LWc) ({ frames := 7, cells := 2, slots := 12, locals := 108 } : Room) 2 12 [zr (some (L 0)), zi x, zi y] S (zPo (fun v S' => ∃ g : Nat, g < 16 ∧ g < dG D ∧ x = nI g ∧ D 51 g = 0 ∧ ¬ y < 0 ∧ y < D 49 g ∧ v = some (zi (D 50 (6 * g + ix y))) ∧ S' = S) (fun E S' => S' = S ∧ ((¬ hasTg D x ∧ E = "java/util/NoSuchElementException") ∨ (∃ g : Nat, g < 16 ∧ g < dG D ∧ x = nI g ∧ D 51 g = 0 ∧ ¬ (¬ y < 0 ∧ y < D 49 g) ∧ E = "java/lang/IndexOutOfBoundsException")))) := by
  refine zMet.of' [some (zr (some (L 0))), some (zi x), some (zi y), none] hl0 (by decide) rfl (Nat.le_of_ble_eq_true rfl) rfl ?_
  intro X C N hR hN0 hX F
  subst hX
  obtain ⟨hX0, hV, hK, hU, hQ, hF⟩ := id hR1
  obtain ⟨hS, hT, hG, hRR, hLL, hA, hday, hpl, hO, hAc⟩ := id hX0
  refine z_aload_n C rfl dX4_nameAt_0 ?_
  refine z_iload_n C rfl dX4_nameAt_1 ?_
  refine z_callC 1 [zi x] C rfl (C_needTag hl0 hS hG.k x) rfl (zgoodV LWc_good wc168 wc169 wc170 wc58 wc171) rfl rfl rfl (by decide +kernel) rfl (by rw [hR]; exact ⟨Nat.le_of_ble_eq_true rfl, Nat.le_of_ble_eq_true rfl⟩) hS.c (by rw [hR]; exact ⟨Nat.le_of_ble_eq_true rfl, Nat.le_of_ble_eq_true rfl⟩) (Nat.le_of_ble_eq_true rfl) dX4_nameAt_2 (fun v2 S2 h2 => ?_) (fun E2 S2 h2 => ?_)
  · obtain ⟨b9, e2, z2, rfl, q2⟩ := h2
    subst S2
    obtain ⟨g, hg2, hgG2, ex2, h51_2, hl2, ea2, k4_2, n10_2⟩ := tG_some hR1 e2 z2
    obtain ⟨⟨-, hle, h6, nm, enm, knm, lnm, fnm⟩, h49⟩ := rG.tg hR1 hgG2 ea2
    obtain ⟨n, en, hn6, -, hch⟩ := hQ.2.2.1 g hg2
    have hix : ix (D 49 g) = n := by rw [en, ix]; exact nI_clamp (by omega)
    refine z_astore_n [_, _, _, _] C (by decide) rfl dX4_nameAt_5 ?_
    refine z_iload_n C rfl dX4_nameAt_6 ?_
    refine z_if_lt 18 C dX4_nameAt_7 (by decide) (fun c7 => ?_) (fun c7 => ?_)
    · refine z_throwS (text := "the name has no such letter") ["java/lang/RuntimeException", "java/lang/Exception"] C F N (by decide +kernel) (by decide +kernel) (List.mem_cons_of_mem _ wc223) (List.mem_cons_of_mem _ wc224) (by decide +kernel) (fun w h => List.mem_cons_of_mem _ (ac_4 w h)) bc_4 (by decide) (by decide +kernel) dX4_nameAt_18 dX4_nameAt_21 dX4_nameAt_22 dX4_nameAt_24 dX4_nameAt_27 (by rw [hR]; exact Nat.le_of_ble_eq_true rfl) (by rw [hR]; exact Nat.le_of_ble_eq_true rfl) (by rw [hR]; exact Nat.le_of_ble_eq_true rfl) (by rw [hR]; exact Nat.le_of_ble_eq_true rfl) (Nat.le_of_ble_eq_true rfl) (Nat.le_of_ble_eq_true rfl) ?_
      first | exact ⟨rfl, Or.inr ⟨g, hg2, hgG2, ex2, h51_2, fun q => q.1 c7, rfl⟩⟩ | exact ⟨rfl, Or.inr ⟨g, hg2, hgG2, ex2, h51_2, fun q => c15 q.2, rfl⟩⟩
    · refine z_iload_n C rfl dX4_nameAt_10 ?_
      refine z_aload_n C rfl dX4_nameAt_11 ?_
      refine zg2_letters C (fun w h => List.mem_cons_of_mem _ (uc_wsX20 w h)) k4_2 (List.mem_cons_of_mem _ wc166) dX4_nameAt_12 ?_
      refine z_int (hle.trans h49.symm) ?_
      refine z_icmp_lt 28 C dX4_nameAt_15 (by decide) (fun c15 => ?_) (fun c15 => ?_)
      · obtain ⟨j, hj, ej⟩ : ∃ j : Nat, j < n ∧ y = nI j := by
          obtain ⟨j, hj, rfl⟩ := nI_of c7
          rw [en] at c15
          exact ⟨j, (nI_ltI hj (by omega)).1 c15, rfl⟩
        have hiy : ix y = j := by rw [ej, ix]; exact nI_clamp (by omega)
        have hjn : ix y < ix (D 49 g) := by omega
        refine z_aload_n C rfl dX4_nameAt_28 ?_
        refine zg2_name C (fun w h => List.mem_cons_of_mem _ (uc_wsX20 w h)) k4_2 (List.mem_cons_of_mem _ wc167) dX4_nameAt_29 ?_
        refine z_ref enm ?_
        refine z_iload_n C rfl dX4_nameAt_32 ?_
        refine z_caload C knm (by rw [lnm, ej]; exact vp_in_nI (by omega) (by decide)) dX4_nameAt_33 ?_
        refine z_int (x' := D 50 (6 * g + ix y)) (fnm _ hjn) ?_
        refine z_zreturn C F (Nat.le_of_ble_eq_true rfl) (Nat.le_of_ble_eq_true rfl) (by obtain ⟨c, ec, hc⟩ := hch j hj; rw [hiy, ec]; exact (pk_charN hc).1) dX4_nameAt_34 ?_
        exact ⟨g, hg2, hgG2, ex2, h51_2, c7, c15, rfl, rfl⟩
      · refine z_throwS (text := "the name has no such letter") ["java/lang/RuntimeException", "java/lang/Exception"] C F N (by decide +kernel) (by decide +kernel) (List.mem_cons_of_mem _ wc223) (List.mem_cons_of_mem _ wc224) (by decide +kernel) (fun w h => List.mem_cons_of_mem _ (ac_4 w h)) bc_4 (by decide) (by decide +kernel) dX4_nameAt_18 dX4_nameAt_21 dX4_nameAt_22 dX4_nameAt_24 dX4_nameAt_27 (by rw [hR]; exact Nat.le_of_ble_eq_true rfl) (by rw [hR]; exact Nat.le_of_ble_eq_true rfl) (by rw [hR]; exact Nat.le_of_ble_eq_true rfl) (by rw [hR]; exact Nat.le_of_ble_eq_true rfl) (Nat.le_of_ble_eq_true rfl) (Nat.le_of_ble_eq_true rfl) ?_
        first | exact ⟨rfl, Or.inr ⟨g, hg2, hgG2, ex2, h51_2, fun q => q.1 c7, rfl⟩⟩ | exact ⟨rfl, Or.inr ⟨g, hg2, hgG2, ex2, h51_2, fun q => c15 q.2, rfl⟩⟩
  · obtain ⟨e2, rfl, q2⟩ := h2
    subst S2
    exact z_out C F N (Nat.le_of_ble_eq_true rfl) (Nat.le_of_ble_eq_true rfl) ⟨rfl, Or.inl ⟨tG_none hR1 e2, rfl⟩⟩
set_option maxRecDepth 100000 in
set_option maxHeartbeats 4000000 in
theorem C_distanceByTrying {l : Launch} (hl0 : l.stackTraces = false) {D : ZD} {J : Nat → Int64} {lk : ZL} {as : Nat → Nat} {S : ZM} {L T : Nat → Nat} (hR1 : cR D J lk as S L T) (x y : Int32) : zMet l yX4_distanceByTrying (Cond.code yX4_distanceByTrying cX4_distanceByTrying 5 (some .int) :: LWc) ({ frames := 14, cells := 2, slots := 12, locals := 375 } : Room) 2 12 [zr (some (L 0)), zi x, zi y] S (zPo (fun v S' => ∃ g h : Nat, g < 16 ∧ g < dG D ∧ x = nI g ∧ D 51 g = 0 ∧ h < 16 ∧ h < dG D ∧ y = nI h ∧ D 51 h = 0 ∧ v = some (zi (nI (lvD D g h))) ∧ S' = S) (fun E S' => S' = S ∧ ¬ (hasTg D x ∧ hasTg D y) ∧ E = "java/util/NoSuchElementException")) := by
  refine zMet.of' [some (zr (some (L 0))), some (zi x), some (zi y), none, none] hl0 (by decide) rfl (Nat.le_of_ble_eq_true rfl) rfl ?_
  intro X C N hR hN0 hX F
  subst hX
  obtain ⟨hX0, hV, hK, hU, hQ, hF⟩ := id hR1
  obtain ⟨hS, hT, hG, hRR, hLL, hA, hday, hpl, hO, hAc⟩ := id hX0
  refine z_aload_n C rfl dX4_distanceByTrying_0 ?_
  refine z_iload_n C rfl dX4_distanceByTrying_1 ?_
  refine z_callC 1 [zi x] C rfl (C_needTag hl0 hS hG.k x) rfl (zgoodV LWc_good wc168 wc169 wc170 wc58 wc171) rfl rfl rfl (by decide +kernel) rfl (by rw [hR]; exact ⟨Nat.le_of_ble_eq_true rfl, Nat.le_of_ble_eq_true rfl⟩) hS.c (by rw [hR]; exact ⟨Nat.le_of_ble_eq_true rfl, Nat.le_of_ble_eq_true rfl⟩) (Nat.le_of_ble_eq_true rfl) dX4_distanceByTrying_2 (fun v2 S2 h2 => ?_) (fun E2 S2 h2 => ?_)
  · obtain ⟨b9, e2, z2, rfl, q2⟩ := h2
    subst S2
    obtain ⟨g, hg2, hgG2, ex2, h51_2, hl2, ea2, k4_2, n10_2⟩ := tG_some hR1 e2 z2
    refine z_astore_n [_, _, _, _, _] C (by decide) rfl dX4_distanceByTrying_5 ?_
    refine z_aload_n C rfl dX4_distanceByTrying_6 ?_
    refine z_iload_n C rfl dX4_distanceByTrying_7 ?_
    refine z_callC 1 [zi y] C rfl (C_needTag hl0 hS hG.k y) rfl (zgoodV LWc_good wc168 wc169 wc170 wc58 wc171) rfl rfl rfl (by decide +kernel) rfl (by rw [hR]; exact ⟨Nat.le_of_ble_eq_true rfl, Nat.le_of_ble_eq_true rfl⟩) hS.c (by rw [hR]; exact ⟨Nat.le_of_ble_eq_true rfl, Nat.le_of_ble_eq_true rfl⟩) (Nat.le_of_ble_eq_true rfl) dX4_distanceByTrying_8 (fun v8 S8 h8 => ?_) (fun E8 S8 h8 => ?_)
    · obtain ⟨b8, e8, z8, rfl, q8⟩ := h8
      subst S8
      obtain ⟨h, hg8, hgG8, ex8, h51_8, hl8, ea8, k4_8, n10_8⟩ := tG_some hR1 e8 z8
      refine z_astore [_, _, _, _, _] C (by decide) rfl dX4_distanceByTrying_11 ?_
      obtain ⟨tg1, eg1⟩ := rG.tg hR1 hgG2 ea2
      obtain ⟨tg2, eg2⟩ := rG.tg hR1 hgG8 ea8
      have s1 := tg1.2.2.1
      have s2 := tg2.2.2.1
      refine z_aload_n C rfl dX4_distanceByTrying_13 ?_
      refine z_aload_n C rfl dX4_distanceByTrying_14 ?_
      refine zg2_letters C (fun w h => List.mem_cons_of_mem _ (uc_wsX20 w h)) k4_2 (List.mem_cons_of_mem _ wc166) dX4_distanceByTrying_15 ?_
      refine z_int tg1.2.1 ?_
      refine z_aload C rfl dX4_distanceByTrying_18 ?_
      refine z_aload C rfl dX4_distanceByTrying_20 ?_
      refine zg2_letters C (fun w h => List.mem_cons_of_mem _ (uc_wsX20 w h)) k4_8 (List.mem_cons_of_mem _ wc166) dX4_distanceByTrying_22 ?_
      refine z_int tg2.2.1 ?_
      refine z_callS 4 [zr (some b9), zi (nI (ix (D 49 g))), zr (some b8), zi (nI (ix (D 49 h)))] C (C_leastByTrying hl0 tg1 tg2 (ix (D 49 g) + ix (D 49 h) + 1) (ix (D 49 g)) (ix (D 49 h)) (by omega) (Nat.le_refl _) (Nat.le_refl _)) rfl (zgoodS LWc_good wc225 wc226 wc58 wc227) rfl rfl rfl (by decide +kernel) rfl (by rw [hR]; exact ⟨by show 1 + (ix (D 49 g) + ix (D 49 h)) + 1 ≤ 14; omega, by show 8 + (8 + 11) + (24 + 27 * (ix (D 49 g) + ix (D 49 h))) ≤ 375; omega⟩) (by rw [hR]; exact ⟨Nat.le_of_ble_eq_true rfl, Nat.le_of_ble_eq_true rfl⟩) (Nat.le_of_ble_eq_true rfl) dX4_distanceByTrying_25 (fun v25 S25 h25 => ?_) (fun E25 S25 h25 => ?_)
      · obtain ⟨rfl, q25⟩ := h25
        subst S25
        refine z_ireturn C F (Nat.le_of_ble_eq_true rfl) (Nat.le_of_ble_eq_true rfl) dX4_distanceByTrying_28 ?_
        exact ⟨g, h, hg2, hgG2, ex2, h51_2, hg8, hgG8, ex8, h51_8, rfl, rfl⟩
      · exact h25.elim
    · obtain ⟨e8, rfl, q8⟩ := h8
      subst S8
      exact z_out C F N (Nat.le_of_ble_eq_true rfl) (Nat.le_of_ble_eq_true rfl) ⟨rfl, fun q => tG_none hR1 e8 q.2, rfl⟩
  · obtain ⟨e2, rfl, q2⟩ := h2
    subst S2
    exact z_out C F N (Nat.le_of_ble_eq_true rfl) (Nat.le_of_ble_eq_true rfl) ⟨rfl, fun q => tG_none hR1 e2 q.1, rfl⟩
