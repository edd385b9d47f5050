/-! the class: addList -/
theorem crS_f {S : ZM} {a : Nat} {r : Option Nat} {o y : Int32} : mQ (crS S a r o y) 0 a = r ∧ mI (crS S a r o y) 1 a = o ∧ mI (crS S a r o y) 2 a = y := by
  have Q : mQ (crS S a r o y) = up2 S.2.2.1 0 a r := rfl
  have I : mI (crS S a r o y) = up2 (up2 S.2.1 1 a o) 2 a y := rfl
  rw [Q, I]
  exact ⟨up2_self, by rw [up2_k (by decide), up2_self], up2_self⟩

set_option maxRecDepth 100000 in
set_option maxHeartbeats 4000000 in
theorem C_addList {l : Launch} (hl0 : l.stackTraces = false) {D : ZD} {J : Nat → Int64} {lk : ZL} {as : Nat → Nat} {S : ZM} {L T : Nat → Nat} (hR1 : cR D J lk as S L T) (x o y : Int32) : zMet l yX4_addList (Cond.code yX4_addList cX4_addList 6 (some .int) :: LWc) ({ frames := 44, cells := 5, slots := 27, locals := 980 } : Room) 5 27 [zr (some (L 0)), zi x, zi o, zi y] S (zPo (fun v S' => hasRl D x ∧ (o = 115 ∨ o = 114 ∨ o = 112 ∨ o = 110) ∧ 0 ≤ y ∧ y ≤ 9999 ∧ dL D < 8 ∧ v = some (zi (nI (dL D))) ∧ cR (fllD (opLst D x o y)) J lk as S' L T) (fun E S' => S' = S ∧ ((¬ hasRl D x ∧ E = "java/util/NoSuchElementException") ∨ (hasRl D x ∧ ¬ ((o = 115 ∨ o = 114 ∨ o = 112 ∨ o = 110) ∧ 0 ≤ y ∧ y ≤ 9999) ∧ E = "java/lang/IllegalArgumentException") ∨ (hasRl D x ∧ (o = 115 ∨ o = 114 ∨ o = 112 ∨ o = 110) ∧ 0 ≤ y ∧ y ≤ 9999 ∧ ¬ D 57 0 < 8 ∧ E = "java/lang/IllegalStateException")))) := by
  refine zMet.of' [some (zr (some (L 0))), some (zi x), some (zi o), some (zi y), none, none] hl0 (by decide) rfl (Nat.le_of_ble_eq_true rfl) rfl ?_
  intro X C N hR hN0 hX F
  subst hX
  obtain ⟨hX0, hV, hK, hU, hQ, hF⟩ := id hR1
  obtain ⟨hS, hT, hG, hRR, hLL, hA, hday, hpl, hO, hAc⟩ := id hX0
  have hRk : mK S (L 0) = 6 := hS.c
  have c57 : D 57 0 = nI (dL D) := hA.1.2.2.2.1
  have h8L : dL D ≤ 8 := hA.1.2.2.2.2
  refine z_aload_n C rfl dX4_addList_0 ?_
  refine z_iload_n C rfl dX4_addList_1 ?_
  refine z_callC 1 [zi x] C rfl (C_needRule hl0 hS x) rfl (zgoodV LWc_good wc207 wc208 wc209 wc58 wc210) rfl rfl rfl (by decide +kernel) rfl (by rw [hR]; exact ⟨Nat.le_of_ble_eq_true rfl, Nat.le_of_ble_eq_true rfl⟩) hS.c (by rw [hR]; exact ⟨Nat.le_of_ble_eq_true rfl, Nat.le_of_ble_eq_true rfl⟩) (Nat.le_of_ble_eq_true rfl) dX4_addList_2 (fun v2 S2 h2 => ?_) (fun E2 S2 h2 => ?_)
  · obtain ⟨r9, e2, rfl, q2⟩ := h2
    subst S2
    obtain ⟨r, hr2, hl2, ex2, ea2, k3_2, n3_2, n8_2, n9_2⟩ := tR_some hRR e2
    refine z_astore [_, _, _, _, _, _] C (by decide) rfl dX4_addList_5 ?_
    refine z_iload_n C rfl dX4_addList_7 ?_
    refine z_callS 1 [zi o] C (C_needOrder hl0 o) rfl (zgoodS LWc_good wc213 wc214 wc58 wc215) rfl rfl rfl (by decide +kernel) rfl (by rw [hR]; exact ⟨Nat.le_of_ble_eq_true rfl, Nat.le_of_ble_eq_true rfl⟩) (by rw [hR]; exact ⟨Nat.le_of_ble_eq_true rfl, Nat.le_of_ble_eq_true rfl⟩) (Nat.le_of_ble_eq_true rfl) dX4_addList_8 (fun v8 S8 h8 => ?_) (fun E8 S8 h8 => ?_)
    · obtain ⟨ho, rfl, q8⟩ := h8
      subst S8
      refine z_iload_n C rfl dX4_addList_11 ?_
      refine z_iconst 0 (by decide) C dX4_addList_12 ?_
      refine z_sipush 9999 (by decide) C dX4_addList_13 ?_
      refine z_callS 3 [zi y, zi 0, zi 9999] C (C_needRange hl0 y 0 9999) rfl (zgoodS LWc_good wc145 wc146 wc58 wc147) rfl rfl rfl (by decide +kernel) rfl (by rw [hR]; exact ⟨Nat.le_of_ble_eq_true rfl, Nat.le_of_ble_eq_true rfl⟩) (by rw [hR]; exact ⟨Nat.le_of_ble_eq_true rfl, Nat.le_of_ble_eq_true rfl⟩) (Nat.le_of_ble_eq_true rfl) dX4_addList_16 (fun v16 S16 h16 => ?_) (fun E16 S16 h16 => ?_)
      · obtain ⟨lo16, hi16, rfl, q16⟩ := h16
        subst S16
        refine z_aload_n C rfl dX4_addList_19 ?_
        refine zg4_listCount C (fun w h => List.mem_cons_of_mem _ (uc_wsX40 w h)) hRk (List.mem_cons_of_mem _ wc43) dX4_addList_20 ?_
        refine z_int (x' := nI (dL D)) (hV.2.2.2.2.1.trans c57) ?_
        refine z_istore [_, _, _, _, _, _] C (by decide) rfl dX4_addList_23 ?_
        refine z_iload C rfl dX4_addList_25 ?_
        refine z_bipush 8 (by decide) C dX4_addList_27 ?_
        refine z_icmp_lt 42 C dX4_addList_29 (by decide) (fun c29 => ?_) (fun c29 => ?_)
        · have hlt : dL D < 8 := (nI_ltI (b := 8) (by omega) (by decide)).1 c29
          refine z_aload_n C rfl dX4_addList_42 ?_
          refine zg4_allLists C (fun w h => List.mem_cons_of_mem _ (uc_wsX40 w h)) hRk (List.mem_cons_of_mem _ wc38) dX4_addList_43 ?_
          refine z_ref hS.l.1 ?_
          refine z_iload C rfl dX4_addList_46 ?_
          refine z_new0 C (fun w h => List.mem_cons_of_mem _ (uc_wsX00 w h)) (List.mem_cons_of_mem _ wc37) (List.mem_cons_of_mem _ wc211) (List.mem_cons_of_mem _ wc212) (by rw [hR]; exact Nat.le_of_ble_eq_true rfl) (by rw [hR]; exact Nat.le_of_ble_eq_true rfl) dX4_addList_48 (fun a48 f48 => ?_)
          have e0 : ext S (nO S a48 2) := (ext.refl S).nO f48 2
          refine z_dup rfl C dX4_addList_51 ?_
          refine z_aload C rfl dX4_addList_52 ?_
          refine z_iload_n C rfl dX4_addList_54 ?_
          refine z_iload_n C rfl dX4_addList_55 ?_
          refine z_callI 3 [zr (some r9), zi o, zi y] C (C_X0_init hl0 (S := nO S a48 2) (a := a48) up1_self (some r9) o y (ord_narrow ho).1 (ord_narrow ho).2) rfl (zgoodI LWc_good wc218) rfl rfl rfl (List.mem_cons_of_mem _ wc212) (List.mem_cons_of_mem _ wc216) (List.mem_cons_of_mem _ wc217) rfl (by decide +kernel) rfl (by rw [hR]; exact ⟨Nat.le_of_ble_eq_true rfl, Nat.le_of_ble_eq_true rfl⟩) (by rw [hR]; exact ⟨Nat.le_of_ble_eq_true rfl, Nat.le_of_ble_eq_true rfl⟩) (Nat.le_of_ble_eq_true rfl) dX4_addList_56 (fun v56 S56 h56 => ?_) (fun E56 S56 h56 => ?_)
          · obtain ⟨rfl, q56⟩ := h56
            have e1 : ext S S56 := by rw [q56]; exact ((e0.sQ f48 _).sI f48 _).sI f48 _
            have hRx := hR1.ext e1
            have hRk : mK S56 (L 0) = 6 := hRx.1.1.c
            have kx : mK S56 a48 = 2 := by rw [q56]; exact up1_self
            obtain ⟨t0, t1, t2⟩ : mQ S56 0 a48 = some r9 ∧ mI S56 1 a48 = o ∧ mI S56 2 a48 = y := by rw [q56]; exact crS_f
            have e4 : tQ S56 (L 4) = tQ S (L 4) := (e1 _ (zk hS.l.2.1 rfl)).2.2.2.2
            have e3 : tQ S56 (L 3) = tQ S (L 3) := (e1 _ (zk hS.r.2.1 rfl)).2.2.2.2
            have hf : ∀ i : Nat, i < 8 → tQ S56 (L 4) i ≠ some a48 := fun i hi q => by
              rw [e4] at q
              have := zk (hX0.cLr i a48 hi q).1 rfl
              rw [f48] at this; cases this
            obtain ⟨g0, g1⟩ := hRx.addLst (x := x) hlt kx hl2 ex2 (by rw [e3]; exact ea2) t0 t1 t2 ho hf
            refine z_aastore_0 C hRx.1.1.l.2.1 (fun v hv => by cases hv; exact kx) (by rw [hRx.1.1.l.2.2]; exact vp_in_nI hlt (by decide)) dX4_addList_59 ?_
            refine z_mem (S' := eQ S56 (L 4) (dL D) (some a48)) (by rw [nI_clamp (by omega)]) ?_
            refine z_aload_n C rfl dX4_addList_60 ?_
            refine z_dup rfl C dX4_addList_61 ?_
            refine zg4_listCount C (fun w h => List.mem_cons_of_mem _ (uc_wsX40 w h)) hRk (List.mem_cons_of_mem _ wc43) dX4_addList_62 ?_
            refine z_int (x' := D 57 0) hRx.2.1.2.2.2.2.1 ?_
            refine z_iconst 1 (by decide) C dX4_addList_65 ?_
            refine z_iadd C dX4_addList_66 ?_
            refine zp4_listCount C (fun w h => List.mem_cons_of_mem _ (uc_wsX40 w h)) hRk (List.mem_cons_of_mem _ wc43) dX4_addList_67 ?_
            refine z_aload_n C rfl dX4_addList_70 ?_
            refine z_callC 0 [] C rfl (C_fillKept hl0 g1) rfl (zgoodV LWc_good wc137 wc138 wc139 wc58 wc140) rfl rfl rfl (by decide +kernel) rfl (by rw [hR]; exact ⟨Nat.le_of_ble_eq_true rfl, Nat.le_of_ble_eq_true rfl⟩) hRk (by rw [hR]; exact ⟨Nat.le_of_ble_eq_true rfl, Nat.le_of_ble_eq_true rfl⟩) (Nat.le_of_ble_eq_true rfl) dX4_addList_71 (fun v71 S71 h71 => ?_) (fun E71 S71 h71 => ?_)
            · obtain ⟨rfl, q71⟩ := h71
              subst S71
              refine z_iload C rfl dX4_addList_74 ?_
              refine z_ireturn C F (Nat.le_of_ble_eq_true rfl) (Nat.le_of_ble_eq_true rfl) dX4_addList_76 ?_
              exact ⟨⟨r, hr2, hl2, ex2⟩, ho, lo16, hi16, hlt, rfl, g0⟩
            · exact h71.elim
          · exact h56.elim
        · refine z_throwS (text := "no more lists can be added") ["java/lang/RuntimeException", "java/lang/Exception"] C F N (by decide +kernel) (by decide +kernel) (List.mem_cons_of_mem _ wc141) (List.mem_cons_of_mem _ wc142) (by decide +kernel) (fun w h => List.mem_cons_of_mem _ (ac_1 w h)) bc_1 (by decide) (by decide +kernel) dX4_addList_32 dX4_addList_35 dX4_addList_36 dX4_addList_38 dX4_addList_41 (by rw [hR]; exact Nat.le_of_ble_eq_true rfl) (by rw [hR]; exact Nat.le_of_ble_eq_true rfl) (by rw [hR]; exact Nat.le_of_ble_eq_true rfl) (by rw [hR]; exact Nat.le_of_ble_eq_true rfl) (Nat.le_of_ble_eq_true rfl) (Nat.le_of_ble_eq_true rfl) ?_
          exact ⟨rfl, Or.inr (Or.inr ⟨⟨r, hr2, hl2, ex2⟩, ho, lo16, hi16, fun q => c29 (by rw [c57] at q; exact q), rfl⟩)⟩
      · obtain ⟨e16, rfl, q16⟩ := h16
        subst S16
        exact z_out C F N (Nat.le_of_ble_eq_true rfl) (Nat.le_of_ble_eq_true rfl) ⟨rfl, Or.inr (Or.inl ⟨⟨r, hr2, hl2, ex2⟩, fun q => e16 q.2, rfl⟩)⟩
    · obtain ⟨e8, rfl, q8⟩ := h8
      subst S8
      exact z_out C F N (Nat.le_of_ble_eq_true rfl) (Nat.le_of_ble_eq_true rfl) ⟨rfl, Or.inr (Or.inl ⟨⟨r, hr2, hl2, ex2⟩, fun q => e8 q.1, rfl⟩)⟩
  · obtain ⟨e2, rfl, q2⟩ := h2
    subst S2
    exact z_out C F N (Nat.le_of_ble_eq_true rfl) (Nat.le_of_ble_eq_true rfl) ⟨rfl, Or.inl ⟨tR_none hRR e2, rfl⟩⟩
