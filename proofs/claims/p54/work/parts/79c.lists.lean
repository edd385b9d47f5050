/-! the law's deeds in a row (laid by wip/p54/m79.py) -/
set_option maxRecDepth 100000 in
set_option maxHeartbeats 4000000 in
theorem L_lists {l : Launch} {sc : zSQ} (hl0 : l.stackTraces = false) (hN : sc.2.1 < 2 ^ 31) {n : Nat} {D : ZD} {x m : Nat} {Fw : Nat → Bool} {S : ZM} (hX : lX n D x m Fw S) (i : Nat) (hi : i < 2 ^ 20) : zMetL l sc yL_lists (Cond.code yL_lists cL_lists 9 (some .boolean) :: LWl) ({ frames := 50, cells := 5, slots := 42, locals := 1140 } : Room) 5 42 [zr (some x), zr (some m), zr (some sc.1), zi (nI i)] S (zPo (fun v S' => ∃ D' : ZD, v = some (zi 1) ∧ lX n D' x m Fw S') (fun _ _ => False)) := by
  refine zMetL.of [some (zr (some x)), some (zr (some m)), some (zr (some sc.1)), some (zi (nI i)), none, none, none, none, none] hl0 (by decide) rfl (Nat.le_of_ble_eq_true rfl) rfl ?_
  intro X C N Nc Sc hR hX F
  subst hX
  have hRc : (xR X).cells = 5 := by rw [hR]
  have hRs : (xR X).slots = 42 := by rw [hR]
  obtain ⟨f, hS, hM, hV⟩ := hX
  have ho := hS.1.ok
  obtain ⟨hm0, hm2, hm3, ⟨j1, hj1, hm1⟩, hmr, hml⟩ := id hM
  have hT24 := ho.t
  have hR40 := ho.r
  have hL8 := ho.l
  refine z_aload_n C rfl dL_lists_0 ?_
  refine z_iload_n C rfl dL_lists_1 ?_
  refine z_iconst 1 (by decide) C dL_lists_2 ?_
  refine z_iadd C dL_lists_3 ?_
  refine z_int (show nI i + 1 = nI (i + 1) from nI_add i 1) ?_
  refine z_aload_n C rfl dL_lists_4 ?_
  refine z_iconst 2 (by decide) C dL_lists_5 ?_
  refine z_mld C hS (show (2 : Int32) = nI 2 from rfl) (by decide) hm2 dL_lists_6 ?_
  refine z_iconst 1 (by decide) C dL_lists_7 ?_
  refine z_iadd C dL_lists_8 ?_
  refine z_int (nI_1 (dR D)) ?_
  refine z_callL 3 [zr (some sc.1), zi (nI (i + 1)), zi (nI (dR D + 1))] C Nc Sc (L_pick hl0 hN (i + 1) (by omega) (dR D + 1) (by omega) (by omega)) rfl (zgoodS LWl_good wq207 wq208 wq4 wq209) rfl rfl rfl (by decide +kernel) rfl (by rw [hR]; exact ⟨Nat.le_of_ble_eq_true rfl, Nat.le_of_ble_eq_true rfl⟩) (by rw [hR]; exact ⟨Nat.le_of_ble_eq_true rfl, Nat.le_of_ble_eq_true rfl⟩) (Nat.le_of_ble_eq_true rfl) dL_lists_9 (fun v9 S9 h9 => ?_) (fun E9 S9 h9 => ?_)
  · obtain ⟨j9, hj9, rfl, q9⟩ := h9
    subst q9
    refine z_istore [_, _, _, _, _, _, _, _, _] C (by decide) rfl dL_lists_12 ?_
    refine z_aload_n C rfl dL_lists_14 ?_
    refine z_iload_n C rfl dL_lists_15 ?_
    refine z_iconst 4 (by decide) C dL_lists_16 ?_
    refine z_iadd C dL_lists_17 ?_
    refine z_int (show nI i + 4 = nI (i + 4) from nI_add i 4) ?_
    refine z_aload_n C rfl dL_lists_18 ?_
    refine z_iconst 3 (by decide) C dL_lists_19 ?_
    refine z_mld C hS (show (3 : Int32) = nI 3 from rfl) (by decide) hm3 dL_lists_20 ?_
    refine z_iconst 1 (by decide) C dL_lists_21 ?_
    refine z_iadd C dL_lists_22 ?_
    refine z_int (nI_1 (dL D)) ?_
    refine z_callL 3 [zr (some sc.1), zi (nI (i + 4)), zi (nI (dL D + 1))] C Nc Sc (L_pick hl0 hN (i + 4) (by omega) (dL D + 1) (by omega) (by omega)) rfl (zgoodS LWl_good wq207 wq208 wq4 wq209) rfl rfl rfl (by decide +kernel) rfl (by rw [hR]; exact ⟨Nat.le_of_ble_eq_true rfl, Nat.le_of_ble_eq_true rfl⟩) (by rw [hR]; exact ⟨Nat.le_of_ble_eq_true rfl, Nat.le_of_ble_eq_true rfl⟩) (Nat.le_of_ble_eq_true rfl) dL_lists_23 (fun v23 S23 h23 => ?_) (fun E23 S23 h23 => ?_)
    · obtain ⟨j23, hj23, rfl, q23⟩ := h23
      subst q23
      refine z_istore [_, _, _, _, _, _, _, _, _] C (by decide) rfl dL_lists_26 ?_
      refine z_aload_n C rfl dL_lists_28 ?_
      refine z_iload_n C rfl dL_lists_29 ?_
      refine z_iconst 3 (by decide) C dL_lists_30 ?_
      refine z_iadd C dL_lists_31 ?_
      refine z_int (show nI i + 3 = nI (i + 3) from nI_add i 3) ?_
      refine z_iconst 3 (by decide) C dL_lists_32 ?_
      refine z_callL 3 [zr (some sc.1), zi (nI (i + 3)), zi (nI (3))] C Nc Sc (L_pick hl0 hN (i + 3) (by omega) (3) (by decide) (by omega)) rfl (zgoodS LWl_good wq207 wq208 wq4 wq209) rfl rfl rfl (by decide +kernel) rfl (by rw [hR]; exact ⟨Nat.le_of_ble_eq_true rfl, Nat.le_of_ble_eq_true rfl⟩) (by rw [hR]; exact ⟨Nat.le_of_ble_eq_true rfl, Nat.le_of_ble_eq_true rfl⟩) (Nat.le_of_ble_eq_true rfl) dL_lists_33 (fun v33 S33 h33 => ?_) (fun E33 S33 h33 => ?_)
      · obtain ⟨j33, hj33, rfl, q33⟩ := h33
        subst q33
        refine z_if_ne 43 C dL_lists_36 (by decide) (fun c36 => ?_) (fun c36 => ?_)
        · refine z_aload_n C rfl dL_lists_43 ?_
          refine z_iload_n C rfl dL_lists_44 ?_
          refine z_iconst 3 (by decide) C dL_lists_45 ?_
          refine z_iadd C dL_lists_46 ?_
          refine z_int (show nI i + 3 = nI (i + 3) from nI_add i 3) ?_
          refine z_sipush 2000 (by decide) C dL_lists_47 ?_
          refine z_callL 3 [zr (some sc.1), zi (nI (i + 3)), zi (nI (2000))] C Nc Sc (L_pick hl0 hN (i + 3) (by omega) (2000) (by decide) (by omega)) rfl (zgoodS LWl_good wq207 wq208 wq4 wq209) rfl rfl rfl (by decide +kernel) rfl (by rw [hR]; exact ⟨Nat.le_of_ble_eq_true rfl, Nat.le_of_ble_eq_true rfl⟩) (by rw [hR]; exact ⟨Nat.le_of_ble_eq_true rfl, Nat.le_of_ble_eq_true rfl⟩) (Nat.le_of_ble_eq_true rfl) dL_lists_50 (fun v50 S50 h50 => ?_) (fun E50 S50 h50 => ?_)
          · obtain ⟨j50, hj50, rfl, q50⟩ := h50
            subst q50
            refine z_istore [_, _, _, _, _, _, _, _, _] C (by decide) rfl dL_lists_53 ?_
            refine z_aload_n C rfl dL_lists_55 ?_
            refine z_iload_n C rfl dL_lists_56 ?_
            refine z_iconst 2 (by decide) C dL_lists_57 ?_
            refine z_iadd C dL_lists_58 ?_
            refine z_int (show nI i + 2 = nI (i + 2) from nI_add i 2) ?_
            refine z_iconst 4 (by decide) C dL_lists_59 ?_
            refine z_callL 3 [zr (some sc.1), zi (nI (i + 2)), zi (nI (4))] C Nc Sc (L_pick hl0 hN (i + 2) (by omega) (4) (by decide) (by omega)) rfl (zgoodS LWl_good wq207 wq208 wq4 wq209) rfl rfl rfl (by decide +kernel) rfl (by rw [hR]; exact ⟨Nat.le_of_ble_eq_true rfl, Nat.le_of_ble_eq_true rfl⟩) (by rw [hR]; exact ⟨Nat.le_of_ble_eq_true rfl, Nat.le_of_ble_eq_true rfl⟩) (Nat.le_of_ble_eq_true rfl) dL_lists_60 (fun v60 S60 h60 => ?_) (fun E60 S60 h60 => ?_)
            · obtain ⟨j60, hj60, rfl, q60⟩ := h60
              subst q60
              refine z_callS 1 [zi (nI j60)] C (L_order hl0 (nI j60)) rfl (zgoodS LWl_good wq213 wq214 wq4 wq215) rfl rfl rfl (by decide +kernel) rfl (by rw [hR]; exact ⟨Nat.le_of_ble_eq_true rfl, Nat.le_of_ble_eq_true rfl⟩) (by rw [hR]; exact ⟨Nat.le_of_ble_eq_true rfl, Nat.le_of_ble_eq_true rfl⟩) (Nat.le_of_ble_eq_true rfl) dL_lists_63 (fun v63 S63 h63 => ?_) (fun E63 S63 h63 => ?_)
              · obtain ⟨rfl, q63⟩ := h63
                subst q63
                have ho9 := orI_any (nI j60)
                obtain ⟨o, eo⟩ : ∃ o : Int32, o = orI (nI j60) := ⟨_, rfl⟩
                rw [← eo] at ho9
                refine z_int eo.symm ?_
                refine z_istore [_, _, _, _, _, _, _, _, _] C (by decide) rfl dL_lists_66 ?_
                refine z_aload_n C rfl dL_lists_68 ?_
                refine z_iload_n C rfl dL_lists_69 ?_
                refine z_bipush 6 (by decide) C dL_lists_70 ?_
                refine z_callL 3 [zr (some sc.1), zi (nI (i)), zi (nI (6))] C Nc Sc (L_pick hl0 hN (i) (by omega) (6) (by decide) (by omega)) rfl (zgoodS LWl_good wq207 wq208 wq4 wq209) rfl rfl rfl (by decide +kernel) rfl (by rw [hR]; exact ⟨Nat.le_of_ble_eq_true rfl, Nat.le_of_ble_eq_true rfl⟩) (by rw [hR]; exact ⟨Nat.le_of_ble_eq_true rfl, Nat.le_of_ble_eq_true rfl⟩) (Nat.le_of_ble_eq_true rfl) dL_lists_72 (fun v72 S72 h72 => ?_) (fun E72 S72 h72 => ?_)
                · obtain ⟨j72, hj72, rfl, q72⟩ := h72
                  subst q72
                  rcases (show j72 = 0 ∨ j72 = 1 ∨ j72 = 2 ∨ j72 = 3 ∨ j72 = 4 ∨ j72 = 5 by omega) with rfl | rfl | rfl | rfl | rfl | rfl
                  · refine z_tableIn 100 C dL_lists_75 (by decide) (by decide) rfl (by decide) ?_
                    refine z_aload_n C rfl dL_lists_100 ?_
                    refine z_bipush 21 (by decide) C dL_lists_101 ?_
                    refine z_iload C rfl dL_lists_103 ?_
                    refine z_iload C rfl dL_lists_105 ?_
                    refine z_iconst 0 (by decide) C dL_lists_107 ?_
                    refine z_callLH 5 [zr (some x), zi 21, zi (nI j23), zi (nI j9), zi 0] C Nc Sc (DD_21 hl0 hS.1 j23 j9 0 (by omega) (by omega)) rfl (zgoodS LWl_good wq201 wq202 wq4 wq203) rfl rfl rfl (by decide +kernel) rfl (by rw [hR]; exact ⟨Nat.le_of_ble_eq_true rfl, Nat.le_of_ble_eq_true rfl⟩) (by rw [hR]; exact ⟨Nat.le_of_ble_eq_true rfl, Nat.le_of_ble_eq_true rfl⟩) (Nat.le_of_ble_eq_true rfl) dL_lists_108 (fun v108 S108 h108 => ?_) (fun E108 S108 h108 => ?_)
                    · obtain ⟨z, D1, rfl, hr, hY, hkp⟩ := h108
                      replace hS := hS.kp hY hkp
                      have J : ∀ (D1 : ZD) (f1 : Nat → Int32) (S1 : ZM) (z : Int32), mS D1 x m Fw f1 S1 → rM D1 f1 → LV n D1 → (nI j23 < f1 3 ∨ z = -2005) → zW X 9 5 42 S1 130 [some (zr (some x)), some (zr (some m)), some (zr (some sc.1)), some (zi (nI i)), some (zi (nI j9)), some (zi (nI j23)), some (zi (nI j50)), some (zi o), some (zi z)] [] := by
                        intro D1 f1 S1 z hS1 hM1 hV1 hq
                        refine z_iload C rfl dL_lists_130 ?_
                        refine z_aload_n C rfl dL_lists_132 ?_
                        refine z_iconst 3 (by decide) C dL_lists_133 ?_
                        refine z_mld C hS1 (show (3 : Int32) = nI 3 from rfl) (by decide) rfl dL_lists_134 ?_
                        refine z_icmp_lt 146 C dL_lists_135 (by decide) (fun c135 => ?_) (fun c135 => ?_)
                        · refine z_iconst 1 (by decide) C dL_lists_146 ?_
                          refine z_goto 151 C dL_lists_147 (by decide) ?_
                          refine z_zreturn C F (Nat.le_of_ble_eq_true rfl) (Nat.le_of_ble_eq_true rfl) (by decide) dL_lists_151 ?_
                          exact ⟨_, rfl, f1, hS1, hM1, hV1⟩
                        · refine z_iload C rfl dL_lists_138 ?_
                          refine z_sipush (-2005) (by decide) C dL_lists_140 ?_
                          refine z_icmp_ne 150 C dL_lists_143 (by decide) (fun c143 => ?_) (fun c143 => ?_)
                          · rcases hq with q | q
                            · exact absurd q c135
                            · exact absurd q c143
                          · refine z_iconst 1 (by decide) C dL_lists_146 ?_
                            refine z_goto 151 C dL_lists_147 (by decide) ?_
                            refine z_zreturn C F (Nat.le_of_ble_eq_true rfl) (Nat.le_of_ble_eq_true rfl) (by decide) dL_lists_151 ?_
                            exact ⟨_, rfl, f1, hS1, hM1, hV1⟩
                      refine z_istore [_, _, _, _, _, _, _, _, _] C (by decide) rfl dL_lists_111 ?_
                      refine z_iload C rfl dL_lists_113 ?_
                      refine z_if_lt 130 C dL_lists_115 (by decide) (fun c115 => ?_) (fun c115 => ?_)
                      · rcases hr with ⟨-, -, hz9, -⟩ | ⟨rfl, rfl⟩ | ⟨hi9, rfl, rfl⟩
                        · exact absurd c115 (Int32.not_lt.mpr hz9)
                        · exact J _ _ _ _ hS hM hV (Or.inr rfl)
                        · exact J _ _ _ _ hS hM hV (Or.inl (by rw [hm3]; exact nI_lt hi9 (by omega)))
                      · rcases hr with ⟨hi9, hr9, hz9, rfl⟩ | ⟨rfl, -⟩ | ⟨-, rfl, -⟩
                        rotate_left
                        · exact absurd (by decide) c115
                        · exact absurd (by decide) c115
                        refine z_aload_n C rfl dL_lists_118 ?_
                        refine z_sipush 140 (by decide) C dL_lists_119 ?_
                        refine z_iconst 3 (by decide) C dL_lists_122 ?_
                        refine z_iload C rfl dL_lists_123 ?_
                        refine z_imul C dL_lists_125 ?_
                        refine z_iadd C dL_lists_126 ?_
                        refine z_iload C rfl dL_lists_127 ?_
                        refine z_mst C hS (ix3 (c' := 140) rfl _) (by omega) dL_lists_129 ?_
                        intro S129 hS
                        exact J _ _ _ _ hS (see_set ho hi9 hM hV).1 (see_set ho hi9 hM hV).2 (Or.inl (by rw [up1_ne (by omega), hm3]; exact nI_lt hi9 (by omega)))
                    · exact h108.elim
                  · refine z_tableIn 152 C dL_lists_75 (by decide) (by decide) rfl (by decide) ?_
                    refine z_aload_n C rfl dL_lists_152 ?_
                    refine z_bipush 22 (by decide) C dL_lists_153 ?_
                    refine z_iload C rfl dL_lists_155 ?_
                    refine z_iload C rfl dL_lists_157 ?_
                    refine z_iconst 0 (by decide) C dL_lists_159 ?_
                    refine z_callLH 5 [zr (some x), zi 22, zi (nI j23), zi o, zi 0] C Nc Sc (DD_22 hl0 hS.1 j23 o 0 (by omega) ho9) rfl (zgoodS LWl_good wq201 wq202 wq4 wq203) rfl rfl rfl (by decide +kernel) rfl (by rw [hR]; exact ⟨Nat.le_of_ble_eq_true rfl, Nat.le_of_ble_eq_true rfl⟩) (by rw [hR]; exact ⟨Nat.le_of_ble_eq_true rfl, Nat.le_of_ble_eq_true rfl⟩) (Nat.le_of_ble_eq_true rfl) dL_lists_160 (fun v160 S160 h160 => ?_) (fun E160 S160 h160 => ?_)
                    · obtain ⟨z, D1, rfl, hr, hY, hkp⟩ := h160
                      replace hS := hS.kp hY hkp
                      have J : ∀ (D1 : ZD) (f1 : Nat → Int32) (S1 : ZM) (z : Int32), mS D1 x m Fw f1 S1 → rM D1 f1 → LV n D1 → (nI j23 < f1 3 ∨ z = -2005) → zW X 9 5 42 S1 182 [some (zr (some x)), some (zr (some m)), some (zr (some sc.1)), some (zi (nI i)), some (zi (nI j9)), some (zi (nI j23)), some (zi (nI j50)), some (zi o), some (zi z)] [] := by
                        intro D1 f1 S1 z hS1 hM1 hV1 hq
                        refine z_iload C rfl dL_lists_182 ?_
                        refine z_aload_n C rfl dL_lists_184 ?_
                        refine z_iconst 3 (by decide) C dL_lists_185 ?_
                        refine z_mld C hS1 (show (3 : Int32) = nI 3 from rfl) (by decide) rfl dL_lists_186 ?_
                        refine z_icmp_lt 198 C dL_lists_187 (by decide) (fun c187 => ?_) (fun c187 => ?_)
                        · refine z_iconst 1 (by decide) C dL_lists_198 ?_
                          refine z_goto 203 C dL_lists_199 (by decide) ?_
                          refine z_zreturn C F (Nat.le_of_ble_eq_true rfl) (Nat.le_of_ble_eq_true rfl) (by decide) dL_lists_203 ?_
                          exact ⟨_, rfl, f1, hS1, hM1, hV1⟩
                        · refine z_iload C rfl dL_lists_190 ?_
                          refine z_sipush (-2005) (by decide) C dL_lists_192 ?_
                          refine z_icmp_ne 202 C dL_lists_195 (by decide) (fun c195 => ?_) (fun c195 => ?_)
                          · rcases hq with q | q
                            · exact absurd q c187
                            · exact absurd q c195
                          · refine z_iconst 1 (by decide) C dL_lists_198 ?_
                            refine z_goto 203 C dL_lists_199 (by decide) ?_
                            refine z_zreturn C F (Nat.le_of_ble_eq_true rfl) (Nat.le_of_ble_eq_true rfl) (by decide) dL_lists_203 ?_
                            exact ⟨_, rfl, f1, hS1, hM1, hV1⟩
                      refine z_istore [_, _, _, _, _, _, _, _, _] C (by decide) rfl dL_lists_163 ?_
                      refine z_iload C rfl dL_lists_165 ?_
                      refine z_if_lt 182 C dL_lists_167 (by decide) (fun c167 => ?_) (fun c167 => ?_)
                      · rcases hr with ⟨-, hz9, -⟩ | ⟨-, rfl, rfl⟩
                        · exact absurd c167 (Int32.not_lt.mpr hz9)
                        · exact J _ _ _ _ hS hM hV (Or.inr rfl)
                      · rcases hr with ⟨hi9, hz9, rfl⟩ | ⟨-, rfl, -⟩
                        rotate_left
                        · exact absurd (by decide) c167
                        refine z_aload_n C rfl dL_lists_170 ?_
                        refine z_sipush 141 (by decide) C dL_lists_171 ?_
                        refine z_iconst 3 (by decide) C dL_lists_174 ?_
                        refine z_iload C rfl dL_lists_175 ?_
                        refine z_imul C dL_lists_177 ?_
                        refine z_iadd C dL_lists_178 ?_
                        refine z_iload C rfl dL_lists_179 ?_
                        refine z_mst C hS (ix3 (c' := 141) rfl _) (by omega) dL_lists_181 ?_
                        intro S181 hS
                        exact J _ _ _ _ hS (see_ord ho hi9 hM hV).1 (see_ord ho hi9 hM hV).2 (Or.inl (by rw [up1_ne (by omega), hm3]; exact nI_lt hi9 (by omega)))
                    · exact h160.elim
                  · refine z_tableIn 204 C dL_lists_75 (by decide) (by decide) rfl (by decide) ?_
                    refine z_aload_n C rfl dL_lists_204 ?_
                    refine z_bipush 23 (by decide) C dL_lists_205 ?_
                    refine z_iload C rfl dL_lists_207 ?_
                    refine z_iload C rfl dL_lists_209 ?_
                    refine z_iconst 0 (by decide) C dL_lists_211 ?_
                    refine z_callLH 5 [zr (some x), zi 23, zi (nI j23), zi (nI j50), zi 0] C Nc Sc (DD_23 hl0 hS.1 j23 j50 0 (by omega) (by omega)) rfl (zgoodS LWl_good wq201 wq202 wq4 wq203) rfl rfl rfl (by decide +kernel) rfl (by rw [hR]; exact ⟨Nat.le_of_ble_eq_true rfl, Nat.le_of_ble_eq_true rfl⟩) (by rw [hR]; exact ⟨Nat.le_of_ble_eq_true rfl, Nat.le_of_ble_eq_true rfl⟩) (Nat.le_of_ble_eq_true rfl) dL_lists_212 (fun v212 S212 h212 => ?_) (fun E212 S212 h212 => ?_)
                    · obtain ⟨z, D1, rfl, hr, hY, hkp⟩ := h212
                      replace hS := hS.kp hY hkp
                      have J : ∀ (D1 : ZD) (f1 : Nat → Int32) (S1 : ZM) (z : Int32), mS D1 x m Fw f1 S1 → rM D1 f1 → LV n D1 → (nI j23 < f1 3 ∨ z = -2005) → zW X 9 5 42 S1 234 [some (zr (some x)), some (zr (some m)), some (zr (some sc.1)), some (zi (nI i)), some (zi (nI j9)), some (zi (nI j23)), some (zi (nI j50)), some (zi o), some (zi z)] [] := by
                        intro D1 f1 S1 z hS1 hM1 hV1 hq
                        refine z_iload C rfl dL_lists_234 ?_
                        refine z_aload_n C rfl dL_lists_236 ?_
                        refine z_iconst 3 (by decide) C dL_lists_237 ?_
                        refine z_mld C hS1 (show (3 : Int32) = nI 3 from rfl) (by decide) rfl dL_lists_238 ?_
                        refine z_icmp_lt 250 C dL_lists_239 (by decide) (fun c239 => ?_) (fun c239 => ?_)
                        · refine z_iconst 1 (by decide) C dL_lists_250 ?_
                          refine z_goto 255 C dL_lists_251 (by decide) ?_
                          refine z_zreturn C F (Nat.le_of_ble_eq_true rfl) (Nat.le_of_ble_eq_true rfl) (by decide) dL_lists_255 ?_
                          exact ⟨_, rfl, f1, hS1, hM1, hV1⟩
                        · refine z_iload C rfl dL_lists_242 ?_
                          refine z_sipush (-2005) (by decide) C dL_lists_244 ?_
                          refine z_icmp_ne 254 C dL_lists_247 (by decide) (fun c247 => ?_) (fun c247 => ?_)
                          · rcases hq with q | q
                            · exact absurd q c239
                            · exact absurd q c247
                          · refine z_iconst 1 (by decide) C dL_lists_250 ?_
                            refine z_goto 255 C dL_lists_251 (by decide) ?_
                            refine z_zreturn C F (Nat.le_of_ble_eq_true rfl) (Nat.le_of_ble_eq_true rfl) (by decide) dL_lists_255 ?_
                            exact ⟨_, rfl, f1, hS1, hM1, hV1⟩
                      refine z_istore [_, _, _, _, _, _, _, _, _] C (by decide) rfl dL_lists_215 ?_
                      refine z_iload C rfl dL_lists_217 ?_
                      refine z_if_lt 234 C dL_lists_219 (by decide) (fun c219 => ?_) (fun c219 => ?_)
                      · rcases hr with ⟨hi9, rfl, -⟩ | ⟨-, rfl, rfl⟩
                        · exact absurd c219 (Int32.not_lt.mpr (hV.2.2.2 _ hi9))
                        · exact J _ _ _ _ hS hM hV (Or.inr rfl)
                      · rcases hr with ⟨hi9, rfl, rfl⟩ | ⟨-, rfl, -⟩
                        rotate_left
                        · exact absurd (by decide) c219
                        refine z_aload_n C rfl dL_lists_222 ?_
                        refine z_sipush 142 (by decide) C dL_lists_223 ?_
                        refine z_iconst 3 (by decide) C dL_lists_226 ?_
                        refine z_iload C rfl dL_lists_227 ?_
                        refine z_imul C dL_lists_229 ?_
                        refine z_iadd C dL_lists_230 ?_
                        refine z_iload C rfl dL_lists_231 ?_
                        refine z_mst C hS (ix3 (c' := 142) rfl _) (by omega) dL_lists_233 ?_
                        intro S233 hS
                        exact J _ _ _ _ hS (see_lim ho hi9 (nI_pos' (by omega)) hM hV).1 (see_lim ho hi9 (nI_pos' (by omega)) hM hV).2 (Or.inl (by rw [up1_ne (by omega), hm3]; exact nI_lt hi9 (by omega)))
                    · exact h212.elim
                  · refine z_tableOut 256 C dL_lists_75 (by decide) (by decide) ?_
                    refine z_aload_n C rfl dL_lists_256 ?_
                    refine z_bipush 20 (by decide) C dL_lists_257 ?_
                    refine z_iload C rfl dL_lists_259 ?_
                    refine z_iload C rfl dL_lists_261 ?_
                    refine z_iload C rfl dL_lists_263 ?_
                    refine z_callLH 5 [zr (some x), zi 20, zi (nI j9), zi o, zi (nI j50)] C Nc Sc (DD_20 hl0 hS.1 j9 j50 o (by omega) ho9 (by omega)) rfl (zgoodS LWl_good wq201 wq202 wq4 wq203) rfl rfl rfl (by decide +kernel) rfl (by rw [hR]; exact ⟨Nat.le_of_ble_eq_true rfl, Nat.le_of_ble_eq_true rfl⟩) (by rw [hR]; exact ⟨Nat.le_of_ble_eq_true rfl, Nat.le_of_ble_eq_true rfl⟩) (Nat.le_of_ble_eq_true rfl) dL_lists_265 (fun v265 S265 h265 => ?_) (fun E265 S265 h265 => ?_)
                    · obtain ⟨z, D1, rfl, hr, hY, hkp⟩ := h265
                      replace hS := hS.kp hY hkp
                      have J : ∀ (D1 : ZD) (f1 : Nat → Int32) (S1 : ZM) (z : Int32), mS D1 x m Fw f1 S1 → rM D1 f1 → LV n D1 → ((nI j9 = f1 2 ∧ z = -2005) ∨ (¬ nI j9 = f1 2 ∧ z = -2003) ∨ (¬ nI j9 = f1 2 ∧ ¬ z = -2003 ∧ z = f1 3 - 1)) → zW X 9 5 42 S1 321 [some (zr (some x)), some (zr (some m)), some (zr (some sc.1)), some (zi (nI i)), some (zi (nI j9)), some (zi (nI j23)), some (zi (nI j50)), some (zi o), some (zi z)] [] := by
                        intro D1 f1 S1 z hS1 hM1 hV1 hq
                        refine z_iload C rfl dL_lists_321 ?_
                        refine z_iload C rfl dL_lists_323 ?_
                        refine z_aload_n C rfl dL_lists_325 ?_
                        refine z_iconst 2 (by decide) C dL_lists_326 ?_
                        refine z_mld C hS1 (show (2 : Int32) = nI 2 from rfl) (by decide) rfl dL_lists_327 ?_
                        refine z_icmp_ne 337 C dL_lists_328 (by decide) (fun c328 => ?_) (fun c328 => ?_)
                        · refine z_iload C rfl dL_lists_337 ?_
                          refine z_sipush (-2003) (by decide) C dL_lists_339 ?_
                          refine z_icmp_ne 351 C dL_lists_342 (by decide) (fun c342 => ?_) (fun c342 => ?_)
                          · refine z_aload_n C rfl dL_lists_351 ?_
                            refine z_iconst 3 (by decide) C dL_lists_352 ?_
                            refine z_mld C hS1 (show (3 : Int32) = nI 3 from rfl) (by decide) rfl dL_lists_353 ?_
                            refine z_iconst 1 (by decide) C dL_lists_354 ?_
                            refine z_isub C dL_lists_355 ?_
                            refine z_icmp_ne 363 C dL_lists_356 (by decide) (fun c356 => ?_) (fun c356 => ?_)
                            · exfalso
                              rcases hq with ⟨q1, q2⟩ | ⟨q1, q2⟩ | ⟨q1, q2, q3⟩ <;> first | exact c328 q1 | exact q1 c328 | exact c356 q2 | exact c356 q3 | exact q2 c342 | exact c342 q2
                            · refine z_iconst 1 (by decide) C dL_lists_359 ?_
                              refine z_goto 364 C dL_lists_360 (by decide) ?_
                              refine z_zreturn C F (Nat.le_of_ble_eq_true rfl) (Nat.le_of_ble_eq_true rfl) (by decide) dL_lists_364 ?_
                              exact ⟨_, rfl, f1, hS1, hM1, hV1⟩
                          · refine z_sipush (-2003) (by decide) C dL_lists_345 ?_
                            refine z_goto 356 C dL_lists_348 (by decide) ?_
                            refine z_icmp_ne 363 C dL_lists_356 (by decide) (fun c356 => ?_) (fun c356 => ?_)
                            · exfalso
                              rcases hq with ⟨q1, q2⟩ | ⟨q1, q2⟩ | ⟨q1, q2, q3⟩ <;> first | exact c328 q1 | exact q1 c328 | exact c356 q2 | exact c356 q3 | exact q2 c342 | exact c342 q2
                            · refine z_iconst 1 (by decide) C dL_lists_359 ?_
                              refine z_goto 364 C dL_lists_360 (by decide) ?_
                              refine z_zreturn C F (Nat.le_of_ble_eq_true rfl) (Nat.le_of_ble_eq_true rfl) (by decide) dL_lists_364 ?_
                              exact ⟨_, rfl, f1, hS1, hM1, hV1⟩
                        · refine z_sipush (-2005) (by decide) C dL_lists_331 ?_
                          refine z_goto 356 C dL_lists_334 (by decide) ?_
                          refine z_icmp_ne 363 C dL_lists_356 (by decide) (fun c356 => ?_) (fun c356 => ?_)
                          · exfalso
                            rcases hq with ⟨q1, q2⟩ | ⟨q1, q2⟩ | ⟨q1, q2, q3⟩ <;> first | exact c328 q1 | exact q1 c328 | exact c356 q2 | exact c356 q3 | exact q2 c342 | exact c342 q2
                          · refine z_iconst 1 (by decide) C dL_lists_359 ?_
                            refine z_goto 364 C dL_lists_360 (by decide) ?_
                            refine z_zreturn C F (Nat.le_of_ble_eq_true rfl) (Nat.le_of_ble_eq_true rfl) (by decide) dL_lists_364 ?_
                            exact ⟨_, rfl, f1, hS1, hM1, hV1⟩
                      refine z_istore [_, _, _, _, _, _, _, _, _] C (by decide) rfl dL_lists_268 ?_
                      refine z_iload C rfl dL_lists_270 ?_
                      refine z_if_lt 321 C dL_lists_272 (by decide) (fun c272 => ?_) (fun c272 => ?_)
                      · rcases hr with ⟨-, -, rfl, -⟩ | ⟨hn9, rfl, rfl⟩ | ⟨hi9, -, rfl, rfl⟩
                        · exact absurd c272 (nI_pos (by omega))
                        · exact J _ _ _ _ hS hM hV (Or.inl ⟨by rw [hm2]; exact congrArg nI (by omega), rfl⟩)
                        · exact J _ _ _ _ hS hM hV (Or.inr (Or.inl ⟨by rw [hm2]; exact fun q => absurd ((nI_eq (by omega) (by omega)).1 q) (by omega), rfl⟩))
                      · rcases hr with ⟨hi9, hl9, rfl, rfl⟩ | ⟨-, rfl, -⟩ | ⟨-, -, rfl, -⟩
                        rotate_left
                        · exact absurd (by decide) c272
                        · exact absurd (by decide) c272
                        refine z_aload_n C rfl dL_lists_275 ?_
                        refine z_sipush 140 (by decide) C dL_lists_276 ?_
                        refine z_iconst 3 (by decide) C dL_lists_279 ?_
                        refine z_aload_n C rfl dL_lists_280 ?_
                        refine z_iconst 3 (by decide) C dL_lists_281 ?_
                        refine z_mld C hS (show (3 : Int32) = nI 3 from rfl) (by decide) hm3 dL_lists_282 ?_
                        refine z_imul C dL_lists_283 ?_
                        refine z_iadd C dL_lists_284 ?_
                        refine z_iload C rfl dL_lists_285 ?_
                        refine z_mst C hS (ix3 (c' := 140) rfl _) (by omega) dL_lists_287 ?_
                        intro S287 hS
                        refine z_aload_n C rfl dL_lists_288 ?_
                        refine z_sipush 141 (by decide) C dL_lists_289 ?_
                        refine z_iconst 3 (by decide) C dL_lists_292 ?_
                        refine z_aload_n C rfl dL_lists_293 ?_
                        refine z_iconst 3 (by decide) C dL_lists_294 ?_
                        refine z_mld C hS (show (3 : Int32) = nI 3 from rfl) (by decide) ((up1_ne (by omega)).trans hm3) dL_lists_295 ?_
                        refine z_imul C dL_lists_296 ?_
                        refine z_iadd C dL_lists_297 ?_
                        refine z_iload C rfl dL_lists_298 ?_
                        refine z_mst C hS (ix3 (c' := 141) rfl _) (by omega) dL_lists_300 ?_
                        intro S300 hS
                        refine z_aload_n C rfl dL_lists_301 ?_
                        refine z_sipush 142 (by decide) C dL_lists_302 ?_
                        refine z_iconst 3 (by decide) C dL_lists_305 ?_
                        refine z_aload_n C rfl dL_lists_306 ?_
                        refine z_iconst 3 (by decide) C dL_lists_307 ?_
                        refine z_mld C hS (show (3 : Int32) = nI 3 from rfl) (by decide) ((up1_ne (by omega)).trans ((up1_ne (by omega)).trans hm3)) dL_lists_308 ?_
                        refine z_imul C dL_lists_309 ?_
                        refine z_iadd C dL_lists_310 ?_
                        refine z_iload C rfl dL_lists_311 ?_
                        refine z_mst C hS (ix3 (c' := 142) rfl _) (by omega) dL_lists_313 ?_
                        intro S313 hS
                        refine z_aload_n C rfl dL_lists_314 ?_
                        refine z_iconst 3 (by decide) C dL_lists_315 ?_
                        refine z_dup2 rfl rfl C dL_lists_316 ?_
                        refine z_mld C hS (show (3 : Int32) = nI 3 from rfl) (by decide) ((up1_ne (by omega)).trans ((up1_ne (by omega)).trans ((up1_ne (by omega)).trans hm3))) dL_lists_317 ?_
                        refine z_iconst 1 (by decide) C dL_lists_318 ?_
                        refine z_iadd C dL_lists_319 ?_
                        refine z_mst C hS (show (3 : Int32) = nI 3 from rfl) (by decide) dL_lists_320 ?_
                        intro S320 hS
                        exact J _ _ _ _ hS (see_lst ho hl9 (nI_pos' (by omega)) hM hV).1 (see_lst ho hl9 (nI_pos' (by omega)) hM hV).2 (Or.inr (Or.inr ⟨by rw [up1_ne (by decide), up1_ne (by omega), up1_ne (by omega), up1_ne (by omega), hm2]; exact fun q => absurd ((nI_eq (by omega) (by omega)).1 q) (by omega), fun q => absurd (q ▸ nI_pos' (show dL D < 2 ^ 31 by omega)) (by decide), by rw [up1_self, ← nI_succ, nI_pred]⟩))
                    · exact h265.elim
                  · refine z_tableOut 256 C dL_lists_75 (by decide) (by decide) ?_
                    refine z_aload_n C rfl dL_lists_256 ?_
                    refine z_bipush 20 (by decide) C dL_lists_257 ?_
                    refine z_iload C rfl dL_lists_259 ?_
                    refine z_iload C rfl dL_lists_261 ?_
                    refine z_iload C rfl dL_lists_263 ?_
                    refine z_callLH 5 [zr (some x), zi 20, zi (nI j9), zi o, zi (nI j50)] C Nc Sc (DD_20 hl0 hS.1 j9 j50 o (by omega) ho9 (by omega)) rfl (zgoodS LWl_good wq201 wq202 wq4 wq203) rfl rfl rfl (by decide +kernel) rfl (by rw [hR]; exact ⟨Nat.le_of_ble_eq_true rfl, Nat.le_of_ble_eq_true rfl⟩) (by rw [hR]; exact ⟨Nat.le_of_ble_eq_true rfl, Nat.le_of_ble_eq_true rfl⟩) (Nat.le_of_ble_eq_true rfl) dL_lists_265 (fun v265 S265 h265 => ?_) (fun E265 S265 h265 => ?_)
                    · obtain ⟨z, D1, rfl, hr, hY, hkp⟩ := h265
                      replace hS := hS.kp hY hkp
                      have J : ∀ (D1 : ZD) (f1 : Nat → Int32) (S1 : ZM) (z : Int32), mS D1 x m Fw f1 S1 → rM D1 f1 → LV n D1 → ((nI j9 = f1 2 ∧ z = -2005) ∨ (¬ nI j9 = f1 2 ∧ z = -2003) ∨ (¬ nI j9 = f1 2 ∧ ¬ z = -2003 ∧ z = f1 3 - 1)) → zW X 9 5 42 S1 321 [some (zr (some x)), some (zr (some m)), some (zr (some sc.1)), some (zi (nI i)), some (zi (nI j9)), some (zi (nI j23)), some (zi (nI j50)), some (zi o), some (zi z)] [] := by
                        intro D1 f1 S1 z hS1 hM1 hV1 hq
                        refine z_iload C rfl dL_lists_321 ?_
                        refine z_iload C rfl dL_lists_323 ?_
                        refine z_aload_n C rfl dL_lists_325 ?_
                        refine z_iconst 2 (by decide) C dL_lists_326 ?_
                        refine z_mld C hS1 (show (2 : Int32) = nI 2 from rfl) (by decide) rfl dL_lists_327 ?_
                        refine z_icmp_ne 337 C dL_lists_328 (by decide) (fun c328 => ?_) (fun c328 => ?_)
                        · refine z_iload C rfl dL_lists_337 ?_
                          refine z_sipush (-2003) (by decide) C dL_lists_339 ?_
                          refine z_icmp_ne 351 C dL_lists_342 (by decide) (fun c342 => ?_) (fun c342 => ?_)
                          · refine z_aload_n C rfl dL_lists_351 ?_
                            refine z_iconst 3 (by decide) C dL_lists_352 ?_
                            refine z_mld C hS1 (show (3 : Int32) = nI 3 from rfl) (by decide) rfl dL_lists_353 ?_
                            refine z_iconst 1 (by decide) C dL_lists_354 ?_
                            refine z_isub C dL_lists_355 ?_
                            refine z_icmp_ne 363 C dL_lists_356 (by decide) (fun c356 => ?_) (fun c356 => ?_)
                            · exfalso
                              rcases hq with ⟨q1, q2⟩ | ⟨q1, q2⟩ | ⟨q1, q2, q3⟩ <;> first | exact c328 q1 | exact q1 c328 | exact c356 q2 | exact c356 q3 | exact q2 c342 | exact c342 q2
                            · refine z_iconst 1 (by decide) C dL_lists_359 ?_
                              refine z_goto 364 C dL_lists_360 (by decide) ?_
                              refine z_zreturn C F (Nat.le_of_ble_eq_true rfl) (Nat.le_of_ble_eq_true rfl) (by decide) dL_lists_364 ?_
                              exact ⟨_, rfl, f1, hS1, hM1, hV1⟩
                          · refine z_sipush (-2003) (by decide) C dL_lists_345 ?_
                            refine z_goto 356 C dL_lists_348 (by decide) ?_
                            refine z_icmp_ne 363 C dL_lists_356 (by decide) (fun c356 => ?_) (fun c356 => ?_)
                            · exfalso
                              rcases hq with ⟨q1, q2⟩ | ⟨q1, q2⟩ | ⟨q1, q2, q3⟩ <;> first | exact c328 q1 | exact q1 c328 | exact c356 q2 | exact c356 q3 | exact q2 c342 | exact c342 q2
                            · refine z_iconst 1 (by decide) C dL_lists_359 ?_
                              refine z_goto 364 C dL_lists_360 (by decide) ?_
                              refine z_zreturn C F (Nat.le_of_ble_eq_true rfl) (Nat.le_of_ble_eq_true rfl) (by decide) dL_lists_364 ?_
                              exact ⟨_, rfl, f1, hS1, hM1, hV1⟩
                        · refine z_sipush (-2005) (by decide) C dL_lists_331 ?_
                          refine z_goto 356 C dL_lists_334 (by decide) ?_
                          refine z_icmp_ne 363 C dL_lists_356 (by decide) (fun c356 => ?_) (fun c356 => ?_)
                          · exfalso
                            rcases hq with ⟨q1, q2⟩ | ⟨q1, q2⟩ | ⟨q1, q2, q3⟩ <;> first | exact c328 q1 | exact q1 c328 | exact c356 q2 | exact c356 q3 | exact q2 c342 | exact c342 q2
                          · refine z_iconst 1 (by decide) C dL_lists_359 ?_
                            refine z_goto 364 C dL_lists_360 (by decide) ?_
                            refine z_zreturn C F (Nat.le_of_ble_eq_true rfl) (Nat.le_of_ble_eq_true rfl) (by decide) dL_lists_364 ?_
                            exact ⟨_, rfl, f1, hS1, hM1, hV1⟩
                      refine z_istore [_, _, _, _, _, _, _, _, _] C (by decide) rfl dL_lists_268 ?_
                      refine z_iload C rfl dL_lists_270 ?_
                      refine z_if_lt 321 C dL_lists_272 (by decide) (fun c272 => ?_) (fun c272 => ?_)
                      · rcases hr with ⟨-, -, rfl, -⟩ | ⟨hn9, rfl, rfl⟩ | ⟨hi9, -, rfl, rfl⟩
                        · exact absurd c272 (nI_pos (by omega))
                        · exact J _ _ _ _ hS hM hV (Or.inl ⟨by rw [hm2]; exact congrArg nI (by omega), rfl⟩)
                        · exact J _ _ _ _ hS hM hV (Or.inr (Or.inl ⟨by rw [hm2]; exact fun q => absurd ((nI_eq (by omega) (by omega)).1 q) (by omega), rfl⟩))
                      · rcases hr with ⟨hi9, hl9, rfl, rfl⟩ | ⟨-, rfl, -⟩ | ⟨-, -, rfl, -⟩
                        rotate_left
                        · exact absurd (by decide) c272
                        · exact absurd (by decide) c272
                        refine z_aload_n C rfl dL_lists_275 ?_
                        refine z_sipush 140 (by decide) C dL_lists_276 ?_
                        refine z_iconst 3 (by decide) C dL_lists_279 ?_
                        refine z_aload_n C rfl dL_lists_280 ?_
                        refine z_iconst 3 (by decide) C dL_lists_281 ?_
                        refine z_mld C hS (show (3 : Int32) = nI 3 from rfl) (by decide) hm3 dL_lists_282 ?_
                        refine z_imul C dL_lists_283 ?_
                        refine z_iadd C dL_lists_284 ?_
                        refine z_iload C rfl dL_lists_285 ?_
                        refine z_mst C hS (ix3 (c' := 140) rfl _) (by omega) dL_lists_287 ?_
                        intro S287 hS
                        refine z_aload_n C rfl dL_lists_288 ?_
                        refine z_sipush 141 (by decide) C dL_lists_289 ?_
                        refine z_iconst 3 (by decide) C dL_lists_292 ?_
                        refine z_aload_n C rfl dL_lists_293 ?_
                        refine z_iconst 3 (by decide) C dL_lists_294 ?_
                        refine z_mld C hS (show (3 : Int32) = nI 3 from rfl) (by decide) ((up1_ne (by omega)).trans hm3) dL_lists_295 ?_
                        refine z_imul C dL_lists_296 ?_
                        refine z_iadd C dL_lists_297 ?_
                        refine z_iload C rfl dL_lists_298 ?_
                        refine z_mst C hS (ix3 (c' := 141) rfl _) (by omega) dL_lists_300 ?_
                        intro S300 hS
                        refine z_aload_n C rfl dL_lists_301 ?_
                        refine z_sipush 142 (by decide) C dL_lists_302 ?_
                        refine z_iconst 3 (by decide) C dL_lists_305 ?_
                        refine z_aload_n C rfl dL_lists_306 ?_
                        refine z_iconst 3 (by decide) C dL_lists_307 ?_
                        refine z_mld C hS (show (3 : Int32) = nI 3 from rfl) (by decide) ((up1_ne (by omega)).trans ((up1_ne (by omega)).trans hm3)) dL_lists_308 ?_
                        refine z_imul C dL_lists_309 ?_
                        refine z_iadd C dL_lists_310 ?_
                        refine z_iload C rfl dL_lists_311 ?_
                        refine z_mst C hS (ix3 (c' := 142) rfl _) (by omega) dL_lists_313 ?_
                        intro S313 hS
                        refine z_aload_n C rfl dL_lists_314 ?_
                        refine z_iconst 3 (by decide) C dL_lists_315 ?_
                        refine z_dup2 rfl rfl C dL_lists_316 ?_
                        refine z_mld C hS (show (3 : Int32) = nI 3 from rfl) (by decide) ((up1_ne (by omega)).trans ((up1_ne (by omega)).trans ((up1_ne (by omega)).trans hm3))) dL_lists_317 ?_
                        refine z_iconst 1 (by decide) C dL_lists_318 ?_
                        refine z_iadd C dL_lists_319 ?_
                        refine z_mst C hS (show (3 : Int32) = nI 3 from rfl) (by decide) dL_lists_320 ?_
                        intro S320 hS
                        exact J _ _ _ _ hS (see_lst ho hl9 (nI_pos' (by omega)) hM hV).1 (see_lst ho hl9 (nI_pos' (by omega)) hM hV).2 (Or.inr (Or.inr ⟨by rw [up1_ne (by decide), up1_ne (by omega), up1_ne (by omega), up1_ne (by omega), hm2]; exact fun q => absurd ((nI_eq (by omega) (by omega)).1 q) (by omega), fun q => absurd (q ▸ nI_pos' (show dL D < 2 ^ 31 by omega)) (by decide), by rw [up1_self, ← nI_succ, nI_pred]⟩))
                    · exact h265.elim
                  · refine z_tableOut 256 C dL_lists_75 (by decide) (by decide) ?_
                    refine z_aload_n C rfl dL_lists_256 ?_
                    refine z_bipush 20 (by decide) C dL_lists_257 ?_
                    refine z_iload C rfl dL_lists_259 ?_
                    refine z_iload C rfl dL_lists_261 ?_
                    refine z_iload C rfl dL_lists_263 ?_
                    refine z_callLH 5 [zr (some x), zi 20, zi (nI j9), zi o, zi (nI j50)] C Nc Sc (DD_20 hl0 hS.1 j9 j50 o (by omega) ho9 (by omega)) rfl (zgoodS LWl_good wq201 wq202 wq4 wq203) rfl rfl rfl (by decide +kernel) rfl (by rw [hR]; exact ⟨Nat.le_of_ble_eq_true rfl, Nat.le_of_ble_eq_true rfl⟩) (by rw [hR]; exact ⟨Nat.le_of_ble_eq_true rfl, Nat.le_of_ble_eq_true rfl⟩) (Nat.le_of_ble_eq_true rfl) dL_lists_265 (fun v265 S265 h265 => ?_) (fun E265 S265 h265 => ?_)
                    · obtain ⟨z, D1, rfl, hr, hY, hkp⟩ := h265
                      replace hS := hS.kp hY hkp
                      have J : ∀ (D1 : ZD) (f1 : Nat → Int32) (S1 : ZM) (z : Int32), mS D1 x m Fw f1 S1 → rM D1 f1 → LV n D1 → ((nI j9 = f1 2 ∧ z = -2005) ∨ (¬ nI j9 = f1 2 ∧ z = -2003) ∨ (¬ nI j9 = f1 2 ∧ ¬ z = -2003 ∧ z = f1 3 - 1)) → zW X 9 5 42 S1 321 [some (zr (some x)), some (zr (some m)), some (zr (some sc.1)), some (zi (nI i)), some (zi (nI j9)), some (zi (nI j23)), some (zi (nI j50)), some (zi o), some (zi z)] [] := by
                        intro D1 f1 S1 z hS1 hM1 hV1 hq
                        refine z_iload C rfl dL_lists_321 ?_
                        refine z_iload C rfl dL_lists_323 ?_
                        refine z_aload_n C rfl dL_lists_325 ?_
                        refine z_iconst 2 (by decide) C dL_lists_326 ?_
                        refine z_mld C hS1 (show (2 : Int32) = nI 2 from rfl) (by decide) rfl dL_lists_327 ?_
                        refine z_icmp_ne 337 C dL_lists_328 (by decide) (fun c328 => ?_) (fun c328 => ?_)
                        · refine z_iload C rfl dL_lists_337 ?_
                          refine z_sipush (-2003) (by decide) C dL_lists_339 ?_
                          refine z_icmp_ne 351 C dL_lists_342 (by decide) (fun c342 => ?_) (fun c342 => ?_)
                          · refine z_aload_n C rfl dL_lists_351 ?_
                            refine z_iconst 3 (by decide) C dL_lists_352 ?_
                            refine z_mld C hS1 (show (3 : Int32) = nI 3 from rfl) (by decide) rfl dL_lists_353 ?_
                            refine z_iconst 1 (by decide) C dL_lists_354 ?_
                            refine z_isub C dL_lists_355 ?_
                            refine z_icmp_ne 363 C dL_lists_356 (by decide) (fun c356 => ?_) (fun c356 => ?_)
                            · exfalso
                              rcases hq with ⟨q1, q2⟩ | ⟨q1, q2⟩ | ⟨q1, q2, q3⟩ <;> first | exact c328 q1 | exact q1 c328 | exact c356 q2 | exact c356 q3 | exact q2 c342 | exact c342 q2
                            · refine z_iconst 1 (by decide) C dL_lists_359 ?_
                              refine z_goto 364 C dL_lists_360 (by decide) ?_
                              refine z_zreturn C F (Nat.le_of_ble_eq_true rfl) (Nat.le_of_ble_eq_true rfl) (by decide) dL_lists_364 ?_
                              exact ⟨_, rfl, f1, hS1, hM1, hV1⟩
                          · refine z_sipush (-2003) (by decide) C dL_lists_345 ?_
                            refine z_goto 356 C dL_lists_348 (by decide) ?_
                            refine z_icmp_ne 363 C dL_lists_356 (by decide) (fun c356 => ?_) (fun c356 => ?_)
                            · exfalso
                              rcases hq with ⟨q1, q2⟩ | ⟨q1, q2⟩ | ⟨q1, q2, q3⟩ <;> first | exact c328 q1 | exact q1 c328 | exact c356 q2 | exact c356 q3 | exact q2 c342 | exact c342 q2
                            · refine z_iconst 1 (by decide) C dL_lists_359 ?_
                              refine z_goto 364 C dL_lists_360 (by decide) ?_
                              refine z_zreturn C F (Nat.le_of_ble_eq_true rfl) (Nat.le_of_ble_eq_true rfl) (by decide) dL_lists_364 ?_
                              exact ⟨_, rfl, f1, hS1, hM1, hV1⟩
                        · refine z_sipush (-2005) (by decide) C dL_lists_331 ?_
                          refine z_goto 356 C dL_lists_334 (by decide) ?_
                          refine z_icmp_ne 363 C dL_lists_356 (by decide) (fun c356 => ?_) (fun c356 => ?_)
                          · exfalso
                            rcases hq with ⟨q1, q2⟩ | ⟨q1, q2⟩ | ⟨q1, q2, q3⟩ <;> first | exact c328 q1 | exact q1 c328 | exact c356 q2 | exact c356 q3 | exact q2 c342 | exact c342 q2
                          · refine z_iconst 1 (by decide) C dL_lists_359 ?_
                            refine z_goto 364 C dL_lists_360 (by decide) ?_
                            refine z_zreturn C F (Nat.le_of_ble_eq_true rfl) (Nat.le_of_ble_eq_true rfl) (by decide) dL_lists_364 ?_
                            exact ⟨_, rfl, f1, hS1, hM1, hV1⟩
                      refine z_istore [_, _, _, _, _, _, _, _, _] C (by decide) rfl dL_lists_268 ?_
                      refine z_iload C rfl dL_lists_270 ?_
                      refine z_if_lt 321 C dL_lists_272 (by decide) (fun c272 => ?_) (fun c272 => ?_)
                      · rcases hr with ⟨-, -, rfl, -⟩ | ⟨hn9, rfl, rfl⟩ | ⟨hi9, -, rfl, rfl⟩
                        · exact absurd c272 (nI_pos (by omega))
                        · exact J _ _ _ _ hS hM hV (Or.inl ⟨by rw [hm2]; exact congrArg nI (by omega), rfl⟩)
                        · exact J _ _ _ _ hS hM hV (Or.inr (Or.inl ⟨by rw [hm2]; exact fun q => absurd ((nI_eq (by omega) (by omega)).1 q) (by omega), rfl⟩))
                      · rcases hr with ⟨hi9, hl9, rfl, rfl⟩ | ⟨-, rfl, -⟩ | ⟨-, -, rfl, -⟩
                        rotate_left
                        · exact absurd (by decide) c272
                        · exact absurd (by decide) c272
                        refine z_aload_n C rfl dL_lists_275 ?_
                        refine z_sipush 140 (by decide) C dL_lists_276 ?_
                        refine z_iconst 3 (by decide) C dL_lists_279 ?_
                        refine z_aload_n C rfl dL_lists_280 ?_
                        refine z_iconst 3 (by decide) C dL_lists_281 ?_
                        refine z_mld C hS (show (3 : Int32) = nI 3 from rfl) (by decide) hm3 dL_lists_282 ?_
                        refine z_imul C dL_lists_283 ?_
                        refine z_iadd C dL_lists_284 ?_
                        refine z_iload C rfl dL_lists_285 ?_
                        refine z_mst C hS (ix3 (c' := 140) rfl _) (by omega) dL_lists_287 ?_
                        intro S287 hS
                        refine z_aload_n C rfl dL_lists_288 ?_
                        refine z_sipush 141 (by decide) C dL_lists_289 ?_
                        refine z_iconst 3 (by decide) C dL_lists_292 ?_
                        refine z_aload_n C rfl dL_lists_293 ?_
                        refine z_iconst 3 (by decide) C dL_lists_294 ?_
                        refine z_mld C hS (show (3 : Int32) = nI 3 from rfl) (by decide) ((up1_ne (by omega)).trans hm3) dL_lists_295 ?_
                        refine z_imul C dL_lists_296 ?_
                        refine z_iadd C dL_lists_297 ?_
                        refine z_iload C rfl dL_lists_298 ?_
                        refine z_mst C hS (ix3 (c' := 141) rfl _) (by omega) dL_lists_300 ?_
                        intro S300 hS
                        refine z_aload_n C rfl dL_lists_301 ?_
                        refine z_sipush 142 (by decide) C dL_lists_302 ?_
                        refine z_iconst 3 (by decide) C dL_lists_305 ?_
                        refine z_aload_n C rfl dL_lists_306 ?_
                        refine z_iconst 3 (by decide) C dL_lists_307 ?_
                        refine z_mld C hS (show (3 : Int32) = nI 3 from rfl) (by decide) ((up1_ne (by omega)).trans ((up1_ne (by omega)).trans hm3)) dL_lists_308 ?_
                        refine z_imul C dL_lists_309 ?_
                        refine z_iadd C dL_lists_310 ?_
                        refine z_iload C rfl dL_lists_311 ?_
                        refine z_mst C hS (ix3 (c' := 142) rfl _) (by omega) dL_lists_313 ?_
                        intro S313 hS
                        refine z_aload_n C rfl dL_lists_314 ?_
                        refine z_iconst 3 (by decide) C dL_lists_315 ?_
                        refine z_dup2 rfl rfl C dL_lists_316 ?_
                        refine z_mld C hS (show (3 : Int32) = nI 3 from rfl) (by decide) ((up1_ne (by omega)).trans ((up1_ne (by omega)).trans ((up1_ne (by omega)).trans hm3))) dL_lists_317 ?_
                        refine z_iconst 1 (by decide) C dL_lists_318 ?_
                        refine z_iadd C dL_lists_319 ?_
                        refine z_mst C hS (show (3 : Int32) = nI 3 from rfl) (by decide) dL_lists_320 ?_
                        intro S320 hS
                        exact J _ _ _ _ hS (see_lst ho hl9 (nI_pos' (by omega)) hM hV).1 (see_lst ho hl9 (nI_pos' (by omega)) hM hV).2 (Or.inr (Or.inr ⟨by rw [up1_ne (by decide), up1_ne (by omega), up1_ne (by omega), up1_ne (by omega), hm2]; exact fun q => absurd ((nI_eq (by omega) (by omega)).1 q) (by omega), fun q => absurd (q ▸ nI_pos' (show dL D < 2 ^ 31 by omega)) (by decide), by rw [up1_self, ← nI_succ, nI_pred]⟩))
                    · exact h265.elim
                · exact h72.elim
              · exact h63.elim
            · exact h60.elim
          · exact h50.elim
        · refine z_iconst 0 (by decide) C dL_lists_39 ?_
          refine z_goto 53 C dL_lists_40 (by decide) ?_
          refine z_istore [_, _, _, _, _, _, _, _, _] C (by decide) rfl dL_lists_53 ?_
          refine z_aload_n C rfl dL_lists_55 ?_
          refine z_iload_n C rfl dL_lists_56 ?_
          refine z_iconst 2 (by decide) C dL_lists_57 ?_
          refine z_iadd C dL_lists_58 ?_
          refine z_int (show nI i + 2 = nI (i + 2) from nI_add i 2) ?_
          refine z_iconst 4 (by decide) C dL_lists_59 ?_
          refine z_callL 3 [zr (some sc.1), zi (nI (i + 2)), zi (nI (4))] C Nc Sc (L_pick hl0 hN (i + 2) (by omega) (4) (by decide) (by omega)) rfl (zgoodS LWl_good wq207 wq208 wq4 wq209) rfl rfl rfl (by decide +kernel) rfl (by rw [hR]; exact ⟨Nat.le_of_ble_eq_true rfl, Nat.le_of_ble_eq_true rfl⟩) (by rw [hR]; exact ⟨Nat.le_of_ble_eq_true rfl, Nat.le_of_ble_eq_true rfl⟩) (Nat.le_of_ble_eq_true rfl) dL_lists_60 (fun v60 S60 h60 => ?_) (fun E60 S60 h60 => ?_)
          · obtain ⟨j60, hj60, rfl, q60⟩ := h60
            subst q60
            refine z_callS 1 [zi (nI j60)] C (L_order hl0 (nI j60)) rfl (zgoodS LWl_good wq213 wq214 wq4 wq215) rfl rfl rfl (by decide +kernel) rfl (by rw [hR]; exact ⟨Nat.le_of_ble_eq_true rfl, Nat.le_of_ble_eq_true rfl⟩) (by rw [hR]; exact ⟨Nat.le_of_ble_eq_true rfl, Nat.le_of_ble_eq_true rfl⟩) (Nat.le_of_ble_eq_true rfl) dL_lists_63 (fun v63 S63 h63 => ?_) (fun E63 S63 h63 => ?_)
            · obtain ⟨rfl, q63⟩ := h63
              subst q63
              have ho9 := orI_any (nI j60)
              obtain ⟨o, eo⟩ : ∃ o : Int32, o = orI (nI j60) := ⟨_, rfl⟩
              rw [← eo] at ho9
              refine z_int eo.symm ?_
              refine z_istore [_, _, _, _, _, _, _, _, _] C (by decide) rfl dL_lists_66 ?_
              refine z_aload_n C rfl dL_lists_68 ?_
              refine z_iload_n C rfl dL_lists_69 ?_
              refine z_bipush 6 (by decide) C dL_lists_70 ?_
              refine z_callL 3 [zr (some sc.1), zi (nI (i)), zi (nI (6))] C Nc Sc (L_pick hl0 hN (i) (by omega) (6) (by decide) (by omega)) rfl (zgoodS LWl_good wq207 wq208 wq4 wq209) rfl rfl rfl (by decide +kernel) rfl (by rw [hR]; exact ⟨Nat.le_of_ble_eq_true rfl, Nat.le_of_ble_eq_true rfl⟩) (by rw [hR]; exact ⟨Nat.le_of_ble_eq_true rfl, Nat.le_of_ble_eq_true rfl⟩) (Nat.le_of_ble_eq_true rfl) dL_lists_72 (fun v72 S72 h72 => ?_) (fun E72 S72 h72 => ?_)
              · obtain ⟨j72, hj72, rfl, q72⟩ := h72
                subst q72
                rcases (show j72 = 0 ∨ j72 = 1 ∨ j72 = 2 ∨ j72 = 3 ∨ j72 = 4 ∨ j72 = 5 by omega) with rfl | rfl | rfl | rfl | rfl | rfl
                · refine z_tableIn 100 C dL_lists_75 (by decide) (by decide) rfl (by decide) ?_
                  refine z_aload_n C rfl dL_lists_100 ?_
                  refine z_bipush 21 (by decide) C dL_lists_101 ?_
                  refine z_iload C rfl dL_lists_103 ?_
                  refine z_iload C rfl dL_lists_105 ?_
                  refine z_iconst 0 (by decide) C dL_lists_107 ?_
                  refine z_callLH 5 [zr (some x), zi 21, zi (nI j23), zi (nI j9), zi 0] C Nc Sc (DD_21 hl0 hS.1 j23 j9 0 (by omega) (by omega)) rfl (zgoodS LWl_good wq201 wq202 wq4 wq203) rfl rfl rfl (by decide +kernel) rfl (by rw [hR]; exact ⟨Nat.le_of_ble_eq_true rfl, Nat.le_of_ble_eq_true rfl⟩) (by rw [hR]; exact ⟨Nat.le_of_ble_eq_true rfl, Nat.le_of_ble_eq_true rfl⟩) (Nat.le_of_ble_eq_true rfl) dL_lists_108 (fun v108 S108 h108 => ?_) (fun E108 S108 h108 => ?_)
                  · obtain ⟨z, D1, rfl, hr, hY, hkp⟩ := h108
                    replace hS := hS.kp hY hkp
                    have J : ∀ (D1 : ZD) (f1 : Nat → Int32) (S1 : ZM) (z : Int32), mS D1 x m Fw f1 S1 → rM D1 f1 → LV n D1 → (nI j23 < f1 3 ∨ z = -2005) → zW X 9 5 42 S1 130 [some (zr (some x)), some (zr (some m)), some (zr (some sc.1)), some (zi (nI i)), some (zi (nI j9)), some (zi (nI j23)), some (zi 0), some (zi o), some (zi z)] [] := by
                      intro D1 f1 S1 z hS1 hM1 hV1 hq
                      refine z_iload C rfl dL_lists_130 ?_
                      refine z_aload_n C rfl dL_lists_132 ?_
                      refine z_iconst 3 (by decide) C dL_lists_133 ?_
                      refine z_mld C hS1 (show (3 : Int32) = nI 3 from rfl) (by decide) rfl dL_lists_134 ?_
                      refine z_icmp_lt 146 C dL_lists_135 (by decide) (fun c135 => ?_) (fun c135 => ?_)
                      · refine z_iconst 1 (by decide) C dL_lists_146 ?_
                        refine z_goto 151 C dL_lists_147 (by decide) ?_
                        refine z_zreturn C F (Nat.le_of_ble_eq_true rfl) (Nat.le_of_ble_eq_true rfl) (by decide) dL_lists_151 ?_
                        exact ⟨_, rfl, f1, hS1, hM1, hV1⟩
                      · refine z_iload C rfl dL_lists_138 ?_
                        refine z_sipush (-2005) (by decide) C dL_lists_140 ?_
                        refine z_icmp_ne 150 C dL_lists_143 (by decide) (fun c143 => ?_) (fun c143 => ?_)
                        · rcases hq with q | q
                          · exact absurd q c135
                          · exact absurd q c143
                        · refine z_iconst 1 (by decide) C dL_lists_146 ?_
                          refine z_goto 151 C dL_lists_147 (by decide) ?_
                          refine z_zreturn C F (Nat.le_of_ble_eq_true rfl) (Nat.le_of_ble_eq_true rfl) (by decide) dL_lists_151 ?_
                          exact ⟨_, rfl, f1, hS1, hM1, hV1⟩
                    refine z_istore [_, _, _, _, _, _, _, _, _] C (by decide) rfl dL_lists_111 ?_
                    refine z_iload C rfl dL_lists_113 ?_
                    refine z_if_lt 130 C dL_lists_115 (by decide) (fun c115 => ?_) (fun c115 => ?_)
                    · rcases hr with ⟨-, -, hz9, -⟩ | ⟨rfl, rfl⟩ | ⟨hi9, rfl, rfl⟩
                      · exact absurd c115 (Int32.not_lt.mpr hz9)
                      · exact J _ _ _ _ hS hM hV (Or.inr rfl)
                      · exact J _ _ _ _ hS hM hV (Or.inl (by rw [hm3]; exact nI_lt hi9 (by omega)))
                    · rcases hr with ⟨hi9, hr9, hz9, rfl⟩ | ⟨rfl, -⟩ | ⟨-, rfl, -⟩
                      rotate_left
                      · exact absurd (by decide) c115
                      · exact absurd (by decide) c115
                      refine z_aload_n C rfl dL_lists_118 ?_
                      refine z_sipush 140 (by decide) C dL_lists_119 ?_
                      refine z_iconst 3 (by decide) C dL_lists_122 ?_
                      refine z_iload C rfl dL_lists_123 ?_
                      refine z_imul C dL_lists_125 ?_
                      refine z_iadd C dL_lists_126 ?_
                      refine z_iload C rfl dL_lists_127 ?_
                      refine z_mst C hS (ix3 (c' := 140) rfl _) (by omega) dL_lists_129 ?_
                      intro S129 hS
                      exact J _ _ _ _ hS (see_set ho hi9 hM hV).1 (see_set ho hi9 hM hV).2 (Or.inl (by rw [up1_ne (by omega), hm3]; exact nI_lt hi9 (by omega)))
                  · exact h108.elim
                · refine z_tableIn 152 C dL_lists_75 (by decide) (by decide) rfl (by decide) ?_
                  refine z_aload_n C rfl dL_lists_152 ?_
                  refine z_bipush 22 (by decide) C dL_lists_153 ?_
                  refine z_iload C rfl dL_lists_155 ?_
                  refine z_iload C rfl dL_lists_157 ?_
                  refine z_iconst 0 (by decide) C dL_lists_159 ?_
                  refine z_callLH 5 [zr (some x), zi 22, zi (nI j23), zi o, zi 0] C Nc Sc (DD_22 hl0 hS.1 j23 o 0 (by omega) ho9) rfl (zgoodS LWl_good wq201 wq202 wq4 wq203) rfl rfl rfl (by decide +kernel) rfl (by rw [hR]; exact ⟨Nat.le_of_ble_eq_true rfl, Nat.le_of_ble_eq_true rfl⟩) (by rw [hR]; exact ⟨Nat.le_of_ble_eq_true rfl, Nat.le_of_ble_eq_true rfl⟩) (Nat.le_of_ble_eq_true rfl) dL_lists_160 (fun v160 S160 h160 => ?_) (fun E160 S160 h160 => ?_)
                  · obtain ⟨z, D1, rfl, hr, hY, hkp⟩ := h160
                    replace hS := hS.kp hY hkp
                    have J : ∀ (D1 : ZD) (f1 : Nat → Int32) (S1 : ZM) (z : Int32), mS D1 x m Fw f1 S1 → rM D1 f1 → LV n D1 → (nI j23 < f1 3 ∨ z = -2005) → zW X 9 5 42 S1 182 [some (zr (some x)), some (zr (some m)), some (zr (some sc.1)), some (zi (nI i)), some (zi (nI j9)), some (zi (nI j23)), some (zi 0), some (zi o), some (zi z)] [] := by
                      intro D1 f1 S1 z hS1 hM1 hV1 hq
                      refine z_iload C rfl dL_lists_182 ?_
                      refine z_aload_n C rfl dL_lists_184 ?_
                      refine z_iconst 3 (by decide) C dL_lists_185 ?_
                      refine z_mld C hS1 (show (3 : Int32) = nI 3 from rfl) (by decide) rfl dL_lists_186 ?_
                      refine z_icmp_lt 198 C dL_lists_187 (by decide) (fun c187 => ?_) (fun c187 => ?_)
                      · refine z_iconst 1 (by decide) C dL_lists_198 ?_
                        refine z_goto 203 C dL_lists_199 (by decide) ?_
                        refine z_zreturn C F (Nat.le_of_ble_eq_true rfl) (Nat.le_of_ble_eq_true rfl) (by decide) dL_lists_203 ?_
                        exact ⟨_, rfl, f1, hS1, hM1, hV1⟩
                      · refine z_iload C rfl dL_lists_190 ?_
                        refine z_sipush (-2005) (by decide) C dL_lists_192 ?_
                        refine z_icmp_ne 202 C dL_lists_195 (by decide) (fun c195 => ?_) (fun c195 => ?_)
                        · rcases hq with q | q
                          · exact absurd q c187
                          · exact absurd q c195
                        · refine z_iconst 1 (by decide) C dL_lists_198 ?_
                          refine z_goto 203 C dL_lists_199 (by decide) ?_
                          refine z_zreturn C F (Nat.le_of_ble_eq_true rfl) (Nat.le_of_ble_eq_true rfl) (by decide) dL_lists_203 ?_
                          exact ⟨_, rfl, f1, hS1, hM1, hV1⟩
                    refine z_istore [_, _, _, _, _, _, _, _, _] C (by decide) rfl dL_lists_163 ?_
                    refine z_iload C rfl dL_lists_165 ?_
                    refine z_if_lt 182 C dL_lists_167 (by decide) (fun c167 => ?_) (fun c167 => ?_)
                    · rcases hr with ⟨-, hz9, -⟩ | ⟨-, rfl, rfl⟩
                      · exact absurd c167 (Int32.not_lt.mpr hz9)
                      · exact J _ _ _ _ hS hM hV (Or.inr rfl)
                    · rcases hr with ⟨hi9, hz9, rfl⟩ | ⟨-, rfl, -⟩
                      rotate_left
                      · exact absurd (by decide) c167
                      refine z_aload_n C rfl dL_lists_170 ?_
                      refine z_sipush 141 (by decide) C dL_lists_171 ?_
                      refine z_iconst 3 (by decide) C dL_lists_174 ?_
                      refine z_iload C rfl dL_lists_175 ?_
                      refine z_imul C dL_lists_177 ?_
                      refine z_iadd C dL_lists_178 ?_
                      refine z_iload C rfl dL_lists_179 ?_
                      refine z_mst C hS (ix3 (c' := 141) rfl _) (by omega) dL_lists_181 ?_
                      intro S181 hS
                      exact J _ _ _ _ hS (see_ord ho hi9 hM hV).1 (see_ord ho hi9 hM hV).2 (Or.inl (by rw [up1_ne (by omega), hm3]; exact nI_lt hi9 (by omega)))
                  · exact h160.elim
                · refine z_tableIn 204 C dL_lists_75 (by decide) (by decide) rfl (by decide) ?_
                  refine z_aload_n C rfl dL_lists_204 ?_
                  refine z_bipush 23 (by decide) C dL_lists_205 ?_
                  refine z_iload C rfl dL_lists_207 ?_
                  refine z_iload C rfl dL_lists_209 ?_
                  refine z_iconst 0 (by decide) C dL_lists_211 ?_
                  refine z_callLH 5 [zr (some x), zi 23, zi (nI j23), zi 0, zi 0] C Nc Sc (DD_23 hl0 hS.1 j23 0 0 (by omega) (by omega)) rfl (zgoodS LWl_good wq201 wq202 wq4 wq203) rfl rfl rfl (by decide +kernel) rfl (by rw [hR]; exact ⟨Nat.le_of_ble_eq_true rfl, Nat.le_of_ble_eq_true rfl⟩) (by rw [hR]; exact ⟨Nat.le_of_ble_eq_true rfl, Nat.le_of_ble_eq_true rfl⟩) (Nat.le_of_ble_eq_true rfl) dL_lists_212 (fun v212 S212 h212 => ?_) (fun E212 S212 h212 => ?_)
                  · obtain ⟨z, D1, rfl, hr, hY, hkp⟩ := h212
                    replace hS := hS.kp hY hkp
                    have J : ∀ (D1 : ZD) (f1 : Nat → Int32) (S1 : ZM) (z : Int32), mS D1 x m Fw f1 S1 → rM D1 f1 → LV n D1 → (nI j23 < f1 3 ∨ z = -2005) → zW X 9 5 42 S1 234 [some (zr (some x)), some (zr (some m)), some (zr (some sc.1)), some (zi (nI i)), some (zi (nI j9)), some (zi (nI j23)), some (zi 0), some (zi o), some (zi z)] [] := by
                      intro D1 f1 S1 z hS1 hM1 hV1 hq
                      refine z_iload C rfl dL_lists_234 ?_
                      refine z_aload_n C rfl dL_lists_236 ?_
                      refine z_iconst 3 (by decide) C dL_lists_237 ?_
                      refine z_mld C hS1 (show (3 : Int32) = nI 3 from rfl) (by decide) rfl dL_lists_238 ?_
                      refine z_icmp_lt 250 C dL_lists_239 (by decide) (fun c239 => ?_) (fun c239 => ?_)
                      · refine z_iconst 1 (by decide) C dL_lists_250 ?_
                        refine z_goto 255 C dL_lists_251 (by decide) ?_
                        refine z_zreturn C F (Nat.le_of_ble_eq_true rfl) (Nat.le_of_ble_eq_true rfl) (by decide) dL_lists_255 ?_
                        exact ⟨_, rfl, f1, hS1, hM1, hV1⟩
                      · refine z_iload C rfl dL_lists_242 ?_
                        refine z_sipush (-2005) (by decide) C dL_lists_244 ?_
                        refine z_icmp_ne 254 C dL_lists_247 (by decide) (fun c247 => ?_) (fun c247 => ?_)
                        · rcases hq with q | q
                          · exact absurd q c239
                          · exact absurd q c247
                        · refine z_iconst 1 (by decide) C dL_lists_250 ?_
                          refine z_goto 255 C dL_lists_251 (by decide) ?_
                          refine z_zreturn C F (Nat.le_of_ble_eq_true rfl) (Nat.le_of_ble_eq_true rfl) (by decide) dL_lists_255 ?_
                          exact ⟨_, rfl, f1, hS1, hM1, hV1⟩
                    refine z_istore [_, _, _, _, _, _, _, _, _] C (by decide) rfl dL_lists_215 ?_
                    refine z_iload C rfl dL_lists_217 ?_
                    refine z_if_lt 234 C dL_lists_219 (by decide) (fun c219 => ?_) (fun c219 => ?_)
                    · rcases hr with ⟨hi9, rfl, -⟩ | ⟨-, rfl, rfl⟩
                      · exact absurd c219 (Int32.not_lt.mpr (hV.2.2.2 _ hi9))
                      · exact J _ _ _ _ hS hM hV (Or.inr rfl)
                    · rcases hr with ⟨hi9, rfl, rfl⟩ | ⟨-, rfl, -⟩
                      rotate_left
                      · exact absurd (by decide) c219
                      refine z_aload_n C rfl dL_lists_222 ?_
                      refine z_sipush 142 (by decide) C dL_lists_223 ?_
                      refine z_iconst 3 (by decide) C dL_lists_226 ?_
                      refine z_iload C rfl dL_lists_227 ?_
                      refine z_imul C dL_lists_229 ?_
                      refine z_iadd C dL_lists_230 ?_
                      refine z_iload C rfl dL_lists_231 ?_
                      refine z_mst C hS (ix3 (c' := 142) rfl _) (by omega) dL_lists_233 ?_
                      intro S233 hS
                      exact J _ _ _ _ hS (see_lim ho hi9 (by decide) hM hV).1 (see_lim ho hi9 (by decide) hM hV).2 (Or.inl (by rw [up1_ne (by omega), hm3]; exact nI_lt hi9 (by omega)))
                  · exact h212.elim
                · refine z_tableOut 256 C dL_lists_75 (by decide) (by decide) ?_
                  refine z_aload_n C rfl dL_lists_256 ?_
                  refine z_bipush 20 (by decide) C dL_lists_257 ?_
                  refine z_iload C rfl dL_lists_259 ?_
                  refine z_iload C rfl dL_lists_261 ?_
                  refine z_iload C rfl dL_lists_263 ?_
                  refine z_callLH 5 [zr (some x), zi 20, zi (nI j9), zi o, zi 0] C Nc Sc (DD_20 hl0 hS.1 j9 0 o (by omega) ho9 (by omega)) rfl (zgoodS LWl_good wq201 wq202 wq4 wq203) rfl rfl rfl (by decide +kernel) rfl (by rw [hR]; exact ⟨Nat.le_of_ble_eq_true rfl, Nat.le_of_ble_eq_true rfl⟩) (by rw [hR]; exact ⟨Nat.le_of_ble_eq_true rfl, Nat.le_of_ble_eq_true rfl⟩) (Nat.le_of_ble_eq_true rfl) dL_lists_265 (fun v265 S265 h265 => ?_) (fun E265 S265 h265 => ?_)
                  · obtain ⟨z, D1, rfl, hr, hY, hkp⟩ := h265
                    replace hS := hS.kp hY hkp
                    have J : ∀ (D1 : ZD) (f1 : Nat → Int32) (S1 : ZM) (z : Int32), mS D1 x m Fw f1 S1 → rM D1 f1 → LV n D1 → ((nI j9 = f1 2 ∧ z = -2005) ∨ (¬ nI j9 = f1 2 ∧ z = -2003) ∨ (¬ nI j9 = f1 2 ∧ ¬ z = -2003 ∧ z = f1 3 - 1)) → zW X 9 5 42 S1 321 [some (zr (some x)), some (zr (some m)), some (zr (some sc.1)), some (zi (nI i)), some (zi (nI j9)), some (zi (nI j23)), some (zi 0), some (zi o), some (zi z)] [] := by
                      intro D1 f1 S1 z hS1 hM1 hV1 hq
                      refine z_iload C rfl dL_lists_321 ?_
                      refine z_iload C rfl dL_lists_323 ?_
                      refine z_aload_n C rfl dL_lists_325 ?_
                      refine z_iconst 2 (by decide) C dL_lists_326 ?_
                      refine z_mld C hS1 (show (2 : Int32) = nI 2 from rfl) (by decide) rfl dL_lists_327 ?_
                      refine z_icmp_ne 337 C dL_lists_328 (by decide) (fun c328 => ?_) (fun c328 => ?_)
                      · refine z_iload C rfl dL_lists_337 ?_
                        refine z_sipush (-2003) (by decide) C dL_lists_339 ?_
                        refine z_icmp_ne 351 C dL_lists_342 (by decide) (fun c342 => ?_) (fun c342 => ?_)
                        · refine z_aload_n C rfl dL_lists_351 ?_
                          refine z_iconst 3 (by decide) C dL_lists_352 ?_
                          refine z_mld C hS1 (show (3 : Int32) = nI 3 from rfl) (by decide) rfl dL_lists_353 ?_
                          refine z_iconst 1 (by decide) C dL_lists_354 ?_
                          refine z_isub C dL_lists_355 ?_
                          refine z_icmp_ne 363 C dL_lists_356 (by decide) (fun c356 => ?_) (fun c356 => ?_)
                          · exfalso
                            rcases hq with ⟨q1, q2⟩ | ⟨q1, q2⟩ | ⟨q1, q2, q3⟩ <;> first | exact c328 q1 | exact q1 c328 | exact c356 q2 | exact c356 q3 | exact q2 c342 | exact c342 q2
                          · refine z_iconst 1 (by decide) C dL_lists_359 ?_
                            refine z_goto 364 C dL_lists_360 (by decide) ?_
                            refine z_zreturn C F (Nat.le_of_ble_eq_true rfl) (Nat.le_of_ble_eq_true rfl) (by decide) dL_lists_364 ?_
                            exact ⟨_, rfl, f1, hS1, hM1, hV1⟩
                        · refine z_sipush (-2003) (by decide) C dL_lists_345 ?_
                          refine z_goto 356 C dL_lists_348 (by decide) ?_
                          refine z_icmp_ne 363 C dL_lists_356 (by decide) (fun c356 => ?_) (fun c356 => ?_)
                          · exfalso
                            rcases hq with ⟨q1, q2⟩ | ⟨q1, q2⟩ | ⟨q1, q2, q3⟩ <;> first | exact c328 q1 | exact q1 c328 | exact c356 q2 | exact c356 q3 | exact q2 c342 | exact c342 q2
                          · refine z_iconst 1 (by decide) C dL_lists_359 ?_
                            refine z_goto 364 C dL_lists_360 (by decide) ?_
                            refine z_zreturn C F (Nat.le_of_ble_eq_true rfl) (Nat.le_of_ble_eq_true rfl) (by decide) dL_lists_364 ?_
                            exact ⟨_, rfl, f1, hS1, hM1, hV1⟩
                      · refine z_sipush (-2005) (by decide) C dL_lists_331 ?_
                        refine z_goto 356 C dL_lists_334 (by decide) ?_
                        refine z_icmp_ne 363 C dL_lists_356 (by decide) (fun c356 => ?_) (fun c356 => ?_)
                        · exfalso
                          rcases hq with ⟨q1, q2⟩ | ⟨q1, q2⟩ | ⟨q1, q2, q3⟩ <;> first | exact c328 q1 | exact q1 c328 | exact c356 q2 | exact c356 q3 | exact q2 c342 | exact c342 q2
                        · refine z_iconst 1 (by decide) C dL_lists_359 ?_
                          refine z_goto 364 C dL_lists_360 (by decide) ?_
                          refine z_zreturn C F (Nat.le_of_ble_eq_true rfl) (Nat.le_of_ble_eq_true rfl) (by decide) dL_lists_364 ?_
                          exact ⟨_, rfl, f1, hS1, hM1, hV1⟩
                    refine z_istore [_, _, _, _, _, _, _, _, _] C (by decide) rfl dL_lists_268 ?_
                    refine z_iload C rfl dL_lists_270 ?_
                    refine z_if_lt 321 C dL_lists_272 (by decide) (fun c272 => ?_) (fun c272 => ?_)
                    · rcases hr with ⟨-, -, rfl, -⟩ | ⟨hn9, rfl, rfl⟩ | ⟨hi9, -, rfl, rfl⟩
                      · exact absurd c272 (nI_pos (by omega))
                      · exact J _ _ _ _ hS hM hV (Or.inl ⟨by rw [hm2]; exact congrArg nI (by omega), rfl⟩)
                      · exact J _ _ _ _ hS hM hV (Or.inr (Or.inl ⟨by rw [hm2]; exact fun q => absurd ((nI_eq (by omega) (by omega)).1 q) (by omega), rfl⟩))
                    · rcases hr with ⟨hi9, hl9, rfl, rfl⟩ | ⟨-, rfl, -⟩ | ⟨-, -, rfl, -⟩
                      rotate_left
                      · exact absurd (by decide) c272
                      · exact absurd (by decide) c272
                      refine z_aload_n C rfl dL_lists_275 ?_
                      refine z_sipush 140 (by decide) C dL_lists_276 ?_
                      refine z_iconst 3 (by decide) C dL_lists_279 ?_
                      refine z_aload_n C rfl dL_lists_280 ?_
                      refine z_iconst 3 (by decide) C dL_lists_281 ?_
                      refine z_mld C hS (show (3 : Int32) = nI 3 from rfl) (by decide) hm3 dL_lists_282 ?_
                      refine z_imul C dL_lists_283 ?_
                      refine z_iadd C dL_lists_284 ?_
                      refine z_iload C rfl dL_lists_285 ?_
                      refine z_mst C hS (ix3 (c' := 140) rfl _) (by omega) dL_lists_287 ?_
                      intro S287 hS
                      refine z_aload_n C rfl dL_lists_288 ?_
                      refine z_sipush 141 (by decide) C dL_lists_289 ?_
                      refine z_iconst 3 (by decide) C dL_lists_292 ?_
                      refine z_aload_n C rfl dL_lists_293 ?_
                      refine z_iconst 3 (by decide) C dL_lists_294 ?_
                      refine z_mld C hS (show (3 : Int32) = nI 3 from rfl) (by decide) ((up1_ne (by omega)).trans hm3) dL_lists_295 ?_
                      refine z_imul C dL_lists_296 ?_
                      refine z_iadd C dL_lists_297 ?_
                      refine z_iload C rfl dL_lists_298 ?_
                      refine z_mst C hS (ix3 (c' := 141) rfl _) (by omega) dL_lists_300 ?_
                      intro S300 hS
                      refine z_aload_n C rfl dL_lists_301 ?_
                      refine z_sipush 142 (by decide) C dL_lists_302 ?_
                      refine z_iconst 3 (by decide) C dL_lists_305 ?_
                      refine z_aload_n C rfl dL_lists_306 ?_
                      refine z_iconst 3 (by decide) C dL_lists_307 ?_
                      refine z_mld C hS (show (3 : Int32) = nI 3 from rfl) (by decide) ((up1_ne (by omega)).trans ((up1_ne (by omega)).trans hm3)) dL_lists_308 ?_
                      refine z_imul C dL_lists_309 ?_
                      refine z_iadd C dL_lists_310 ?_
                      refine z_iload C rfl dL_lists_311 ?_
                      refine z_mst C hS (ix3 (c' := 142) rfl _) (by omega) dL_lists_313 ?_
                      intro S313 hS
                      refine z_aload_n C rfl dL_lists_314 ?_
                      refine z_iconst 3 (by decide) C dL_lists_315 ?_
                      refine z_dup2 rfl rfl C dL_lists_316 ?_
                      refine z_mld C hS (show (3 : Int32) = nI 3 from rfl) (by decide) ((up1_ne (by omega)).trans ((up1_ne (by omega)).trans ((up1_ne (by omega)).trans hm3))) dL_lists_317 ?_
                      refine z_iconst 1 (by decide) C dL_lists_318 ?_
                      refine z_iadd C dL_lists_319 ?_
                      refine z_mst C hS (show (3 : Int32) = nI 3 from rfl) (by decide) dL_lists_320 ?_
                      intro S320 hS
                      exact J _ _ _ _ hS (see_lst ho hl9 (by decide) hM hV).1 (see_lst ho hl9 (by decide) hM hV).2 (Or.inr (Or.inr ⟨by rw [up1_ne (by decide), up1_ne (by omega), up1_ne (by omega), up1_ne (by omega), hm2]; exact fun q => absurd ((nI_eq (by omega) (by omega)).1 q) (by omega), fun q => absurd (q ▸ nI_pos' (show dL D < 2 ^ 31 by omega)) (by decide), by rw [up1_self, ← nI_succ, nI_pred]⟩))
                  · exact h265.elim
                · refine z_tableOut 256 C dL_lists_75 (by decide) (by decide) ?_
                  refine z_aload_n C rfl dL_lists_256 ?_
                  refine z_bipush 20 (by decide) C dL_lists_257 ?_
                  refine z_iload C rfl dL_lists_259 ?_
                  refine z_iload C rfl dL_lists_261 ?_
                  refine z_iload C rfl dL_lists_263 ?_
                  refine z_callLH 5 [zr (some x), zi 20, zi (nI j9), zi o, zi 0] C Nc Sc (DD_20 hl0 hS.1 j9 0 o (by omega) ho9 (by omega)) rfl (zgoodS LWl_good wq201 wq202 wq4 wq203) rfl rfl rfl (by decide +kernel) rfl (by rw [hR]; exact ⟨Nat.le_of_ble_eq_true rfl, Nat.le_of_ble_eq_true rfl⟩) (by rw [hR]; exact ⟨Nat.le_of_ble_eq_true rfl, Nat.le_of_ble_eq_true rfl⟩) (Nat.le_of_ble_eq_true rfl) dL_lists_265 (fun v265 S265 h265 => ?_) (fun E265 S265 h265 => ?_)
                  · obtain ⟨z, D1, rfl, hr, hY, hkp⟩ := h265
                    replace hS := hS.kp hY hkp
                    have J : ∀ (D1 : ZD) (f1 : Nat → Int32) (S1 : ZM) (z : Int32), mS D1 x m Fw f1 S1 → rM D1 f1 → LV n D1 → ((nI j9 = f1 2 ∧ z = -2005) ∨ (¬ nI j9 = f1 2 ∧ z = -2003) ∨ (¬ nI j9 = f1 2 ∧ ¬ z = -2003 ∧ z = f1 3 - 1)) → zW X 9 5 42 S1 321 [some (zr (some x)), some (zr (some m)), some (zr (some sc.1)), some (zi (nI i)), some (zi (nI j9)), some (zi (nI j23)), some (zi 0), some (zi o), some (zi z)] [] := by
                      intro D1 f1 S1 z hS1 hM1 hV1 hq
                      refine z_iload C rfl dL_lists_321 ?_
                      refine z_iload C rfl dL_lists_323 ?_
                      refine z_aload_n C rfl dL_lists_325 ?_
                      refine z_iconst 2 (by decide) C dL_lists_326 ?_
                      refine z_mld C hS1 (show (2 : Int32) = nI 2 from rfl) (by decide) rfl dL_lists_327 ?_
                      refine z_icmp_ne 337 C dL_lists_328 (by decide) (fun c328 => ?_) (fun c328 => ?_)
                      · refine z_iload C rfl dL_lists_337 ?_
                        refine z_sipush (-2003) (by decide) C dL_lists_339 ?_
                        refine z_icmp_ne 351 C dL_lists_342 (by decide) (fun c342 => ?_) (fun c342 => ?_)
                        · refine z_aload_n C rfl dL_lists_351 ?_
                          refine z_iconst 3 (by decide) C dL_lists_352 ?_
                          refine z_mld C hS1 (show (3 : Int32) = nI 3 from rfl) (by decide) rfl dL_lists_353 ?_
                          refine z_iconst 1 (by decide) C dL_lists_354 ?_
                          refine z_isub C dL_lists_355 ?_
                          refine z_icmp_ne 363 C dL_lists_356 (by decide) (fun c356 => ?_) (fun c356 => ?_)
                          · exfalso
                            rcases hq with ⟨q1, q2⟩ | ⟨q1, q2⟩ | ⟨q1, q2, q3⟩ <;> first | exact c328 q1 | exact q1 c328 | exact c356 q2 | exact c356 q3 | exact q2 c342 | exact c342 q2
                          · refine z_iconst 1 (by decide) C dL_lists_359 ?_
                            refine z_goto 364 C dL_lists_360 (by decide) ?_
                            refine z_zreturn C F (Nat.le_of_ble_eq_true rfl) (Nat.le_of_ble_eq_true rfl) (by decide) dL_lists_364 ?_
                            exact ⟨_, rfl, f1, hS1, hM1, hV1⟩
                        · refine z_sipush (-2003) (by decide) C dL_lists_345 ?_
                          refine z_goto 356 C dL_lists_348 (by decide) ?_
                          refine z_icmp_ne 363 C dL_lists_356 (by decide) (fun c356 => ?_) (fun c356 => ?_)
                          · exfalso
                            rcases hq with ⟨q1, q2⟩ | ⟨q1, q2⟩ | ⟨q1, q2, q3⟩ <;> first | exact c328 q1 | exact q1 c328 | exact c356 q2 | exact c356 q3 | exact q2 c342 | exact c342 q2
                          · refine z_iconst 1 (by decide) C dL_lists_359 ?_
                            refine z_goto 364 C dL_lists_360 (by decide) ?_
                            refine z_zreturn C F (Nat.le_of_ble_eq_true rfl) (Nat.le_of_ble_eq_true rfl) (by decide) dL_lists_364 ?_
                            exact ⟨_, rfl, f1, hS1, hM1, hV1⟩
                      · refine z_sipush (-2005) (by decide) C dL_lists_331 ?_
                        refine z_goto 356 C dL_lists_334 (by decide) ?_
                        refine z_icmp_ne 363 C dL_lists_356 (by decide) (fun c356 => ?_) (fun c356 => ?_)
                        · exfalso
                          rcases hq with ⟨q1, q2⟩ | ⟨q1, q2⟩ | ⟨q1, q2, q3⟩ <;> first | exact c328 q1 | exact q1 c328 | exact c356 q2 | exact c356 q3 | exact q2 c342 | exact c342 q2
                        · refine z_iconst 1 (by decide) C dL_lists_359 ?_
                          refine z_goto 364 C dL_lists_360 (by decide) ?_
                          refine z_zreturn C F (Nat.le_of_ble_eq_true rfl) (Nat.le_of_ble_eq_true rfl) (by decide) dL_lists_364 ?_
                          exact ⟨_, rfl, f1, hS1, hM1, hV1⟩
                    refine z_istore [_, _, _, _, _, _, _, _, _] C (by decide) rfl dL_lists_268 ?_
                    refine z_iload C rfl dL_lists_270 ?_
                    refine z_if_lt 321 C dL_lists_272 (by decide) (fun c272 => ?_) (fun c272 => ?_)
                    · rcases hr with ⟨-, -, rfl, -⟩ | ⟨hn9, rfl, rfl⟩ | ⟨hi9, -, rfl, rfl⟩
                      · exact absurd c272 (nI_pos (by omega))
                      · exact J _ _ _ _ hS hM hV (Or.inl ⟨by rw [hm2]; exact congrArg nI (by omega), rfl⟩)
                      · exact J _ _ _ _ hS hM hV (Or.inr (Or.inl ⟨by rw [hm2]; exact fun q => absurd ((nI_eq (by omega) (by omega)).1 q) (by omega), rfl⟩))
                    · rcases hr with ⟨hi9, hl9, rfl, rfl⟩ | ⟨-, rfl, -⟩ | ⟨-, -, rfl, -⟩
                      rotate_left
                      · exact absurd (by decide) c272
                      · exact absurd (by decide) c272
                      refine z_aload_n C rfl dL_lists_275 ?_
                      refine z_sipush 140 (by decide) C dL_lists_276 ?_
                      refine z_iconst 3 (by decide) C dL_lists_279 ?_
                      refine z_aload_n C rfl dL_lists_280 ?_
                      refine z_iconst 3 (by decide) C dL_lists_281 ?_
                      refine z_mld C hS (show (3 : Int32) = nI 3 from rfl) (by decide) hm3 dL_lists_282 ?_
                      refine z_imul C dL_lists_283 ?_
                      refine z_iadd C dL_lists_284 ?_
                      refine z_iload C rfl dL_lists_285 ?_
                      refine z_mst C hS (ix3 (c' := 140) rfl _) (by omega) dL_lists_287 ?_
                      intro S287 hS
                      refine z_aload_n C rfl dL_lists_288 ?_
                      refine z_sipush 141 (by decide) C dL_lists_289 ?_
                      refine z_iconst 3 (by decide) C dL_lists_292 ?_
                      refine z_aload_n C rfl dL_lists_293 ?_
                      refine z_iconst 3 (by decide) C dL_lists_294 ?_
                      refine z_mld C hS (show (3 : Int32) = nI 3 from rfl) (by decide) ((up1_ne (by omega)).trans hm3) dL_lists_295 ?_
                      refine z_imul C dL_lists_296 ?_
                      refine z_iadd C dL_lists_297 ?_
                      refine z_iload C rfl dL_lists_298 ?_
                      refine z_mst C hS (ix3 (c' := 141) rfl _) (by omega) dL_lists_300 ?_
                      intro S300 hS
                      refine z_aload_n C rfl dL_lists_301 ?_
                      refine z_sipush 142 (by decide) C dL_lists_302 ?_
                      refine z_iconst 3 (by decide) C dL_lists_305 ?_
                      refine z_aload_n C rfl dL_lists_306 ?_
                      refine z_iconst 3 (by decide) C dL_lists_307 ?_
                      refine z_mld C hS (show (3 : Int32) = nI 3 from rfl) (by decide) ((up1_ne (by omega)).trans ((up1_ne (by omega)).trans hm3)) dL_lists_308 ?_
                      refine z_imul C dL_lists_309 ?_
                      refine z_iadd C dL_lists_310 ?_
                      refine z_iload C rfl dL_lists_311 ?_
                      refine z_mst C hS (ix3 (c' := 142) rfl _) (by omega) dL_lists_313 ?_
                      intro S313 hS
                      refine z_aload_n C rfl dL_lists_314 ?_
                      refine z_iconst 3 (by decide) C dL_lists_315 ?_
                      refine z_dup2 rfl rfl C dL_lists_316 ?_
                      refine z_mld C hS (show (3 : Int32) = nI 3 from rfl) (by decide) ((up1_ne (by omega)).trans ((up1_ne (by omega)).trans ((up1_ne (by omega)).trans hm3))) dL_lists_317 ?_
                      refine z_iconst 1 (by decide) C dL_lists_318 ?_
                      refine z_iadd C dL_lists_319 ?_
                      refine z_mst C hS (show (3 : Int32) = nI 3 from rfl) (by decide) dL_lists_320 ?_
                      intro S320 hS
                      exact J _ _ _ _ hS (see_lst ho hl9 (by decide) hM hV).1 (see_lst ho hl9 (by decide) hM hV).2 (Or.inr (Or.inr ⟨by rw [up1_ne (by decide), up1_ne (by omega), up1_ne (by omega), up1_ne (by omega), hm2]; exact fun q => absurd ((nI_eq (by omega) (by omega)).1 q) (by omega), fun q => absurd (q ▸ nI_pos' (show dL D < 2 ^ 31 by omega)) (by decide), by rw [up1_self, ← nI_succ, nI_pred]⟩))
                  · exact h265.elim
                · refine z_tableOut 256 C dL_lists_75 (by decide) (by decide) ?_
                  refine z_aload_n C rfl dL_lists_256 ?_
                  refine z_bipush 20 (by decide) C dL_lists_257 ?_
                  refine z_iload C rfl dL_lists_259 ?_
                  refine z_iload C rfl dL_lists_261 ?_
                  refine z_iload C rfl dL_lists_263 ?_
                  refine z_callLH 5 [zr (some x), zi 20, zi (nI j9), zi o, zi 0] C Nc Sc (DD_20 hl0 hS.1 j9 0 o (by omega) ho9 (by omega)) rfl (zgoodS LWl_good wq201 wq202 wq4 wq203) rfl rfl rfl (by decide +kernel) rfl (by rw [hR]; exact ⟨Nat.le_of_ble_eq_true rfl, Nat.le_of_ble_eq_true rfl⟩) (by rw [hR]; exact ⟨Nat.le_of_ble_eq_true rfl, Nat.le_of_ble_eq_true rfl⟩) (Nat.le_of_ble_eq_true rfl) dL_lists_265 (fun v265 S265 h265 => ?_) (fun E265 S265 h265 => ?_)
                  · obtain ⟨z, D1, rfl, hr, hY, hkp⟩ := h265
                    replace hS := hS.kp hY hkp
                    have J : ∀ (D1 : ZD) (f1 : Nat → Int32) (S1 : ZM) (z : Int32), mS D1 x m Fw f1 S1 → rM D1 f1 → LV n D1 → ((nI j9 = f1 2 ∧ z = -2005) ∨ (¬ nI j9 = f1 2 ∧ z = -2003) ∨ (¬ nI j9 = f1 2 ∧ ¬ z = -2003 ∧ z = f1 3 - 1)) → zW X 9 5 42 S1 321 [some (zr (some x)), some (zr (some m)), some (zr (some sc.1)), some (zi (nI i)), some (zi (nI j9)), some (zi (nI j23)), some (zi 0), some (zi o), some (zi z)] [] := by
                      intro D1 f1 S1 z hS1 hM1 hV1 hq
                      refine z_iload C rfl dL_lists_321 ?_
                      refine z_iload C rfl dL_lists_323 ?_
                      refine z_aload_n C rfl dL_lists_325 ?_
                      refine z_iconst 2 (by decide) C dL_lists_326 ?_
                      refine z_mld C hS1 (show (2 : Int32) = nI 2 from rfl) (by decide) rfl dL_lists_327 ?_
                      refine z_icmp_ne 337 C dL_lists_328 (by decide) (fun c328 => ?_) (fun c328 => ?_)
                      · refine z_iload C rfl dL_lists_337 ?_
                        refine z_sipush (-2003) (by decide) C dL_lists_339 ?_
                        refine z_icmp_ne 351 C dL_lists_342 (by decide) (fun c342 => ?_) (fun c342 => ?_)
                        · refine z_aload_n C rfl dL_lists_351 ?_
                          refine z_iconst 3 (by decide) C dL_lists_352 ?_
                          refine z_mld C hS1 (show (3 : Int32) = nI 3 from rfl) (by decide) rfl dL_lists_353 ?_
                          refine z_iconst 1 (by decide) C dL_lists_354 ?_
                          refine z_isub C dL_lists_355 ?_
                          refine z_icmp_ne 363 C dL_lists_356 (by decide) (fun c356 => ?_) (fun c356 => ?_)
                          · exfalso
                            rcases hq with ⟨q1, q2⟩ | ⟨q1, q2⟩ | ⟨q1, q2, q3⟩ <;> first | exact c328 q1 | exact q1 c328 | exact c356 q2 | exact c356 q3 | exact q2 c342 | exact c342 q2
                          · refine z_iconst 1 (by decide) C dL_lists_359 ?_
                            refine z_goto 364 C dL_lists_360 (by decide) ?_
                            refine z_zreturn C F (Nat.le_of_ble_eq_true rfl) (Nat.le_of_ble_eq_true rfl) (by decide) dL_lists_364 ?_
                            exact ⟨_, rfl, f1, hS1, hM1, hV1⟩
                        · refine z_sipush (-2003) (by decide) C dL_lists_345 ?_
                          refine z_goto 356 C dL_lists_348 (by decide) ?_
                          refine z_icmp_ne 363 C dL_lists_356 (by decide) (fun c356 => ?_) (fun c356 => ?_)
                          · exfalso
                            rcases hq with ⟨q1, q2⟩ | ⟨q1, q2⟩ | ⟨q1, q2, q3⟩ <;> first | exact c328 q1 | exact q1 c328 | exact c356 q2 | exact c356 q3 | exact q2 c342 | exact c342 q2
                          · refine z_iconst 1 (by decide) C dL_lists_359 ?_
                            refine z_goto 364 C dL_lists_360 (by decide) ?_
                            refine z_zreturn C F (Nat.le_of_ble_eq_true rfl) (Nat.le_of_ble_eq_true rfl) (by decide) dL_lists_364 ?_
                            exact ⟨_, rfl, f1, hS1, hM1, hV1⟩
                      · refine z_sipush (-2005) (by decide) C dL_lists_331 ?_
                        refine z_goto 356 C dL_lists_334 (by decide) ?_
                        refine z_icmp_ne 363 C dL_lists_356 (by decide) (fun c356 => ?_) (fun c356 => ?_)
                        · exfalso
                          rcases hq with ⟨q1, q2⟩ | ⟨q1, q2⟩ | ⟨q1, q2, q3⟩ <;> first | exact c328 q1 | exact q1 c328 | exact c356 q2 | exact c356 q3 | exact q2 c342 | exact c342 q2
                        · refine z_iconst 1 (by decide) C dL_lists_359 ?_
                          refine z_goto 364 C dL_lists_360 (by decide) ?_
                          refine z_zreturn C F (Nat.le_of_ble_eq_true rfl) (Nat.le_of_ble_eq_true rfl) (by decide) dL_lists_364 ?_
                          exact ⟨_, rfl, f1, hS1, hM1, hV1⟩
                    refine z_istore [_, _, _, _, _, _, _, _, _] C (by decide) rfl dL_lists_268 ?_
                    refine z_iload C rfl dL_lists_270 ?_
                    refine z_if_lt 321 C dL_lists_272 (by decide) (fun c272 => ?_) (fun c272 => ?_)
                    · rcases hr with ⟨-, -, rfl, -⟩ | ⟨hn9, rfl, rfl⟩ | ⟨hi9, -, rfl, rfl⟩
                      · exact absurd c272 (nI_pos (by omega))
                      · exact J _ _ _ _ hS hM hV (Or.inl ⟨by rw [hm2]; exact congrArg nI (by omega), rfl⟩)
                      · exact J _ _ _ _ hS hM hV (Or.inr (Or.inl ⟨by rw [hm2]; exact fun q => absurd ((nI_eq (by omega) (by omega)).1 q) (by omega), rfl⟩))
                    · rcases hr with ⟨hi9, hl9, rfl, rfl⟩ | ⟨-, rfl, -⟩ | ⟨-, -, rfl, -⟩
                      rotate_left
                      · exact absurd (by decide) c272
                      · exact absurd (by decide) c272
                      refine z_aload_n C rfl dL_lists_275 ?_
                      refine z_sipush 140 (by decide) C dL_lists_276 ?_
                      refine z_iconst 3 (by decide) C dL_lists_279 ?_
                      refine z_aload_n C rfl dL_lists_280 ?_
                      refine z_iconst 3 (by decide) C dL_lists_281 ?_
                      refine z_mld C hS (show (3 : Int32) = nI 3 from rfl) (by decide) hm3 dL_lists_282 ?_
                      refine z_imul C dL_lists_283 ?_
                      refine z_iadd C dL_lists_284 ?_
                      refine z_iload C rfl dL_lists_285 ?_
                      refine z_mst C hS (ix3 (c' := 140) rfl _) (by omega) dL_lists_287 ?_
                      intro S287 hS
                      refine z_aload_n C rfl dL_lists_288 ?_
                      refine z_sipush 141 (by decide) C dL_lists_289 ?_
                      refine z_iconst 3 (by decide) C dL_lists_292 ?_
                      refine z_aload_n C rfl dL_lists_293 ?_
                      refine z_iconst 3 (by decide) C dL_lists_294 ?_
                      refine z_mld C hS (show (3 : Int32) = nI 3 from rfl) (by decide) ((up1_ne (by omega)).trans hm3) dL_lists_295 ?_
                      refine z_imul C dL_lists_296 ?_
                      refine z_iadd C dL_lists_297 ?_
                      refine z_iload C rfl dL_lists_298 ?_
                      refine z_mst C hS (ix3 (c' := 141) rfl _) (by omega) dL_lists_300 ?_
                      intro S300 hS
                      refine z_aload_n C rfl dL_lists_301 ?_
                      refine z_sipush 142 (by decide) C dL_lists_302 ?_
                      refine z_iconst 3 (by decide) C dL_lists_305 ?_
                      refine z_aload_n C rfl dL_lists_306 ?_
                      refine z_iconst 3 (by decide) C dL_lists_307 ?_
                      refine z_mld C hS (show (3 : Int32) = nI 3 from rfl) (by decide) ((up1_ne (by omega)).trans ((up1_ne (by omega)).trans hm3)) dL_lists_308 ?_
                      refine z_imul C dL_lists_309 ?_
                      refine z_iadd C dL_lists_310 ?_
                      refine z_iload C rfl dL_lists_311 ?_
                      refine z_mst C hS (ix3 (c' := 142) rfl _) (by omega) dL_lists_313 ?_
                      intro S313 hS
                      refine z_aload_n C rfl dL_lists_314 ?_
                      refine z_iconst 3 (by decide) C dL_lists_315 ?_
                      refine z_dup2 rfl rfl C dL_lists_316 ?_
                      refine z_mld C hS (show (3 : Int32) = nI 3 from rfl) (by decide) ((up1_ne (by omega)).trans ((up1_ne (by omega)).trans ((up1_ne (by omega)).trans hm3))) dL_lists_317 ?_
                      refine z_iconst 1 (by decide) C dL_lists_318 ?_
                      refine z_iadd C dL_lists_319 ?_
                      refine z_mst C hS (show (3 : Int32) = nI 3 from rfl) (by decide) dL_lists_320 ?_
                      intro S320 hS
                      exact J _ _ _ _ hS (see_lst ho hl9 (by decide) hM hV).1 (see_lst ho hl9 (by decide) hM hV).2 (Or.inr (Or.inr ⟨by rw [up1_ne (by decide), up1_ne (by omega), up1_ne (by omega), up1_ne (by omega), hm2]; exact fun q => absurd ((nI_eq (by omega) (by omega)).1 q) (by omega), fun q => absurd (q ▸ nI_pos' (show dL D < 2 ^ 31 by omega)) (by decide), by rw [up1_self, ← nI_succ, nI_pred]⟩))
                  · exact h265.elim
              · exact h72.elim
            · exact h63.elim
          · exact h60.elim
      · exact h33.elim
    · exact h23.elim
  · exact h9.elim
