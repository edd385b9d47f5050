/-! the law's deeds in a row (laid by wip/p54/m79.py) -/
set_option maxRecDepth 100000 in
set_option maxHeartbeats 4000000 in
theorem L_acts {l : Launch} {sc : zSQ} (hl0 : l.stackTraces = false) (hN : sc.2.1 < 2 ^ 31) {n : Nat} {D : ZD} {x m : Nat} {Fw : Nat → Bool} {S : ZM} (hX : lX n D x m Fw S) (hn : n + 20 ≤ 9999) (i : Nat) (hi : i + 10 < 2 ^ 20) : zMetL l sc yL_acts (Cond.code yL_acts cL_acts 6 (some .boolean) :: LWl) ({ frames := 51, cells := 5, slots := 42, locals := 1175 } : Room) 5 42 [zr (some x), zr (some m), zr (some sc.1), zi (nI i)] S (zPo (fun v S' => ∃ D' : ZD, v = some (zi 1) ∧ lX (n + 20) D' x m Fw S') (fun _ _ => False)) := by
  refine zMetL.of [some (zr (some x)), some (zr (some m)), some (zr (some sc.1)), some (zi (nI i)), none, none] hl0 (by decide) rfl (Nat.le_of_ble_eq_true rfl) rfl ?_
  intro X C N Nc Sc hR hX F
  subst hX
  have hRc : (xR X).cells = 5 := by rw [hR]
  have hRs : (xR X).slots = 42 := by rw [hR]
  obtain ⟨f, hS, hM, hV⟩ := hX
  have ho := hS.1.ok
  obtain ⟨hm0, hm2, hm3, ⟨j1, hj1, hm1⟩, hmr, hml⟩ := id hM
  have hT24 := ho.t
  have hR40 := ho.r
  have hL8 := ho.l
  refine z_aload_n C rfl dL_acts_0 ?_
  refine z_iload_n C rfl dL_acts_1 ?_
  refine z_iconst 1 (by decide) C dL_acts_2 ?_
  refine z_iadd C dL_acts_3 ?_
  refine z_int (show nI i + 1 = nI (i + 1) from nI_add i 1) ?_
  refine z_aload_n C rfl dL_acts_4 ?_
  refine z_iconst 0 (by decide) C dL_acts_5 ?_
  refine z_mld C hS (show (0 : Int32) = nI 0 from rfl) (by decide) hm0 dL_acts_6 ?_
  refine z_iconst 1 (by decide) C dL_acts_7 ?_
  refine z_iadd C dL_acts_8 ?_
  refine z_int (nI_1 (dT D)) ?_
  refine z_callL 3 [zr (some sc.1), zi (nI (i + 1)), zi (nI (dT D + 1))] C Nc Sc (L_pick hl0 hN (i + 1) (by omega) (dT D + 1) (by omega) (by omega)) rfl (zgoodS LWl_good wq207 wq208 wq4 wq209) rfl rfl rfl (by decide +kernel) rfl (by rw [hR]; exact ⟨Nat.le_of_ble_eq_true rfl, Nat.le_of_ble_eq_true rfl⟩) (by rw [hR]; exact ⟨Nat.le_of_ble_eq_true rfl, Nat.le_of_ble_eq_true rfl⟩) (Nat.le_of_ble_eq_true rfl) dL_acts_9 (fun v9 S9 h9 => ?_) (fun E9 S9 h9 => ?_)
  · obtain ⟨j9, hj9, rfl, q9⟩ := h9
    subst q9
    refine z_istore [_, _, _, _, _, _] C (by decide) rfl dL_acts_12 ?_
    refine z_aload_n C rfl dL_acts_14 ?_
    refine z_iload_n C rfl dL_acts_15 ?_
    refine z_iconst 2 (by decide) C dL_acts_16 ?_
    refine z_iadd C dL_acts_17 ?_
    refine z_int (show nI i + 2 = nI (i + 2) from nI_add i 2) ?_
    refine z_aload_n C rfl dL_acts_18 ?_
    refine z_iconst 1 (by decide) C dL_acts_19 ?_
    refine z_mld C hS (show (1 : Int32) = nI 1 from rfl) (by decide) hm1 dL_acts_20 ?_
    refine z_iconst 1 (by decide) C dL_acts_21 ?_
    refine z_iadd C dL_acts_22 ?_
    refine z_int (nI_1 j1) ?_
    refine z_callL 3 [zr (some sc.1), zi (nI (i + 2)), zi (nI (j1 + 1))] C Nc Sc (L_pick hl0 hN (i + 2) (by omega) (j1 + 1) (by omega) (by omega)) rfl (zgoodS LWl_good wq207 wq208 wq4 wq209) rfl rfl rfl (by decide +kernel) rfl (by rw [hR]; exact ⟨Nat.le_of_ble_eq_true rfl, Nat.le_of_ble_eq_true rfl⟩) (by rw [hR]; exact ⟨Nat.le_of_ble_eq_true rfl, Nat.le_of_ble_eq_true rfl⟩) (Nat.le_of_ble_eq_true rfl) dL_acts_23 (fun v23 S23 h23 => ?_) (fun E23 S23 h23 => ?_)
    · obtain ⟨j23, hj23, rfl, q23⟩ := h23
      subst q23
      refine z_istore [_, _, _, _, _, _] C (by decide) rfl dL_acts_26 ?_
      refine z_aload_n C rfl dL_acts_28 ?_
      refine z_iload_n C rfl dL_acts_29 ?_
      refine z_bipush 15 (by decide) C dL_acts_30 ?_
      refine z_callL 3 [zr (some sc.1), zi (nI (i)), zi (nI (15))] C Nc Sc (L_pick hl0 hN (i) (by omega) (15) (by decide) (by omega)) rfl (zgoodS LWl_good wq207 wq208 wq4 wq209) rfl rfl rfl (by decide +kernel) rfl (by rw [hR]; exact ⟨Nat.le_of_ble_eq_true rfl, Nat.le_of_ble_eq_true rfl⟩) (by rw [hR]; exact ⟨Nat.le_of_ble_eq_true rfl, Nat.le_of_ble_eq_true rfl⟩) (Nat.le_of_ble_eq_true rfl) dL_acts_32 (fun v32 S32 h32 => ?_) (fun E32 S32 h32 => ?_)
      · obtain ⟨j32, hj32, rfl, q32⟩ := h32
        subst q32
        rcases (show j32 = 0 ∨ j32 = 1 ∨ j32 = 2 ∨ j32 = 3 ∨ j32 = 4 ∨ j32 = 5 ∨ j32 = 6 ∨ j32 = 7 ∨ j32 = 8 ∨ j32 = 9 ∨ j32 = 10 ∨ j32 = 11 ∨ j32 = 12 ∨ j32 = 13 ∨ j32 = 14 by omega) with rfl | rfl | rfl | rfl | rfl | rfl | rfl | rfl | rfl | rfl | rfl | rfl | rfl | rfl | rfl
        · refine z_tableIn 96 C dL_acts_35 (by decide) (by decide) rfl (by decide) ?_
          refine z_aload_n C rfl dL_acts_96 ?_
          refine z_iconst 0 (by decide) C dL_acts_97 ?_
          refine z_dup2 rfl rfl C dL_acts_98 ?_
          refine z_mld C hS (show (0 : Int32) = nI 0 from rfl) (by decide) hm0 dL_acts_99 ?_
          refine z_aload_n C rfl dL_acts_100 ?_
          refine z_iconst 0 (by decide) C dL_acts_101 ?_
          refine z_iconst 1 (by decide) C dL_acts_102 ?_
          refine z_aload_n C rfl dL_acts_103 ?_
          refine z_iload_n C rfl dL_acts_104 ?_
          refine z_iconst 3 (by decide) C dL_acts_105 ?_
          refine z_iadd C dL_acts_106 ?_
          refine z_int (show nI i + 3 = nI (i + 3) from nI_add i 3) ?_
          refine z_sipush 400 (by decide) C dL_acts_107 ?_
          refine z_callL 3 [zr (some sc.1), zi (nI (i + 3)), zi (nI (400))] C Nc Sc (L_pick hl0 hN (i + 3) (by omega) (400) (by decide) (by omega)) rfl (zgoodS LWl_good wq207 wq208 wq4 wq209) rfl rfl rfl (by decide +kernel) rfl (by rw [hR]; exact ⟨Nat.le_of_ble_eq_true rfl, Nat.le_of_ble_eq_true rfl⟩) (by rw [hR]; exact ⟨Nat.le_of_ble_eq_true rfl, Nat.le_of_ble_eq_true rfl⟩) (Nat.le_of_ble_eq_true rfl) dL_acts_110 (fun v110 S110 h110 => ?_) (fun E110 S110 h110 => ?_)
          · obtain ⟨j110, hj110, rfl, q110⟩ := h110
            subst q110
            refine z_iadd C dL_acts_113 ?_
            refine z_int (show 1 + nI j110 = nI (1 + j110) from nI_add 1 j110) ?_
            refine z_aload_n C rfl dL_acts_114 ?_
            refine z_iload_n C rfl dL_acts_115 ?_
            refine z_iconst 4 (by decide) C dL_acts_116 ?_
            refine z_iadd C dL_acts_117 ?_
            refine z_int (show nI i + 4 = nI (i + 4) from nI_add i 4) ?_
            refine z_bipush 6 (by decide) C dL_acts_118 ?_
            refine z_callL 3 [zr (some sc.1), zi (nI (i + 4)), zi (nI (6))] C Nc Sc (L_pick hl0 hN (i + 4) (by omega) (6) (by decide) (by omega)) rfl (zgoodS LWl_good wq207 wq208 wq4 wq209) rfl rfl rfl (by decide +kernel) rfl (by rw [hR]; exact ⟨Nat.le_of_ble_eq_true rfl, Nat.le_of_ble_eq_true rfl⟩) (by rw [hR]; exact ⟨Nat.le_of_ble_eq_true rfl, Nat.le_of_ble_eq_true rfl⟩) (Nat.le_of_ble_eq_true rfl) dL_acts_120 (fun v120 S120 h120 => ?_) (fun E120 S120 h120 => ?_)
            · obtain ⟨j120, hj120, rfl, q120⟩ := h120
              subst q120
              refine z_iconst 0 (by decide) C dL_acts_123 ?_
              refine z_callLH 5 [zr (some x), zi 0, zi (nI (1 + j110)), zi (nI j120), zi 0] C Nc Sc (DD_0 hl0 hS.1 (1 + j110) j120 0 ⟨by omega, by omega⟩ (by omega)) rfl (zgoodS LWl_good wq201 wq202 wq4 wq203) rfl rfl rfl (by decide +kernel) rfl (by rw [hR]; exact ⟨Nat.le_of_ble_eq_true rfl, Nat.le_of_ble_eq_true rfl⟩) (by rw [hR]; exact ⟨Nat.le_of_ble_eq_true rfl, Nat.le_of_ble_eq_true rfl⟩) (Nat.le_of_ble_eq_true rfl) dL_acts_124 (fun v124 S124 h124 => ?_) (fun E124 S124 h124 => ?_)
              · obtain ⟨z, D1, rfl, hr, hY, hkp⟩ := h124
                replace hS := hS.kp hY hkp
                refine z_if_lt 134 C dL_acts_127 (by decide) (fun c127 => ?_) (fun c127 => ?_)
                · rcases hr with ⟨_, rfl, -⟩ | ⟨-, rfl, rfl⟩
                  · exact absurd c127 (nI_pos (by omega))
                  refine z_iconst 0 (by decide) C dL_acts_134 ?_
                  refine z_iadd C dL_acts_135 ?_
                  refine z_mst C hS (show (0 : Int32) = nI 0 from rfl) (by decide) dL_acts_136 ?_
                  intro S136 hS
                  refine z_iconst 1 (by decide) C dL_acts_137 ?_
                  refine z_zreturn C F (Nat.le_of_ble_eq_true rfl) (Nat.le_of_ble_eq_true rfl) (by decide) dL_acts_138 ?_
                  first | exact ⟨_, rfl, lX.up ⟨_, hS, (see_trk ho ht9 _ _ hM hV).1, (see_trk ho ht9 _ _ hM hV).2.1⟩ (by omega)⟩ | exact ⟨_, rfl, lX.up ⟨_, hS, by rw [up1_same (by rw [hm0, Int32.add_zero])]; exact hM, hV⟩ (by omega)⟩
                · rcases hr with ⟨ht9, rfl, rfl⟩ | ⟨-, rfl, -⟩
                  rotate_left
                  · exact absurd (by decide) c127
                  refine z_iconst 1 (by decide) C dL_acts_130 ?_
                  refine z_goto 135 C dL_acts_131 (by decide) ?_
                  refine z_iadd C dL_acts_135 ?_
                  refine z_mst C hS (show (0 : Int32) = nI 0 from rfl) (by decide) dL_acts_136 ?_
                  intro S136 hS
                  refine z_iconst 1 (by decide) C dL_acts_137 ?_
                  refine z_zreturn C F (Nat.le_of_ble_eq_true rfl) (Nat.le_of_ble_eq_true rfl) (by decide) dL_acts_138 ?_
                  first | exact ⟨_, rfl, lX.up ⟨_, hS, (see_trk ho ht9 _ _ hM hV).1, (see_trk ho ht9 _ _ hM hV).2.1⟩ (by omega)⟩ | exact ⟨_, rfl, lX.up ⟨_, hS, by rw [up1_same (by rw [hm0, Int32.add_zero])]; exact hM, hV⟩ (by omega)⟩
              · exact h124.elim
            · exact h120.elim
          · exact h110.elim
        · refine z_tableIn 139 C dL_acts_35 (by decide) (by decide) rfl (by decide) ?_
          refine z_aload_n C rfl dL_acts_139 ?_
          refine z_iconst 1 (by decide) C dL_acts_140 ?_
          refine z_iload C rfl dL_acts_141 ?_
          refine z_iconst 0 (by decide) C dL_acts_143 ?_
          refine z_iconst 0 (by decide) C dL_acts_144 ?_
          refine z_callLH 5 [zr (some x), zi 1, zi (nI j9), zi 0, zi 0] C Nc Sc (DD_1 hl0 hS.1 j9 (by omega) 0 0) rfl (zgoodS LWl_good wq201 wq202 wq4 wq203) rfl rfl rfl (by decide +kernel) rfl (by rw [hR]; exact ⟨Nat.le_of_ble_eq_true rfl, Nat.le_of_ble_eq_true rfl⟩) (by rw [hR]; exact ⟨Nat.le_of_ble_eq_true rfl, Nat.le_of_ble_eq_true rfl⟩) (Nat.le_of_ble_eq_true rfl) dL_acts_145 (fun v145 S145 h145 => ?_) (fun E145 S145 h145 => ?_)
          · obtain ⟨z, D1, rfl, hr, hY, hkp⟩ := h145
            replace hS := hS.kp hY hkp
            have hz9 : ¬ z = (-2003) := by
              rcases hr with ⟨_, _, hz, -⟩ | ⟨rfl, -⟩
              · rintro rfl; exact absurd hz (by decide)
              · decide
            have hX1 : lX (n + 20) D1 x m Fw S145 := by
              rcases hr with ⟨u, hp, -, rfl⟩ | ⟨-, rfl⟩
              · exact lX.up ⟨_, hS, hM.same (see_rem D u).1, hV.same (see_rem D u).2⟩ (by omega)
              · exact lX.up ⟨_, hS, hM, hV⟩ (by omega)
            refine z_sipush (-2003) (by decide) C dL_acts_148 ?_
            refine z_icmp_eq 158 C dL_acts_151 (by decide) (fun c151 => absurd c151 hz9) (fun c151 => ?_)
            refine z_iconst 1 (by decide) C dL_acts_154 ?_
            refine z_goto 159 C dL_acts_155 (by decide) ?_
            refine z_zreturn C F (Nat.le_of_ble_eq_true rfl) (Nat.le_of_ble_eq_true rfl) (by decide) dL_acts_159 ?_
            exact ⟨_, rfl, hX1⟩
          · exact h145.elim
        · refine z_tableIn 160 C dL_acts_35 (by decide) (by decide) rfl (by decide) ?_
          refine z_aload_n C rfl dL_acts_160 ?_
          refine z_iconst 2 (by decide) C dL_acts_161 ?_
          refine z_iload C rfl dL_acts_162 ?_
          refine z_aload_n C rfl dL_acts_164 ?_
          refine z_iload_n C rfl dL_acts_165 ?_
          refine z_iconst 3 (by decide) C dL_acts_166 ?_
          refine z_iadd C dL_acts_167 ?_
          refine z_int (show nI i + 3 = nI (i + 3) from nI_add i 3) ?_
          refine z_bipush 6 (by decide) C dL_acts_168 ?_
          refine z_callL 3 [zr (some sc.1), zi (nI (i + 3)), zi (nI (6))] C Nc Sc (L_pick hl0 hN (i + 3) (by omega) (6) (by decide) (by omega)) rfl (zgoodS LWl_good wq207 wq208 wq4 wq209) rfl rfl rfl (by decide +kernel) rfl (by rw [hR]; exact ⟨Nat.le_of_ble_eq_true rfl, Nat.le_of_ble_eq_true rfl⟩) (by rw [hR]; exact ⟨Nat.le_of_ble_eq_true rfl, Nat.le_of_ble_eq_true rfl⟩) (Nat.le_of_ble_eq_true rfl) dL_acts_170 (fun v170 S170 h170 => ?_) (fun E170 S170 h170 => ?_)
          · obtain ⟨j170, hj170, rfl, q170⟩ := h170
            subst q170
            refine z_iconst 0 (by decide) C dL_acts_173 ?_
            refine z_callLH 5 [zr (some x), zi 2, zi (nI j9), zi (nI j170), zi 0] C Nc Sc (DD_2 hl0 hS.1 j9 j170 0 (by omega) (by omega)) rfl (zgoodS LWl_good wq201 wq202 wq4 wq203) rfl rfl rfl (by decide +kernel) rfl (by rw [hR]; exact ⟨Nat.le_of_ble_eq_true rfl, Nat.le_of_ble_eq_true rfl⟩) (by rw [hR]; exact ⟨Nat.le_of_ble_eq_true rfl, Nat.le_of_ble_eq_true rfl⟩) (Nat.le_of_ble_eq_true rfl) dL_acts_174 (fun v174 S174 h174 => ?_) (fun E174 S174 h174 => ?_)
            · obtain ⟨z, D1, rfl, hr, hY, hkp⟩ := h174
              replace hS := hS.kp hY hkp
              have hz9 : ¬ z = (-2003) := by
                rcases hr with ⟨_, _, hz, -⟩ | ⟨rfl, -⟩
                · rintro rfl; exact absurd hz (by decide)
                · decide
              have hX1 : lX (n + 20) D1 x m Fw S174 := by
                rcases hr with ⟨u, hp, -, rfl⟩ | ⟨-, rfl⟩
                · exact lX.up ⟨_, hS, hM.same (see_rate D u _).1, hV.same (see_rate D u _).2⟩ (by omega)
                · exact lX.up ⟨_, hS, hM, hV⟩ (by omega)
              refine z_sipush (-2003) (by decide) C dL_acts_177 ?_
              refine z_icmp_eq 187 C dL_acts_180 (by decide) (fun c180 => absurd c180 hz9) (fun c180 => ?_)
              refine z_iconst 1 (by decide) C dL_acts_183 ?_
              refine z_goto 188 C dL_acts_184 (by decide) ?_
              refine z_zreturn C F (Nat.le_of_ble_eq_true rfl) (Nat.le_of_ble_eq_true rfl) (by decide) dL_acts_188 ?_
              exact ⟨_, rfl, hX1⟩
            · exact h174.elim
          · exact h170.elim
        · refine z_tableIn 189 C dL_acts_35 (by decide) (by decide) rfl (by decide) ?_
          refine z_aload_n C rfl dL_acts_189 ?_
          refine z_iconst 3 (by decide) C dL_acts_190 ?_
          refine z_iload C rfl dL_acts_191 ?_
          refine z_iconst 0 (by decide) C dL_acts_193 ?_
          refine z_iconst 0 (by decide) C dL_acts_194 ?_
          refine z_callLH 5 [zr (some x), zi 3, zi (nI j9), zi 0, zi 0] C Nc Sc (DD_3 hl0 hS.1 j9 (by omega) 0 0) rfl (zgoodS LWl_good wq201 wq202 wq4 wq203) rfl rfl rfl (by decide +kernel) rfl (by rw [hR]; exact ⟨Nat.le_of_ble_eq_true rfl, Nat.le_of_ble_eq_true rfl⟩) (by rw [hR]; exact ⟨Nat.le_of_ble_eq_true rfl, Nat.le_of_ble_eq_true rfl⟩) (Nat.le_of_ble_eq_true rfl) dL_acts_195 (fun v195 S195 h195 => ?_) (fun E195 S195 h195 => ?_)
          · obtain ⟨z, D1, rfl, hr, hY, hkp⟩ := h195
            replace hS := hS.kp hY hkp
            have hz9 : ¬ z = (-2002) := by
              rcases hr with ⟨_, _, hz, -⟩ | ⟨rfl | rfl, -⟩
              · rintro rfl; exact absurd hz (by decide)
              · decide
              · decide
            have hX1 : lX (n + 20) D1 x m Fw S195 := by
              rcases hr with ⟨u, hp, -, rfl⟩ | ⟨-, rfl⟩
              · exact lX.up ⟨_, hS, hM.same (see_play hV (by omega) u).1, (see_play hV (by omega) u).2⟩ (by omega)
              · exact lX.up ⟨_, hS, hM, hV⟩ (by omega)
            refine z_sipush (-2002) (by decide) C dL_acts_198 ?_
            refine z_icmp_eq 208 C dL_acts_201 (by decide) (fun c201 => absurd c201 hz9) (fun c201 => ?_)
            refine z_iconst 1 (by decide) C dL_acts_204 ?_
            refine z_goto 209 C dL_acts_205 (by decide) ?_
            refine z_zreturn C F (Nat.le_of_ble_eq_true rfl) (Nat.le_of_ble_eq_true rfl) (by decide) dL_acts_209 ?_
            exact ⟨_, rfl, hX1⟩
          · exact h195.elim
        · refine z_tableIn 189 C dL_acts_35 (by decide) (by decide) rfl (by decide) ?_
          refine z_aload_n C rfl dL_acts_189 ?_
          refine z_iconst 3 (by decide) C dL_acts_190 ?_
          refine z_iload C rfl dL_acts_191 ?_
          refine z_iconst 0 (by decide) C dL_acts_193 ?_
          refine z_iconst 0 (by decide) C dL_acts_194 ?_
          refine z_callLH 5 [zr (some x), zi 3, zi (nI j9), zi 0, zi 0] C Nc Sc (DD_3 hl0 hS.1 j9 (by omega) 0 0) rfl (zgoodS LWl_good wq201 wq202 wq4 wq203) rfl rfl rfl (by decide +kernel) rfl (by rw [hR]; exact ⟨Nat.le_of_ble_eq_true rfl, Nat.le_of_ble_eq_true rfl⟩) (by rw [hR]; exact ⟨Nat.le_of_ble_eq_true rfl, Nat.le_of_ble_eq_true rfl⟩) (Nat.le_of_ble_eq_true rfl) dL_acts_195 (fun v195 S195 h195 => ?_) (fun E195 S195 h195 => ?_)
          · obtain ⟨z, D1, rfl, hr, hY, hkp⟩ := h195
            replace hS := hS.kp hY hkp
            have hz9 : ¬ z = (-2002) := by
              rcases hr with ⟨_, _, hz, -⟩ | ⟨rfl | rfl, -⟩
              · rintro rfl; exact absurd hz (by decide)
              · decide
              · decide
            have hX1 : lX (n + 20) D1 x m Fw S195 := by
              rcases hr with ⟨u, hp, -, rfl⟩ | ⟨-, rfl⟩
              · exact lX.up ⟨_, hS, hM.same (see_play hV (by omega) u).1, (see_play hV (by omega) u).2⟩ (by omega)
              · exact lX.up ⟨_, hS, hM, hV⟩ (by omega)
            refine z_sipush (-2002) (by decide) C dL_acts_198 ?_
            refine z_icmp_eq 208 C dL_acts_201 (by decide) (fun c201 => absurd c201 hz9) (fun c201 => ?_)
            refine z_iconst 1 (by decide) C dL_acts_204 ?_
            refine z_goto 209 C dL_acts_205 (by decide) ?_
            refine z_zreturn C F (Nat.le_of_ble_eq_true rfl) (Nat.le_of_ble_eq_true rfl) (by decide) dL_acts_209 ?_
            exact ⟨_, rfl, hX1⟩
          · exact h195.elim
        · refine z_tableIn 210 C dL_acts_35 (by decide) (by decide) rfl (by decide) ?_
          refine z_aload_n C rfl dL_acts_210 ?_
          refine z_iconst 4 (by decide) C dL_acts_211 ?_
          refine z_iconst 1 (by decide) C dL_acts_212 ?_
          refine z_aload_n C rfl dL_acts_213 ?_
          refine z_iload_n C rfl dL_acts_214 ?_
          refine z_iconst 3 (by decide) C dL_acts_215 ?_
          refine z_iadd C dL_acts_216 ?_
          refine z_int (show nI i + 3 = nI (i + 3) from nI_add i 3) ?_
          refine z_bipush 20 (by decide) C dL_acts_217 ?_
          refine z_callL 3 [zr (some sc.1), zi (nI (i + 3)), zi (nI (20))] C Nc Sc (L_pick hl0 hN (i + 3) (by omega) (20) (by decide) (by omega)) rfl (zgoodS LWl_good wq207 wq208 wq4 wq209) rfl rfl rfl (by decide +kernel) rfl (by rw [hR]; exact ⟨Nat.le_of_ble_eq_true rfl, Nat.le_of_ble_eq_true rfl⟩) (by rw [hR]; exact ⟨Nat.le_of_ble_eq_true rfl, Nat.le_of_ble_eq_true rfl⟩) (Nat.le_of_ble_eq_true rfl) dL_acts_219 (fun v219 S219 h219 => ?_) (fun E219 S219 h219 => ?_)
          · obtain ⟨j219, hj219, rfl, q219⟩ := h219
            subst q219
            refine z_iadd C dL_acts_222 ?_
            refine z_int (show 1 + nI j219 = nI (1 + j219) from nI_add 1 j219) ?_
            obtain ⟨d0, e0, hd0⟩ := hV.1
            refine z_iconst 0 (by decide) C dL_acts_223 ?_
            refine z_iconst 0 (by decide) C dL_acts_224 ?_
            refine z_callLH 5 [zr (some x), zi 4, zi (nI (1 + j219)), zi 0, zi 0] C Nc Sc (DD_4 hl0 hS.1 (1 + j219) d0 0 0 ⟨by omega, by omega⟩ e0 (by omega)) rfl (zgoodS LWl_good wq201 wq202 wq4 wq203) rfl rfl rfl (by decide +kernel) rfl (by rw [hR]; exact ⟨Nat.le_of_ble_eq_true rfl, Nat.le_of_ble_eq_true rfl⟩) (by rw [hR]; exact ⟨Nat.le_of_ble_eq_true rfl, Nat.le_of_ble_eq_true rfl⟩) (Nat.le_of_ble_eq_true rfl) dL_acts_225 (fun v225 S225 h225 => ?_) (fun E225 S225 h225 => ?_)
            · obtain ⟨z, D1, rfl, ⟨rfl, rfl⟩, hY, hkp⟩ := h225
              replace hS := hS.kp hY hkp
              have hX1 : lX (n + 20) (chgD (opPass D (nI (1 + j219)))) x m Fw S225 := lX.up ⟨_, hS, hM.same (see_pass hV).1, (see_pass hV).2⟩ (by omega)
              refine z_if_le 235 C dL_acts_228 (by decide) (fun c228 => absurd c228 (nI_nle (by omega) (by omega))) (fun c228 => ?_)
              refine z_iconst 1 (by decide) C dL_acts_231 ?_
              refine z_goto 236 C dL_acts_232 (by decide) ?_
              refine z_zreturn C F (Nat.le_of_ble_eq_true rfl) (Nat.le_of_ble_eq_true rfl) (by decide) dL_acts_236 ?_
              exact ⟨_, rfl, hX1⟩
            · exact h225.elim
          · exact h219.elim
        · refine z_tableIn 237 C dL_acts_35 (by decide) (by decide) rfl (by decide) ?_
          refine z_aload_n C rfl dL_acts_237 ?_
          refine z_bipush 7 (by decide) C dL_acts_238 ?_
          refine z_iload C rfl dL_acts_240 ?_
          refine z_iload C rfl dL_acts_242 ?_
          refine z_iconst 0 (by decide) C dL_acts_244 ?_
          refine z_callLH 5 [zr (some x), zi 7, zi (nI j9), zi (nI j23), zi 0] C Nc Sc (DD_7 hl0 hS.1 j9 j23 0) rfl (zgoodS LWl_good wq201 wq202 wq4 wq203) rfl rfl rfl (by decide +kernel) rfl (by rw [hR]; exact ⟨Nat.le_of_ble_eq_true rfl, Nat.le_of_ble_eq_true rfl⟩) (by rw [hR]; exact ⟨Nat.le_of_ble_eq_true rfl, Nat.le_of_ble_eq_true rfl⟩) (Nat.le_of_ble_eq_true rfl) dL_acts_245 (fun v245 S245 h245 => ?_) (fun E245 S245 h245 => ?_)
          · obtain ⟨z, D1, rfl, hr, hY, hkp⟩ := h245
            replace hS := hS.kp hY hkp
            have hz9 : ¬ z = (-2002) := by
              rcases hr with ⟨_, _, hz, -⟩ | ⟨rfl | rfl, -⟩
              · rintro rfl; exact absurd hz (by decide)
              · decide
              · decide
            have hX1 : lX (n + 20) D1 x m Fw S245 := by
              rcases hr with ⟨u, s, -, rfl⟩ | ⟨-, rfl⟩
              · exact lX.up ⟨_, hS, hM.same (see_tags D u s).1, hV.same (see_tags D u s).2⟩ (by omega)
              · exact lX.up ⟨_, hS, hM, hV⟩ (by omega)
            refine z_sipush (-2002) (by decide) C dL_acts_248 ?_
            refine z_icmp_eq 258 C dL_acts_251 (by decide) (fun c251 => absurd c251 hz9) (fun c251 => ?_)
            refine z_iconst 1 (by decide) C dL_acts_254 ?_
            refine z_goto 259 C dL_acts_255 (by decide) ?_
            refine z_zreturn C F (Nat.le_of_ble_eq_true rfl) (Nat.le_of_ble_eq_true rfl) (by decide) dL_acts_259 ?_
            exact ⟨_, rfl, hX1⟩
          · exact h245.elim
        · refine z_tableIn 237 C dL_acts_35 (by decide) (by decide) rfl (by decide) ?_
          refine z_aload_n C rfl dL_acts_237 ?_
          refine z_bipush 7 (by decide) C dL_acts_238 ?_
          refine z_iload C rfl dL_acts_240 ?_
          refine z_iload C rfl dL_acts_242 ?_
          refine z_iconst 0 (by decide) C dL_acts_244 ?_
          refine z_callLH 5 [zr (some x), zi 7, zi (nI j9), zi (nI j23), zi 0] C Nc Sc (DD_7 hl0 hS.1 j9 j23 0) rfl (zgoodS LWl_good wq201 wq202 wq4 wq203) rfl rfl rfl (by decide +kernel) rfl (by rw [hR]; exact ⟨Nat.le_of_ble_eq_true rfl, Nat.le_of_ble_eq_true rfl⟩) (by rw [hR]; exact ⟨Nat.le_of_ble_eq_true rfl, Nat.le_of_ble_eq_true rfl⟩) (Nat.le_of_ble_eq_true rfl) dL_acts_245 (fun v245 S245 h245 => ?_) (fun E245 S245 h245 => ?_)
          · obtain ⟨z, D1, rfl, hr, hY, hkp⟩ := h245
            replace hS := hS.kp hY hkp
            have hz9 : ¬ z = (-2002) := by
              rcases hr with ⟨_, _, hz, -⟩ | ⟨rfl | rfl, -⟩
              · rintro rfl; exact absurd hz (by decide)
              · decide
              · decide
            have hX1 : lX (n + 20) D1 x m Fw S245 := by
              rcases hr with ⟨u, s, -, rfl⟩ | ⟨-, rfl⟩
              · exact lX.up ⟨_, hS, hM.same (see_tags D u s).1, hV.same (see_tags D u s).2⟩ (by omega)
              · exact lX.up ⟨_, hS, hM, hV⟩ (by omega)
            refine z_sipush (-2002) (by decide) C dL_acts_248 ?_
            refine z_icmp_eq 258 C dL_acts_251 (by decide) (fun c251 => absurd c251 hz9) (fun c251 => ?_)
            refine z_iconst 1 (by decide) C dL_acts_254 ?_
            refine z_goto 259 C dL_acts_255 (by decide) ?_
            refine z_zreturn C F (Nat.le_of_ble_eq_true rfl) (Nat.le_of_ble_eq_true rfl) (by decide) dL_acts_259 ?_
            exact ⟨_, rfl, hX1⟩
          · exact h245.elim
        · refine z_tableIn 237 C dL_acts_35 (by decide) (by decide) rfl (by decide) ?_
          refine z_aload_n C rfl dL_acts_237 ?_
          refine z_bipush 7 (by decide) C dL_acts_238 ?_
          refine z_iload C rfl dL_acts_240 ?_
          refine z_iload C rfl dL_acts_242 ?_
          refine z_iconst 0 (by decide) C dL_acts_244 ?_
          refine z_callLH 5 [zr (some x), zi 7, zi (nI j9), zi (nI j23), zi 0] C Nc Sc (DD_7 hl0 hS.1 j9 j23 0) rfl (zgoodS LWl_good wq201 wq202 wq4 wq203) rfl rfl rfl (by decide +kernel) rfl (by rw [hR]; exact ⟨Nat.le_of_ble_eq_true rfl, Nat.le_of_ble_eq_true rfl⟩) (by rw [hR]; exact ⟨Nat.le_of_ble_eq_true rfl, Nat.le_of_ble_eq_true rfl⟩) (Nat.le_of_ble_eq_true rfl) dL_acts_245 (fun v245 S245 h245 => ?_) (fun E245 S245 h245 => ?_)
          · obtain ⟨z, D1, rfl, hr, hY, hkp⟩ := h245
            replace hS := hS.kp hY hkp
            have hz9 : ¬ z = (-2002) := by
              rcases hr with ⟨_, _, hz, -⟩ | ⟨rfl | rfl, -⟩
              · rintro rfl; exact absurd hz (by decide)
              · decide
              · decide
            have hX1 : lX (n + 20) D1 x m Fw S245 := by
              rcases hr with ⟨u, s, -, rfl⟩ | ⟨-, rfl⟩
              · exact lX.up ⟨_, hS, hM.same (see_tags D u s).1, hV.same (see_tags D u s).2⟩ (by omega)
              · exact lX.up ⟨_, hS, hM, hV⟩ (by omega)
            refine z_sipush (-2002) (by decide) C dL_acts_248 ?_
            refine z_icmp_eq 258 C dL_acts_251 (by decide) (fun c251 => absurd c251 hz9) (fun c251 => ?_)
            refine z_iconst 1 (by decide) C dL_acts_254 ?_
            refine z_goto 259 C dL_acts_255 (by decide) ?_
            refine z_zreturn C F (Nat.le_of_ble_eq_true rfl) (Nat.le_of_ble_eq_true rfl) (by decide) dL_acts_259 ?_
            exact ⟨_, rfl, hX1⟩
          · exact h245.elim
        · refine z_tableIn 260 C dL_acts_35 (by decide) (by decide) rfl (by decide) ?_
          refine z_aload_n C rfl dL_acts_260 ?_
          refine z_bipush 8 (by decide) C dL_acts_261 ?_
          refine z_iload C rfl dL_acts_263 ?_
          refine z_iload C rfl dL_acts_265 ?_
          refine z_iconst 0 (by decide) C dL_acts_267 ?_
          refine z_callLH 5 [zr (some x), zi 8, zi (nI j9), zi (nI j23), zi 0] C Nc Sc (DD_8 hl0 hS.1 j9 j23 0) rfl (zgoodS LWl_good wq201 wq202 wq4 wq203) rfl rfl rfl (by decide +kernel) rfl (by rw [hR]; exact ⟨Nat.le_of_ble_eq_true rfl, Nat.le_of_ble_eq_true rfl⟩) (by rw [hR]; exact ⟨Nat.le_of_ble_eq_true rfl, Nat.le_of_ble_eq_true rfl⟩) (Nat.le_of_ble_eq_true rfl) dL_acts_268 (fun v268 S268 h268 => ?_) (fun E268 S268 h268 => ?_)
          · obtain ⟨z, D1, rfl, hr, hY, hkp⟩ := h268
            replace hS := hS.kp hY hkp
            have hz9 : ¬ z = (-2002) := by
              rcases hr with ⟨_, _, hz, -⟩ | ⟨rfl | rfl, -⟩
              · rintro rfl; exact absurd hz (by decide)
              · decide
              · decide
            have hX1 : lX (n + 20) D1 x m Fw S268 := by
              rcases hr with ⟨u, s, -, rfl⟩ | ⟨-, rfl⟩
              · exact lX.up ⟨_, hS, hM.same (see_tags D u s).1, hV.same (see_tags D u s).2⟩ (by omega)
              · exact lX.up ⟨_, hS, hM, hV⟩ (by omega)
            refine z_sipush (-2002) (by decide) C dL_acts_271 ?_
            refine z_icmp_eq 281 C dL_acts_274 (by decide) (fun c274 => absurd c274 hz9) (fun c274 => ?_)
            refine z_iconst 1 (by decide) C dL_acts_277 ?_
            refine z_goto 282 C dL_acts_278 (by decide) ?_
            refine z_zreturn C F (Nat.le_of_ble_eq_true rfl) (Nat.le_of_ble_eq_true rfl) (by decide) dL_acts_282 ?_
            exact ⟨_, rfl, hX1⟩
          · exact h268.elim
        · refine z_tableIn 283 C dL_acts_35 (by decide) (by decide) rfl (by decide) ?_
          refine z_aload_n C rfl dL_acts_283 ?_
          refine z_aload_n C rfl dL_acts_284 ?_
          refine z_aload_n C rfl dL_acts_285 ?_
          refine z_iload_n C rfl dL_acts_286 ?_
          refine z_iconst 5 (by decide) C dL_acts_287 ?_
          refine z_iadd C dL_acts_288 ?_
          refine z_int (show nI i + 5 = nI (i + 5) from nI_add i 5) ?_
          refine z_callL 4 [zr (some x), zr (some m), zr (some sc.1), zi (nI (i + 5))] C Nc Sc (L_adds hl0 hN ⟨f, hS, hM, hV⟩ (i + 5) (by omega)) rfl (zgoodS LWl_good wq216 wq217 wq4 wq218) rfl rfl rfl (by decide +kernel) rfl (by rw [hR]; exact ⟨Nat.le_of_ble_eq_true rfl, Nat.le_of_ble_eq_true rfl⟩) (by rw [hR]; exact ⟨Nat.le_of_ble_eq_true rfl, Nat.le_of_ble_eq_true rfl⟩) (Nat.le_of_ble_eq_true rfl) dL_acts_289 (fun v289 S289 h289 => ?_) (fun E289 S289 h289 => ?_)
          · obtain ⟨D1, rfl, hX1⟩ := h289
            replace hX1 := hX1.up (show n ≤ n + 20 by omega)
            refine z_zreturn C F (Nat.le_of_ble_eq_true rfl) (Nat.le_of_ble_eq_true rfl) (by decide) dL_acts_292 ?_
            exact ⟨_, rfl, hX1⟩
          · exact h289.elim
        · refine z_tableIn 283 C dL_acts_35 (by decide) (by decide) rfl (by decide) ?_
          refine z_aload_n C rfl dL_acts_283 ?_
          refine z_aload_n C rfl dL_acts_284 ?_
          refine z_aload_n C rfl dL_acts_285 ?_
          refine z_iload_n C rfl dL_acts_286 ?_
          refine z_iconst 5 (by decide) C dL_acts_287 ?_
          refine z_iadd C dL_acts_288 ?_
          refine z_int (show nI i + 5 = nI (i + 5) from nI_add i 5) ?_
          refine z_callL 4 [zr (some x), zr (some m), zr (some sc.1), zi (nI (i + 5))] C Nc Sc (L_adds hl0 hN ⟨f, hS, hM, hV⟩ (i + 5) (by omega)) rfl (zgoodS LWl_good wq216 wq217 wq4 wq218) rfl rfl rfl (by decide +kernel) rfl (by rw [hR]; exact ⟨Nat.le_of_ble_eq_true rfl, Nat.le_of_ble_eq_true rfl⟩) (by rw [hR]; exact ⟨Nat.le_of_ble_eq_true rfl, Nat.le_of_ble_eq_true rfl⟩) (Nat.le_of_ble_eq_true rfl) dL_acts_289 (fun v289 S289 h289 => ?_) (fun E289 S289 h289 => ?_)
          · obtain ⟨D1, rfl, hX1⟩ := h289
            replace hX1 := hX1.up (show n ≤ n + 20 by omega)
            refine z_zreturn C F (Nat.le_of_ble_eq_true rfl) (Nat.le_of_ble_eq_true rfl) (by decide) dL_acts_292 ?_
            exact ⟨_, rfl, hX1⟩
          · exact h289.elim
        · refine z_tableOut 293 C dL_acts_35 (by decide) (by decide) ?_
          refine z_aload_n C rfl dL_acts_293 ?_
          refine z_aload_n C rfl dL_acts_294 ?_
          refine z_aload_n C rfl dL_acts_295 ?_
          refine z_iload_n C rfl dL_acts_296 ?_
          refine z_iconst 5 (by decide) C dL_acts_297 ?_
          refine z_iadd C dL_acts_298 ?_
          refine z_int (show nI i + 5 = nI (i + 5) from nI_add i 5) ?_
          refine z_callL 4 [zr (some x), zr (some m), zr (some sc.1), zi (nI (i + 5))] C Nc Sc (L_lists hl0 hN ⟨f, hS, hM, hV⟩ (i + 5) (by omega)) rfl (zgoodS LWl_good wq219 wq220 wq4 wq221) rfl rfl rfl (by decide +kernel) rfl (by rw [hR]; exact ⟨Nat.le_of_ble_eq_true rfl, Nat.le_of_ble_eq_true rfl⟩) (by rw [hR]; exact ⟨Nat.le_of_ble_eq_true rfl, Nat.le_of_ble_eq_true rfl⟩) (Nat.le_of_ble_eq_true rfl) dL_acts_299 (fun v299 S299 h299 => ?_) (fun E299 S299 h299 => ?_)
          · obtain ⟨D1, rfl, hX1⟩ := h299
            replace hX1 := hX1.up (show n ≤ n + 20 by omega)
            refine z_zreturn C F (Nat.le_of_ble_eq_true rfl) (Nat.le_of_ble_eq_true rfl) (by decide) dL_acts_302 ?_
            exact ⟨_, rfl, hX1⟩
          · exact h299.elim
        · refine z_tableOut 293 C dL_acts_35 (by decide) (by decide) ?_
          refine z_aload_n C rfl dL_acts_293 ?_
          refine z_aload_n C rfl dL_acts_294 ?_
          refine z_aload_n C rfl dL_acts_295 ?_
          refine z_iload_n C rfl dL_acts_296 ?_
          refine z_iconst 5 (by decide) C dL_acts_297 ?_
          refine z_iadd C dL_acts_298 ?_
          refine z_int (show nI i + 5 = nI (i + 5) from nI_add i 5) ?_
          refine z_callL 4 [zr (some x), zr (some m), zr (some sc.1), zi (nI (i + 5))] C Nc Sc (L_lists hl0 hN ⟨f, hS, hM, hV⟩ (i + 5) (by omega)) rfl (zgoodS LWl_good wq219 wq220 wq4 wq221) rfl rfl rfl (by decide +kernel) rfl (by rw [hR]; exact ⟨Nat.le_of_ble_eq_true rfl, Nat.le_of_ble_eq_true rfl⟩) (by rw [hR]; exact ⟨Nat.le_of_ble_eq_true rfl, Nat.le_of_ble_eq_true rfl⟩) (Nat.le_of_ble_eq_true rfl) dL_acts_299 (fun v299 S299 h299 => ?_) (fun E299 S299 h299 => ?_)
          · obtain ⟨D1, rfl, hX1⟩ := h299
            replace hX1 := hX1.up (show n ≤ n + 20 by omega)
            refine z_zreturn C F (Nat.le_of_ble_eq_true rfl) (Nat.le_of_ble_eq_true rfl) (by decide) dL_acts_302 ?_
            exact ⟨_, rfl, hX1⟩
          · exact h299.elim
        · refine z_tableOut 293 C dL_acts_35 (by decide) (by decide) ?_
          refine z_aload_n C rfl dL_acts_293 ?_
          refine z_aload_n C rfl dL_acts_294 ?_
          refine z_aload_n C rfl dL_acts_295 ?_
          refine z_iload_n C rfl dL_acts_296 ?_
          refine z_iconst 5 (by decide) C dL_acts_297 ?_
          refine z_iadd C dL_acts_298 ?_
          refine z_int (show nI i + 5 = nI (i + 5) from nI_add i 5) ?_
          refine z_callL 4 [zr (some x), zr (some m), zr (some sc.1), zi (nI (i + 5))] C Nc Sc (L_lists hl0 hN ⟨f, hS, hM, hV⟩ (i + 5) (by omega)) rfl (zgoodS LWl_good wq219 wq220 wq4 wq221) rfl rfl rfl (by decide +kernel) rfl (by rw [hR]; exact ⟨Nat.le_of_ble_eq_true rfl, Nat.le_of_ble_eq_true rfl⟩) (by rw [hR]; exact ⟨Nat.le_of_ble_eq_true rfl, Nat.le_of_ble_eq_true rfl⟩) (Nat.le_of_ble_eq_true rfl) dL_acts_299 (fun v299 S299 h299 => ?_) (fun E299 S299 h299 => ?_)
          · obtain ⟨D1, rfl, hX1⟩ := h299
            replace hX1 := hX1.up (show n ≤ n + 20 by omega)
            refine z_zreturn C F (Nat.le_of_ble_eq_true rfl) (Nat.le_of_ble_eq_true rfl) (by decide) dL_acts_302 ?_
            exact ⟨_, rfl, hX1⟩
          · exact h299.elim
      · exact h32.elim
    · exact h23.elim
  · exact h9.elim
