/-! the law's deeds in a row (laid by wip/p54/m79.py) -/
set_option maxRecDepth 100000 in
set_option maxHeartbeats 4000000 in
theorem L_adds {l : Launch} {sc : zSQ} (hl0 : l.stackTraces = false) (hN : sc.2.1 < 2 ^ 31) {n : Nat} {D : ZD} {x m : Nat} {Fw : Nat → Bool} {S : ZM} (hX : lX n D x m Fw S) (i : Nat) (hi : i < 2 ^ 20) : zMetL l sc yL_adds (Cond.code yL_adds cL_adds 5 (some .boolean) :: LWl) ({ frames := 50, cells := 5, slots := 42, locals := 1140 } : Room) 5 42 [zr (some x), zr (some m), zr (some sc.1), zi (nI i)] S (zPo (fun v S' => ∃ D' : ZD, v = some (zi 1) ∧ lX n D' x m Fw S') (fun _ _ => False)) := by
  refine zMetL.of [some (zr (some x)), some (zr (some m)), some (zr (some sc.1)), some (zi (nI i)), none] hl0 (by decide) rfl (Nat.le_of_ble_eq_true rfl) rfl ?_
  intro X C N Nc Sc hR hX F
  subst hX
  have hRc : (xR X).cells = 5 := by rw [hR]
  have hRs : (xR X).slots = 42 := by rw [hR]
  obtain ⟨f, hS, hM, hV⟩ := hX
  have ho := hS.1.ok
  obtain ⟨hm0, hm2, hm3, ⟨j1, hj1, hm1⟩, hmr, hml⟩ := id hM
  have hT24 := ho.t
  have hR40 := ho.r
  have hL8 := ho.l
  refine z_iconst 1 (by decide) C dL_adds_0 ?_
  refine z_aload_n C rfl dL_adds_1 ?_
  refine z_iconst 2 (by decide) C dL_adds_2 ?_
  refine z_mld C hS (show (2 : Int32) = nI 2 from rfl) (by decide) hm2 dL_adds_3 ?_
  refine z_mmax C (List.mem_cons_of_mem _ wq204) (List.mem_cons_of_mem _ wq205) (List.mem_cons_of_mem _ (ul_c wc178)) (List.mem_cons_of_mem _ wq206) (by rw [hR]; exact Nat.le_of_ble_eq_true rfl) (by rw [hR]; exact Nat.le_of_ble_eq_true rfl) (by rw [hR]; exact Nat.le_of_ble_eq_true rfl) (by rw [hR]; exact Nat.le_of_ble_eq_true rfl) dL_adds_4 ?_
  obtain ⟨R9, hR0, hR9, eR9⟩ := mx_one hR40
  refine z_int eR9 ?_
  refine z_istore [_, _, _, _, _] C (by decide) rfl dL_adds_7 ?_
  refine z_aload_n C rfl dL_adds_9 ?_
  refine z_iload_n C rfl dL_adds_10 ?_
  refine z_bipush 12 (by decide) C dL_adds_11 ?_
  refine z_callL 3 [zr (some sc.1), zi (nI (i)), zi (nI (12))] C Nc Sc (L_pick hl0 hN (i) (by omega) (12) (by decide) (by omega)) rfl (zgoodS LWl_good wq207 wq208 wq4 wq209) rfl rfl rfl (by decide +kernel) rfl (by rw [hR]; exact ⟨Nat.le_of_ble_eq_true rfl, Nat.le_of_ble_eq_true rfl⟩) (by rw [hR]; exact ⟨Nat.le_of_ble_eq_true rfl, Nat.le_of_ble_eq_true rfl⟩) (Nat.le_of_ble_eq_true rfl) dL_adds_13 (fun v13 S13 h13 => ?_) (fun E13 S13 h13 => ?_)
  · obtain ⟨j13, hj13, rfl, q13⟩ := h13
    subst q13
    rcases (show j13 = 0 ∨ j13 = 1 ∨ j13 = 2 ∨ j13 = 3 ∨ j13 = 4 ∨ j13 = 5 ∨ j13 = 6 ∨ j13 = 7 ∨ j13 = 8 ∨ j13 = 9 ∨ j13 = 10 ∨ j13 = 11 by omega) with rfl | rfl | rfl | rfl | rfl | rfl | rfl | rfl | rfl | rfl | rfl | rfl
    · refine z_tableIn 72 C dL_adds_16 (by decide) (by decide) rfl (by decide) ?_
      refine z_aload_n C rfl dL_adds_72 ?_
      refine z_aload_n C rfl dL_adds_73 ?_
      refine z_iconst 0 (by decide) C dL_adds_74 ?_
      refine z_aload_n C rfl dL_adds_75 ?_
      refine z_iload_n C rfl dL_adds_76 ?_
      refine z_iconst 1 (by decide) C dL_adds_77 ?_
      refine z_iadd C dL_adds_78 ?_
      refine z_int (show nI i + 1 = nI (i + 1) from nI_add i 1) ?_
      refine z_aload_n C rfl dL_adds_79 ?_
      refine z_iconst 1 (by decide) C dL_adds_80 ?_
      refine z_mld C hS (show (1 : Int32) = nI 1 from rfl) (by decide) hm1 dL_adds_81 ?_
      refine z_iconst 1 (by decide) C dL_adds_82 ?_
      refine z_iadd C dL_adds_83 ?_
      refine z_int (nI_1 j1) ?_
      refine z_callL 3 [zr (some sc.1), zi (nI (i + 1)), zi (nI (j1 + 1))] C Nc Sc (L_pick hl0 hN (i + 1) (by omega) (j1 + 1) (by omega) (by omega)) rfl (zgoodS LWl_good wq207 wq208 wq4 wq209) rfl rfl rfl (by decide +kernel) rfl (by rw [hR]; exact ⟨Nat.le_of_ble_eq_true rfl, Nat.le_of_ble_eq_true rfl⟩) (by rw [hR]; exact ⟨Nat.le_of_ble_eq_true rfl, Nat.le_of_ble_eq_true rfl⟩) (Nat.le_of_ble_eq_true rfl) dL_adds_84 (fun v84 S84 h84 => ?_) (fun E84 S84 h84 => ?_)
      · obtain ⟨j84, hj84, rfl, q84⟩ := h84
        subst q84
        refine z_iconst 0 (by decide) C dL_adds_87 ?_
        refine z_callL 5 [zr (some x), zr (some m), zi 0, zi (nI j84), zi 0] C Nc Sc (L_rule hl0 ⟨f, hS, hM, hV⟩ 0 (nI j84) 0 11 (by decide) (DD_11 hl0 hS.1 j84 0 0)) rfl (zgoodS LWl_good wq210 wq211 wq4 wq212) rfl rfl rfl (by decide +kernel) rfl (by rw [hR]; exact ⟨Nat.le_of_ble_eq_true rfl, Nat.le_of_ble_eq_true rfl⟩) (by rw [hR]; exact ⟨Nat.le_of_ble_eq_true rfl, Nat.le_of_ble_eq_true rfl⟩) (Nat.le_of_ble_eq_true rfl) dL_adds_88 (fun v88 S88 h88 => ?_) (fun E88 S88 h88 => ?_)
        · obtain ⟨z, D1, rfl, hz, hX1⟩ := h88
          refine z_bipush 40 (by decide) C dL_adds_91 ?_
          refine z_icmp_ge 100 C dL_adds_93 (by decide) (fun c93 => absurd hz (Int32.not_lt.mpr c93)) (fun c93 => ?_)
          refine z_iconst 1 (by decide) C dL_adds_96 ?_
          refine z_goto 101 C dL_adds_97 (by decide) ?_
          refine z_zreturn C F (Nat.le_of_ble_eq_true rfl) (Nat.le_of_ble_eq_true rfl) (by decide) dL_adds_101 ?_
          exact ⟨_, rfl, hX1⟩
        · exact h88.elim
      · exact h84.elim
    · refine z_tableIn 102 C dL_adds_16 (by decide) (by decide) rfl (by decide) ?_
      refine z_aload_n C rfl dL_adds_102 ?_
      refine z_aload_n C rfl dL_adds_103 ?_
      refine z_iconst 1 (by decide) C dL_adds_104 ?_
      refine z_aload_n C rfl dL_adds_105 ?_
      refine z_iload_n C rfl dL_adds_106 ?_
      refine z_iconst 1 (by decide) C dL_adds_107 ?_
      refine z_iadd C dL_adds_108 ?_
      refine z_int (show nI i + 1 = nI (i + 1) from nI_add i 1) ?_
      refine z_bipush 7 (by decide) C dL_adds_109 ?_
      refine z_callL 3 [zr (some sc.1), zi (nI (i + 1)), zi (nI (7))] C Nc Sc (L_pick hl0 hN (i + 1) (by omega) (7) (by decide) (by omega)) rfl (zgoodS LWl_good wq207 wq208 wq4 wq209) rfl rfl rfl (by decide +kernel) rfl (by rw [hR]; exact ⟨Nat.le_of_ble_eq_true rfl, Nat.le_of_ble_eq_true rfl⟩) (by rw [hR]; exact ⟨Nat.le_of_ble_eq_true rfl, Nat.le_of_ble_eq_true rfl⟩) (Nat.le_of_ble_eq_true rfl) dL_adds_111 (fun v111 S111 h111 => ?_) (fun E111 S111 h111 => ?_)
      · obtain ⟨j111, hj111, rfl, q111⟩ := h111
        subst q111
        refine z_iconst 0 (by decide) C dL_adds_114 ?_
        refine z_callL 5 [zr (some x), zr (some m), zi 1, zi (nI j111), zi 0] C Nc Sc (L_rule hl0 ⟨f, hS, hM, hV⟩ 1 (nI j111) 0 12 (by decide) (DD_12 hl0 hS.1 (nI j111) 0 0)) rfl (zgoodS LWl_good wq210 wq211 wq4 wq212) rfl rfl rfl (by decide +kernel) rfl (by rw [hR]; exact ⟨Nat.le_of_ble_eq_true rfl, Nat.le_of_ble_eq_true rfl⟩) (by rw [hR]; exact ⟨Nat.le_of_ble_eq_true rfl, Nat.le_of_ble_eq_true rfl⟩) (Nat.le_of_ble_eq_true rfl) dL_adds_115 (fun v115 S115 h115 => ?_) (fun E115 S115 h115 => ?_)
        · obtain ⟨z, D1, rfl, hz, hX1⟩ := h115
          refine z_bipush 40 (by decide) C dL_adds_118 ?_
          refine z_icmp_ge 127 C dL_adds_120 (by decide) (fun c120 => absurd hz (Int32.not_lt.mpr c120)) (fun c120 => ?_)
          refine z_iconst 1 (by decide) C dL_adds_123 ?_
          refine z_goto 128 C dL_adds_124 (by decide) ?_
          refine z_zreturn C F (Nat.le_of_ble_eq_true rfl) (Nat.le_of_ble_eq_true rfl) (by decide) dL_adds_128 ?_
          exact ⟨_, rfl, hX1⟩
        · exact h115.elim
      · exact h111.elim
    · refine z_tableIn 129 C dL_adds_16 (by decide) (by decide) rfl (by decide) ?_
      refine z_aload_n C rfl dL_adds_129 ?_
      refine z_aload_n C rfl dL_adds_130 ?_
      refine z_iconst 2 (by decide) C dL_adds_131 ?_
      refine z_aload_n C rfl dL_adds_132 ?_
      refine z_iload_n C rfl dL_adds_133 ?_
      refine z_iconst 1 (by decide) C dL_adds_134 ?_
      refine z_iadd C dL_adds_135 ?_
      refine z_int (show nI i + 1 = nI (i + 1) from nI_add i 1) ?_
      refine z_iconst 4 (by decide) C dL_adds_136 ?_
      refine z_callL 3 [zr (some sc.1), zi (nI (i + 1)), zi (nI (4))] C Nc Sc (L_pick hl0 hN (i + 1) (by omega) (4) (by decide) (by omega)) rfl (zgoodS LWl_good wq207 wq208 wq4 wq209) rfl rfl rfl (by decide +kernel) rfl (by rw [hR]; exact ⟨Nat.le_of_ble_eq_true rfl, Nat.le_of_ble_eq_true rfl⟩) (by rw [hR]; exact ⟨Nat.le_of_ble_eq_true rfl, Nat.le_of_ble_eq_true rfl⟩) (Nat.le_of_ble_eq_true rfl) dL_adds_137 (fun v137 S137 h137 => ?_) (fun E137 S137 h137 => ?_)
      · obtain ⟨j137, hj137, rfl, q137⟩ := h137
        subst q137
        refine z_iconst 0 (by decide) C dL_adds_140 ?_
        refine z_callL 5 [zr (some x), zr (some m), zi 2, zi (nI j137), zi 0] C Nc Sc (L_rule hl0 ⟨f, hS, hM, hV⟩ 2 (nI j137) 0 13 (by decide) (DD_13 hl0 hS.1 (nI j137) 0 0)) rfl (zgoodS LWl_good wq210 wq211 wq4 wq212) rfl rfl rfl (by decide +kernel) rfl (by rw [hR]; exact ⟨Nat.le_of_ble_eq_true rfl, Nat.le_of_ble_eq_true rfl⟩) (by rw [hR]; exact ⟨Nat.le_of_ble_eq_true rfl, Nat.le_of_ble_eq_true rfl⟩) (Nat.le_of_ble_eq_true rfl) dL_adds_141 (fun v141 S141 h141 => ?_) (fun E141 S141 h141 => ?_)
        · obtain ⟨z, D1, rfl, hz, hX1⟩ := h141
          refine z_bipush 40 (by decide) C dL_adds_144 ?_
          refine z_icmp_ge 153 C dL_adds_146 (by decide) (fun c146 => absurd hz (Int32.not_lt.mpr c146)) (fun c146 => ?_)
          refine z_iconst 1 (by decide) C dL_adds_149 ?_
          refine z_goto 154 C dL_adds_150 (by decide) ?_
          refine z_zreturn C F (Nat.le_of_ble_eq_true rfl) (Nat.le_of_ble_eq_true rfl) (by decide) dL_adds_154 ?_
          exact ⟨_, rfl, hX1⟩
        · exact h141.elim
      · exact h137.elim
    · refine z_tableIn 155 C dL_adds_16 (by decide) (by decide) rfl (by decide) ?_
      refine z_aload_n C rfl dL_adds_155 ?_
      refine z_aload_n C rfl dL_adds_156 ?_
      refine z_iconst 3 (by decide) C dL_adds_157 ?_
      refine z_iconst 1 (by decide) C dL_adds_158 ?_
      refine z_aload_n C rfl dL_adds_159 ?_
      refine z_iload_n C rfl dL_adds_160 ?_
      refine z_iconst 1 (by decide) C dL_adds_161 ?_
      refine z_iadd C dL_adds_162 ?_
      refine z_int (show nI i + 1 = nI (i + 1) from nI_add i 1) ?_
      refine z_sipush 400 (by decide) C dL_adds_163 ?_
      refine z_callL 3 [zr (some sc.1), zi (nI (i + 1)), zi (nI (400))] C Nc Sc (L_pick hl0 hN (i + 1) (by omega) (400) (by decide) (by omega)) rfl (zgoodS LWl_good wq207 wq208 wq4 wq209) rfl rfl rfl (by decide +kernel) rfl (by rw [hR]; exact ⟨Nat.le_of_ble_eq_true rfl, Nat.le_of_ble_eq_true rfl⟩) (by rw [hR]; exact ⟨Nat.le_of_ble_eq_true rfl, Nat.le_of_ble_eq_true rfl⟩) (Nat.le_of_ble_eq_true rfl) dL_adds_166 (fun v166 S166 h166 => ?_) (fun E166 S166 h166 => ?_)
      · obtain ⟨j166, hj166, rfl, q166⟩ := h166
        subst q166
        refine z_iadd C dL_adds_169 ?_
        refine z_iconst 0 (by decide) C dL_adds_170 ?_
        refine z_callL 5 [zr (some x), zr (some m), zi 3, zi (1 + nI j166), zi 0] C Nc Sc (L_rule hl0 ⟨f, hS, hM, hV⟩ 3 (1 + nI j166) 0 14 (by decide) (DD_14 hl0 hS.1 (1 + nI j166) 0 0)) rfl (zgoodS LWl_good wq210 wq211 wq4 wq212) rfl rfl rfl (by decide +kernel) rfl (by rw [hR]; exact ⟨Nat.le_of_ble_eq_true rfl, Nat.le_of_ble_eq_true rfl⟩) (by rw [hR]; exact ⟨Nat.le_of_ble_eq_true rfl, Nat.le_of_ble_eq_true rfl⟩) (Nat.le_of_ble_eq_true rfl) dL_adds_171 (fun v171 S171 h171 => ?_) (fun E171 S171 h171 => ?_)
        · obtain ⟨z, D1, rfl, hz, hX1⟩ := h171
          refine z_bipush 40 (by decide) C dL_adds_174 ?_
          refine z_icmp_ge 183 C dL_adds_176 (by decide) (fun c176 => absurd hz (Int32.not_lt.mpr c176)) (fun c176 => ?_)
          refine z_iconst 1 (by decide) C dL_adds_179 ?_
          refine z_goto 184 C dL_adds_180 (by decide) ?_
          refine z_zreturn C F (Nat.le_of_ble_eq_true rfl) (Nat.le_of_ble_eq_true rfl) (by decide) dL_adds_184 ?_
          exact ⟨_, rfl, hX1⟩
        · exact h171.elim
      · exact h166.elim
    · refine z_tableIn 185 C dL_adds_16 (by decide) (by decide) rfl (by decide) ?_
      refine z_aload_n C rfl dL_adds_185 ?_
      refine z_aload_n C rfl dL_adds_186 ?_
      refine z_iconst 4 (by decide) C dL_adds_187 ?_
      refine z_aload_n C rfl dL_adds_188 ?_
      refine z_iload_n C rfl dL_adds_189 ?_
      refine z_iconst 1 (by decide) C dL_adds_190 ?_
      refine z_iadd C dL_adds_191 ?_
      refine z_int (show nI i + 1 = nI (i + 1) from nI_add i 1) ?_
      refine z_bipush 30 (by decide) C dL_adds_192 ?_
      refine z_callL 3 [zr (some sc.1), zi (nI (i + 1)), zi (nI (30))] C Nc Sc (L_pick hl0 hN (i + 1) (by omega) (30) (by decide) (by omega)) rfl (zgoodS LWl_good wq207 wq208 wq4 wq209) rfl rfl rfl (by decide +kernel) rfl (by rw [hR]; exact ⟨Nat.le_of_ble_eq_true rfl, Nat.le_of_ble_eq_true rfl⟩) (by rw [hR]; exact ⟨Nat.le_of_ble_eq_true rfl, Nat.le_of_ble_eq_true rfl⟩) (Nat.le_of_ble_eq_true rfl) dL_adds_194 (fun v194 S194 h194 => ?_) (fun E194 S194 h194 => ?_)
      · obtain ⟨j194, hj194, rfl, q194⟩ := h194
        subst q194
        refine z_iconst 0 (by decide) C dL_adds_197 ?_
        refine z_callL 5 [zr (some x), zr (some m), zi 4, zi (nI j194), zi 0] C Nc Sc (L_rule hl0 ⟨f, hS, hM, hV⟩ 4 (nI j194) 0 15 (by decide) (DD_15 hl0 hS.1 (nI j194) 0 0)) rfl (zgoodS LWl_good wq210 wq211 wq4 wq212) rfl rfl rfl (by decide +kernel) rfl (by rw [hR]; exact ⟨Nat.le_of_ble_eq_true rfl, Nat.le_of_ble_eq_true rfl⟩) (by rw [hR]; exact ⟨Nat.le_of_ble_eq_true rfl, Nat.le_of_ble_eq_true rfl⟩) (Nat.le_of_ble_eq_true rfl) dL_adds_198 (fun v198 S198 h198 => ?_) (fun E198 S198 h198 => ?_)
        · obtain ⟨z, D1, rfl, hz, hX1⟩ := h198
          refine z_bipush 40 (by decide) C dL_adds_201 ?_
          refine z_icmp_ge 210 C dL_adds_203 (by decide) (fun c203 => absurd hz (Int32.not_lt.mpr c203)) (fun c203 => ?_)
          refine z_iconst 1 (by decide) C dL_adds_206 ?_
          refine z_goto 211 C dL_adds_207 (by decide) ?_
          refine z_zreturn C F (Nat.le_of_ble_eq_true rfl) (Nat.le_of_ble_eq_true rfl) (by decide) dL_adds_211 ?_
          exact ⟨_, rfl, hX1⟩
        · exact h198.elim
      · exact h194.elim
    · refine z_tableIn 212 C dL_adds_16 (by decide) (by decide) rfl (by decide) ?_
      refine z_aload_n C rfl dL_adds_212 ?_
      refine z_aload_n C rfl dL_adds_213 ?_
      refine z_iconst 5 (by decide) C dL_adds_214 ?_
      refine z_aload_n C rfl dL_adds_215 ?_
      refine z_iload_n C rfl dL_adds_216 ?_
      refine z_iconst 1 (by decide) C dL_adds_217 ?_
      refine z_iadd C dL_adds_218 ?_
      refine z_int (show nI i + 1 = nI (i + 1) from nI_add i 1) ?_
      refine z_aload_n C rfl dL_adds_219 ?_
      refine z_iconst 3 (by decide) C dL_adds_220 ?_
      refine z_mld C hS (show (3 : Int32) = nI 3 from rfl) (by decide) hm3 dL_adds_221 ?_
      refine z_iconst 1 (by decide) C dL_adds_222 ?_
      refine z_iadd C dL_adds_223 ?_
      refine z_int (nI_1 (dL D)) ?_
      refine z_callL 3 [zr (some sc.1), zi (nI (i + 1)), zi (nI (dL D + 1))] C Nc Sc (L_pick hl0 hN (i + 1) (by omega) (dL D + 1) (by omega) (by omega)) rfl (zgoodS LWl_good wq207 wq208 wq4 wq209) rfl rfl rfl (by decide +kernel) rfl (by rw [hR]; exact ⟨Nat.le_of_ble_eq_true rfl, Nat.le_of_ble_eq_true rfl⟩) (by rw [hR]; exact ⟨Nat.le_of_ble_eq_true rfl, Nat.le_of_ble_eq_true rfl⟩) (Nat.le_of_ble_eq_true rfl) dL_adds_224 (fun v224 S224 h224 => ?_) (fun E224 S224 h224 => ?_)
      · obtain ⟨j224, hj224, rfl, q224⟩ := h224
        subst q224
        refine z_iconst 0 (by decide) C dL_adds_227 ?_
        refine z_callL 5 [zr (some x), zr (some m), zi 5, zi (nI j224), zi 0] C Nc Sc (L_rule hl0 ⟨f, hS, hM, hV⟩ 5 (nI j224) 0 16 (by decide) (DD_16 hl0 hS.1 (nI j224) 0 0)) rfl (zgoodS LWl_good wq210 wq211 wq4 wq212) rfl rfl rfl (by decide +kernel) rfl (by rw [hR]; exact ⟨Nat.le_of_ble_eq_true rfl, Nat.le_of_ble_eq_true rfl⟩) (by rw [hR]; exact ⟨Nat.le_of_ble_eq_true rfl, Nat.le_of_ble_eq_true rfl⟩) (Nat.le_of_ble_eq_true rfl) dL_adds_228 (fun v228 S228 h228 => ?_) (fun E228 S228 h228 => ?_)
        · obtain ⟨z, D1, rfl, hz, hX1⟩ := h228
          refine z_bipush 40 (by decide) C dL_adds_231 ?_
          refine z_icmp_ge 240 C dL_adds_233 (by decide) (fun c233 => absurd hz (Int32.not_lt.mpr c233)) (fun c233 => ?_)
          refine z_iconst 1 (by decide) C dL_adds_236 ?_
          refine z_goto 241 C dL_adds_237 (by decide) ?_
          refine z_zreturn C F (Nat.le_of_ble_eq_true rfl) (Nat.le_of_ble_eq_true rfl) (by decide) dL_adds_241 ?_
          exact ⟨_, rfl, hX1⟩
        · exact h228.elim
      · exact h224.elim
    · refine z_tableIn 212 C dL_adds_16 (by decide) (by decide) rfl (by decide) ?_
      refine z_aload_n C rfl dL_adds_212 ?_
      refine z_aload_n C rfl dL_adds_213 ?_
      refine z_iconst 5 (by decide) C dL_adds_214 ?_
      refine z_aload_n C rfl dL_adds_215 ?_
      refine z_iload_n C rfl dL_adds_216 ?_
      refine z_iconst 1 (by decide) C dL_adds_217 ?_
      refine z_iadd C dL_adds_218 ?_
      refine z_int (show nI i + 1 = nI (i + 1) from nI_add i 1) ?_
      refine z_aload_n C rfl dL_adds_219 ?_
      refine z_iconst 3 (by decide) C dL_adds_220 ?_
      refine z_mld C hS (show (3 : Int32) = nI 3 from rfl) (by decide) hm3 dL_adds_221 ?_
      refine z_iconst 1 (by decide) C dL_adds_222 ?_
      refine z_iadd C dL_adds_223 ?_
      refine z_int (nI_1 (dL D)) ?_
      refine z_callL 3 [zr (some sc.1), zi (nI (i + 1)), zi (nI (dL D + 1))] C Nc Sc (L_pick hl0 hN (i + 1) (by omega) (dL D + 1) (by omega) (by omega)) rfl (zgoodS LWl_good wq207 wq208 wq4 wq209) rfl rfl rfl (by decide +kernel) rfl (by rw [hR]; exact ⟨Nat.le_of_ble_eq_true rfl, Nat.le_of_ble_eq_true rfl⟩) (by rw [hR]; exact ⟨Nat.le_of_ble_eq_true rfl, Nat.le_of_ble_eq_true rfl⟩) (Nat.le_of_ble_eq_true rfl) dL_adds_224 (fun v224 S224 h224 => ?_) (fun E224 S224 h224 => ?_)
      · obtain ⟨j224, hj224, rfl, q224⟩ := h224
        subst q224
        refine z_iconst 0 (by decide) C dL_adds_227 ?_
        refine z_callL 5 [zr (some x), zr (some m), zi 5, zi (nI j224), zi 0] C Nc Sc (L_rule hl0 ⟨f, hS, hM, hV⟩ 5 (nI j224) 0 16 (by decide) (DD_16 hl0 hS.1 (nI j224) 0 0)) rfl (zgoodS LWl_good wq210 wq211 wq4 wq212) rfl rfl rfl (by decide +kernel) rfl (by rw [hR]; exact ⟨Nat.le_of_ble_eq_true rfl, Nat.le_of_ble_eq_true rfl⟩) (by rw [hR]; exact ⟨Nat.le_of_ble_eq_true rfl, Nat.le_of_ble_eq_true rfl⟩) (Nat.le_of_ble_eq_true rfl) dL_adds_228 (fun v228 S228 h228 => ?_) (fun E228 S228 h228 => ?_)
        · obtain ⟨z, D1, rfl, hz, hX1⟩ := h228
          refine z_bipush 40 (by decide) C dL_adds_231 ?_
          refine z_icmp_ge 240 C dL_adds_233 (by decide) (fun c233 => absurd hz (Int32.not_lt.mpr c233)) (fun c233 => ?_)
          refine z_iconst 1 (by decide) C dL_adds_236 ?_
          refine z_goto 241 C dL_adds_237 (by decide) ?_
          refine z_zreturn C F (Nat.le_of_ble_eq_true rfl) (Nat.le_of_ble_eq_true rfl) (by decide) dL_adds_241 ?_
          exact ⟨_, rfl, hX1⟩
        · exact h228.elim
      · exact h224.elim
    · refine z_tableIn 242 C dL_adds_16 (by decide) (by decide) rfl (by decide) ?_
      refine z_aload_n C rfl dL_adds_242 ?_
      refine z_aload_n C rfl dL_adds_243 ?_
      refine z_bipush 6 (by decide) C dL_adds_244 ?_
      refine z_aload_n C rfl dL_adds_246 ?_
      refine z_iload_n C rfl dL_adds_247 ?_
      refine z_iconst 1 (by decide) C dL_adds_248 ?_
      refine z_iadd C dL_adds_249 ?_
      refine z_int (show nI i + 1 = nI (i + 1) from nI_add i 1) ?_
      refine z_iload C rfl dL_adds_250 ?_
      refine z_callL 3 [zr (some sc.1), zi (nI (i + 1)), zi (nI (R9))] C Nc Sc (L_pick hl0 hN (i + 1) (by omega) (R9) (by omega) (by omega)) rfl (zgoodS LWl_good wq207 wq208 wq4 wq209) rfl rfl rfl (by decide +kernel) rfl (by rw [hR]; exact ⟨Nat.le_of_ble_eq_true rfl, Nat.le_of_ble_eq_true rfl⟩) (by rw [hR]; exact ⟨Nat.le_of_ble_eq_true rfl, Nat.le_of_ble_eq_true rfl⟩) (Nat.le_of_ble_eq_true rfl) dL_adds_252 (fun v252 S252 h252 => ?_) (fun E252 S252 h252 => ?_)
      · obtain ⟨j252, hj252, rfl, q252⟩ := h252
        subst q252
        refine z_aload_n C rfl dL_adds_255 ?_
        refine z_iload_n C rfl dL_adds_256 ?_
        refine z_iconst 2 (by decide) C dL_adds_257 ?_
        refine z_iadd C dL_adds_258 ?_
        refine z_int (show nI i + 2 = nI (i + 2) from nI_add i 2) ?_
        refine z_iload C rfl dL_adds_259 ?_
        refine z_callL 3 [zr (some sc.1), zi (nI (i + 2)), zi (nI (R9))] C Nc Sc (L_pick hl0 hN (i + 2) (by omega) (R9) (by omega) (by omega)) rfl (zgoodS LWl_good wq207 wq208 wq4 wq209) rfl rfl rfl (by decide +kernel) rfl (by rw [hR]; exact ⟨Nat.le_of_ble_eq_true rfl, Nat.le_of_ble_eq_true rfl⟩) (by rw [hR]; exact ⟨Nat.le_of_ble_eq_true rfl, Nat.le_of_ble_eq_true rfl⟩) (Nat.le_of_ble_eq_true rfl) dL_adds_261 (fun v261 S261 h261 => ?_) (fun E261 S261 h261 => ?_)
        · obtain ⟨j261, hj261, rfl, q261⟩ := h261
          subst q261
          refine z_callL 5 [zr (some x), zr (some m), zi 6, zi (nI j252), zi (nI j261)] C Nc Sc (L_rule hl0 ⟨f, hS, hM, hV⟩ 6 (nI j252) (nI j261) 17 (by decide) (DD_17 hl0 hS.1 j252 j261 0 (by omega) (by omega))) rfl (zgoodS LWl_good wq210 wq211 wq4 wq212) rfl rfl rfl (by decide +kernel) rfl (by rw [hR]; exact ⟨Nat.le_of_ble_eq_true rfl, Nat.le_of_ble_eq_true rfl⟩) (by rw [hR]; exact ⟨Nat.le_of_ble_eq_true rfl, Nat.le_of_ble_eq_true rfl⟩) (Nat.le_of_ble_eq_true rfl) dL_adds_264 (fun v264 S264 h264 => ?_) (fun E264 S264 h264 => ?_)
          · obtain ⟨z, D1, rfl, hz, hX1⟩ := h264
            refine z_bipush 40 (by decide) C dL_adds_267 ?_
            refine z_icmp_ge 276 C dL_adds_269 (by decide) (fun c269 => absurd hz (Int32.not_lt.mpr c269)) (fun c269 => ?_)
            refine z_iconst 1 (by decide) C dL_adds_272 ?_
            refine z_goto 277 C dL_adds_273 (by decide) ?_
            refine z_zreturn C F (Nat.le_of_ble_eq_true rfl) (Nat.le_of_ble_eq_true rfl) (by decide) dL_adds_277 ?_
            exact ⟨_, rfl, hX1⟩
          · exact h264.elim
        · exact h261.elim
      · exact h252.elim
    · refine z_tableIn 242 C dL_adds_16 (by decide) (by decide) rfl (by decide) ?_
      refine z_aload_n C rfl dL_adds_242 ?_
      refine z_aload_n C rfl dL_adds_243 ?_
      refine z_bipush 6 (by decide) C dL_adds_244 ?_
      refine z_aload_n C rfl dL_adds_246 ?_
      refine z_iload_n C rfl dL_adds_247 ?_
      refine z_iconst 1 (by decide) C dL_adds_248 ?_
      refine z_iadd C dL_adds_249 ?_
      refine z_int (show nI i + 1 = nI (i + 1) from nI_add i 1) ?_
      refine z_iload C rfl dL_adds_250 ?_
      refine z_callL 3 [zr (some sc.1), zi (nI (i + 1)), zi (nI (R9))] C Nc Sc (L_pick hl0 hN (i + 1) (by omega) (R9) (by omega) (by omega)) rfl (zgoodS LWl_good wq207 wq208 wq4 wq209) rfl rfl rfl (by decide +kernel) rfl (by rw [hR]; exact ⟨Nat.le_of_ble_eq_true rfl, Nat.le_of_ble_eq_true rfl⟩) (by rw [hR]; exact ⟨Nat.le_of_ble_eq_true rfl, Nat.le_of_ble_eq_true rfl⟩) (Nat.le_of_ble_eq_true rfl) dL_adds_252 (fun v252 S252 h252 => ?_) (fun E252 S252 h252 => ?_)
      · obtain ⟨j252, hj252, rfl, q252⟩ := h252
        subst q252
        refine z_aload_n C rfl dL_adds_255 ?_
        refine z_iload_n C rfl dL_adds_256 ?_
        refine z_iconst 2 (by decide) C dL_adds_257 ?_
        refine z_iadd C dL_adds_258 ?_
        refine z_int (show nI i + 2 = nI (i + 2) from nI_add i 2) ?_
        refine z_iload C rfl dL_adds_259 ?_
        refine z_callL 3 [zr (some sc.1), zi (nI (i + 2)), zi (nI (R9))] C Nc Sc (L_pick hl0 hN (i + 2) (by omega) (R9) (by omega) (by omega)) rfl (zgoodS LWl_good wq207 wq208 wq4 wq209) rfl rfl rfl (by decide +kernel) rfl (by rw [hR]; exact ⟨Nat.le_of_ble_eq_true rfl, Nat.le_of_ble_eq_true rfl⟩) (by rw [hR]; exact ⟨Nat.le_of_ble_eq_true rfl, Nat.le_of_ble_eq_true rfl⟩) (Nat.le_of_ble_eq_true rfl) dL_adds_261 (fun v261 S261 h261 => ?_) (fun E261 S261 h261 => ?_)
        · obtain ⟨j261, hj261, rfl, q261⟩ := h261
          subst q261
          refine z_callL 5 [zr (some x), zr (some m), zi 6, zi (nI j252), zi (nI j261)] C Nc Sc (L_rule hl0 ⟨f, hS, hM, hV⟩ 6 (nI j252) (nI j261) 17 (by decide) (DD_17 hl0 hS.1 j252 j261 0 (by omega) (by omega))) rfl (zgoodS LWl_good wq210 wq211 wq4 wq212) rfl rfl rfl (by decide +kernel) rfl (by rw [hR]; exact ⟨Nat.le_of_ble_eq_true rfl, Nat.le_of_ble_eq_true rfl⟩) (by rw [hR]; exact ⟨Nat.le_of_ble_eq_true rfl, Nat.le_of_ble_eq_true rfl⟩) (Nat.le_of_ble_eq_true rfl) dL_adds_264 (fun v264 S264 h264 => ?_) (fun E264 S264 h264 => ?_)
          · obtain ⟨z, D1, rfl, hz, hX1⟩ := h264
            refine z_bipush 40 (by decide) C dL_adds_267 ?_
            refine z_icmp_ge 276 C dL_adds_269 (by decide) (fun c269 => absurd hz (Int32.not_lt.mpr c269)) (fun c269 => ?_)
            refine z_iconst 1 (by decide) C dL_adds_272 ?_
            refine z_goto 277 C dL_adds_273 (by decide) ?_
            refine z_zreturn C F (Nat.le_of_ble_eq_true rfl) (Nat.le_of_ble_eq_true rfl) (by decide) dL_adds_277 ?_
            exact ⟨_, rfl, hX1⟩
          · exact h264.elim
        · exact h261.elim
      · exact h252.elim
    · refine z_tableIn 278 C dL_adds_16 (by decide) (by decide) rfl (by decide) ?_
      refine z_aload_n C rfl dL_adds_278 ?_
      refine z_aload_n C rfl dL_adds_279 ?_
      refine z_bipush 7 (by decide) C dL_adds_280 ?_
      refine z_aload_n C rfl dL_adds_282 ?_
      refine z_iload_n C rfl dL_adds_283 ?_
      refine z_iconst 1 (by decide) C dL_adds_284 ?_
      refine z_iadd C dL_adds_285 ?_
      refine z_int (show nI i + 1 = nI (i + 1) from nI_add i 1) ?_
      refine z_iload C rfl dL_adds_286 ?_
      refine z_callL 3 [zr (some sc.1), zi (nI (i + 1)), zi (nI (R9))] C Nc Sc (L_pick hl0 hN (i + 1) (by omega) (R9) (by omega) (by omega)) rfl (zgoodS LWl_good wq207 wq208 wq4 wq209) rfl rfl rfl (by decide +kernel) rfl (by rw [hR]; exact ⟨Nat.le_of_ble_eq_true rfl, Nat.le_of_ble_eq_true rfl⟩) (by rw [hR]; exact ⟨Nat.le_of_ble_eq_true rfl, Nat.le_of_ble_eq_true rfl⟩) (Nat.le_of_ble_eq_true rfl) dL_adds_288 (fun v288 S288 h288 => ?_) (fun E288 S288 h288 => ?_)
      · obtain ⟨j288, hj288, rfl, q288⟩ := h288
        subst q288
        refine z_aload_n C rfl dL_adds_291 ?_
        refine z_iload_n C rfl dL_adds_292 ?_
        refine z_iconst 2 (by decide) C dL_adds_293 ?_
        refine z_iadd C dL_adds_294 ?_
        refine z_int (show nI i + 2 = nI (i + 2) from nI_add i 2) ?_
        refine z_iload C rfl dL_adds_295 ?_
        refine z_callL 3 [zr (some sc.1), zi (nI (i + 2)), zi (nI (R9))] C Nc Sc (L_pick hl0 hN (i + 2) (by omega) (R9) (by omega) (by omega)) rfl (zgoodS LWl_good wq207 wq208 wq4 wq209) rfl rfl rfl (by decide +kernel) rfl (by rw [hR]; exact ⟨Nat.le_of_ble_eq_true rfl, Nat.le_of_ble_eq_true rfl⟩) (by rw [hR]; exact ⟨Nat.le_of_ble_eq_true rfl, Nat.le_of_ble_eq_true rfl⟩) (Nat.le_of_ble_eq_true rfl) dL_adds_297 (fun v297 S297 h297 => ?_) (fun E297 S297 h297 => ?_)
        · obtain ⟨j297, hj297, rfl, q297⟩ := h297
          subst q297
          refine z_callL 5 [zr (some x), zr (some m), zi 7, zi (nI j288), zi (nI j297)] C Nc Sc (L_rule hl0 ⟨f, hS, hM, hV⟩ 7 (nI j288) (nI j297) 18 (by decide) (DD_18 hl0 hS.1 j288 j297 0 (by omega) (by omega))) rfl (zgoodS LWl_good wq210 wq211 wq4 wq212) rfl rfl rfl (by decide +kernel) rfl (by rw [hR]; exact ⟨Nat.le_of_ble_eq_true rfl, Nat.le_of_ble_eq_true rfl⟩) (by rw [hR]; exact ⟨Nat.le_of_ble_eq_true rfl, Nat.le_of_ble_eq_true rfl⟩) (Nat.le_of_ble_eq_true rfl) dL_adds_300 (fun v300 S300 h300 => ?_) (fun E300 S300 h300 => ?_)
          · obtain ⟨z, D1, rfl, hz, hX1⟩ := h300
            refine z_bipush 40 (by decide) C dL_adds_303 ?_
            refine z_icmp_ge 312 C dL_adds_305 (by decide) (fun c305 => absurd hz (Int32.not_lt.mpr c305)) (fun c305 => ?_)
            refine z_iconst 1 (by decide) C dL_adds_308 ?_
            refine z_goto 313 C dL_adds_309 (by decide) ?_
            refine z_zreturn C F (Nat.le_of_ble_eq_true rfl) (Nat.le_of_ble_eq_true rfl) (by decide) dL_adds_313 ?_
            exact ⟨_, rfl, hX1⟩
          · exact h300.elim
        · exact h297.elim
      · exact h288.elim
    · refine z_tableOut 314 C dL_adds_16 (by decide) (by decide) ?_
      refine z_aload_n C rfl dL_adds_314 ?_
      refine z_aload_n C rfl dL_adds_315 ?_
      refine z_bipush 8 (by decide) C dL_adds_316 ?_
      refine z_aload_n C rfl dL_adds_318 ?_
      refine z_iload_n C rfl dL_adds_319 ?_
      refine z_iconst 1 (by decide) C dL_adds_320 ?_
      refine z_iadd C dL_adds_321 ?_
      refine z_int (show nI i + 1 = nI (i + 1) from nI_add i 1) ?_
      refine z_iload C rfl dL_adds_322 ?_
      refine z_callL 3 [zr (some sc.1), zi (nI (i + 1)), zi (nI (R9))] C Nc Sc (L_pick hl0 hN (i + 1) (by omega) (R9) (by omega) (by omega)) rfl (zgoodS LWl_good wq207 wq208 wq4 wq209) rfl rfl rfl (by decide +kernel) rfl (by rw [hR]; exact ⟨Nat.le_of_ble_eq_true rfl, Nat.le_of_ble_eq_true rfl⟩) (by rw [hR]; exact ⟨Nat.le_of_ble_eq_true rfl, Nat.le_of_ble_eq_true rfl⟩) (Nat.le_of_ble_eq_true rfl) dL_adds_324 (fun v324 S324 h324 => ?_) (fun E324 S324 h324 => ?_)
      · obtain ⟨j324, hj324, rfl, q324⟩ := h324
        subst q324
        refine z_iconst 0 (by decide) C dL_adds_327 ?_
        refine z_callL 5 [zr (some x), zr (some m), zi 8, zi (nI j324), zi 0] C Nc Sc (L_rule hl0 ⟨f, hS, hM, hV⟩ 8 (nI j324) 0 19 (by decide) (DD_19 hl0 hS.1 j324 0 0 (by omega))) rfl (zgoodS LWl_good wq210 wq211 wq4 wq212) rfl rfl rfl (by decide +kernel) rfl (by rw [hR]; exact ⟨Nat.le_of_ble_eq_true rfl, Nat.le_of_ble_eq_true rfl⟩) (by rw [hR]; exact ⟨Nat.le_of_ble_eq_true rfl, Nat.le_of_ble_eq_true rfl⟩) (Nat.le_of_ble_eq_true rfl) dL_adds_328 (fun v328 S328 h328 => ?_) (fun E328 S328 h328 => ?_)
        · obtain ⟨z, D1, rfl, hz, hX1⟩ := h328
          refine z_bipush 40 (by decide) C dL_adds_331 ?_
          refine z_icmp_ge 340 C dL_adds_333 (by decide) (fun c333 => absurd hz (Int32.not_lt.mpr c333)) (fun c333 => ?_)
          refine z_iconst 1 (by decide) C dL_adds_336 ?_
          refine z_goto 341 C dL_adds_337 (by decide) ?_
          refine z_zreturn C F (Nat.le_of_ble_eq_true rfl) (Nat.le_of_ble_eq_true rfl) (by decide) dL_adds_341 ?_
          exact ⟨_, rfl, hX1⟩
        · exact h328.elim
      · exact h324.elim
    · refine z_tableOut 314 C dL_adds_16 (by decide) (by decide) ?_
      refine z_aload_n C rfl dL_adds_314 ?_
      refine z_aload_n C rfl dL_adds_315 ?_
      refine z_bipush 8 (by decide) C dL_adds_316 ?_
      refine z_aload_n C rfl dL_adds_318 ?_
      refine z_iload_n C rfl dL_adds_319 ?_
      refine z_iconst 1 (by decide) C dL_adds_320 ?_
      refine z_iadd C dL_adds_321 ?_
      refine z_int (show nI i + 1 = nI (i + 1) from nI_add i 1) ?_
      refine z_iload C rfl dL_adds_322 ?_
      refine z_callL 3 [zr (some sc.1), zi (nI (i + 1)), zi (nI (R9))] C Nc Sc (L_pick hl0 hN (i + 1) (by omega) (R9) (by omega) (by omega)) rfl (zgoodS LWl_good wq207 wq208 wq4 wq209) rfl rfl rfl (by decide +kernel) rfl (by rw [hR]; exact ⟨Nat.le_of_ble_eq_true rfl, Nat.le_of_ble_eq_true rfl⟩) (by rw [hR]; exact ⟨Nat.le_of_ble_eq_true rfl, Nat.le_of_ble_eq_true rfl⟩) (Nat.le_of_ble_eq_true rfl) dL_adds_324 (fun v324 S324 h324 => ?_) (fun E324 S324 h324 => ?_)
      · obtain ⟨j324, hj324, rfl, q324⟩ := h324
        subst q324
        refine z_iconst 0 (by decide) C dL_adds_327 ?_
        refine z_callL 5 [zr (some x), zr (some m), zi 8, zi (nI j324), zi 0] C Nc Sc (L_rule hl0 ⟨f, hS, hM, hV⟩ 8 (nI j324) 0 19 (by decide) (DD_19 hl0 hS.1 j324 0 0 (by omega))) rfl (zgoodS LWl_good wq210 wq211 wq4 wq212) rfl rfl rfl (by decide +kernel) rfl (by rw [hR]; exact ⟨Nat.le_of_ble_eq_true rfl, Nat.le_of_ble_eq_true rfl⟩) (by rw [hR]; exact ⟨Nat.le_of_ble_eq_true rfl, Nat.le_of_ble_eq_true rfl⟩) (Nat.le_of_ble_eq_true rfl) dL_adds_328 (fun v328 S328 h328 => ?_) (fun E328 S328 h328 => ?_)
        · obtain ⟨z, D1, rfl, hz, hX1⟩ := h328
          refine z_bipush 40 (by decide) C dL_adds_331 ?_
          refine z_icmp_ge 340 C dL_adds_333 (by decide) (fun c333 => absurd hz (Int32.not_lt.mpr c333)) (fun c333 => ?_)
          refine z_iconst 1 (by decide) C dL_adds_336 ?_
          refine z_goto 341 C dL_adds_337 (by decide) ?_
          refine z_zreturn C F (Nat.le_of_ble_eq_true rfl) (Nat.le_of_ble_eq_true rfl) (by decide) dL_adds_341 ?_
          exact ⟨_, rfl, hX1⟩
        · exact h328.elim
      · exact h324.elim
  · exact h13.elim
