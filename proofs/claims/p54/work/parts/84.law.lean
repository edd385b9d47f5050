/-! the law, from its first instruction to its last but one -/
theorem head0 {S S1 Sc : ZM} {a m : Nat} {L : Nat → Nat} (hS1 : S1 = mrg (fun b => zkn (mK S b)) (nO S a 6) Sc) (hof1 : ∀ b : Nat, zkn (mK Sc b) = true → zkn (mK S b) = false) (hL : L 0 = a) (hz : zro Sc L) (f1 : zkn (mK S1 m) = false) : mS D0 a m (fun b => decide (b = m)) (fun _ => 0) (nA S1 m 10 170) ∧ rM D0 (fun _ => 0) ∧ LV 0 D0 := by
  have C1 : ∀ b : Nat, zkn (mK Sc b) = true → atE Sc S1 b := fun b hb => by rw [hS1]; exact mrg_out (hof1 b hb)
  have k1 : ∀ b : Nat, zkn (mK Sc b) = true → b ≠ m := fun b hb => zkn_ne f1 ((C1 b hb).kn hb)
  have hs : lS D0 a Sc := ⟨J0, [], fun _ => 0, L, fun _ => 0, hL, cR.zero hz (fun _ => 0)⟩
  refine ⟨⟨⟨hs.ext (fun b hb => ?_), fun b hb => ?_⟩, ⟨decide_eq_true rfl, up1_self, up1_self⟩, up1_self⟩, ⟨rfl, rfl, rfl, ⟨0, by decide, rfl⟩, fun r hr => absurd hr (Nat.not_lt_zero r), fun i hi => absurd hi (Nat.not_lt_zero i)⟩, ⟨0, rfl, Nat.le_refl 0⟩, fun t => by show (0 : Int32) ≤ 0; decide, fun r hr => absurd hr (Nat.not_lt_zero r), fun i hi => absurd hi (Nat.not_lt_zero i)⟩
  · have hne := k1 b hb
    obtain ⟨a1, a2, a3, a4, a5, a6, a7⟩ := ((C1 b hb).trans (atE_nA hne)).trans (rsOff_out (F := fun b => decide (b = m)) (decide_eq_false hne))
    exact ⟨a1, a2, a3, a4, a5⟩
  · obtain rfl := of_decide_eq_true hb
    rw [show mK (nA S1 b 10 170) b = 10 from up1_self]; rfl
set_option maxRecDepth 100000 in
set_option maxHeartbeats 4000000 in
theorem law_walk {X : zX} (hl0 : (xl X).stackTraces = false) {sc : zSQ} {S : ZM} (C : zC X RL cL_law 5 LWl) (Nc : zNc (xs X)) (Sc : zSc sc (xA X) (xs X)) (hR : xR X = room_1) (hN : sc.2.1 < 2 ^ 31) (hE : ∀ (k n : Nat) (S : ZM) (ls : List (Option ZV)), k ≤ room_1.cells → n ≤ room_1.slots → zW X 5 k n S 276 ls [zi 1]) : zW X 5 0 0 S 0 [some (zr (some sc.1)), none, none, none, none] [] := by
  have hRc : 200000 ≤ (xR X).cells := by rw [hR]; exact Nat.le_of_ble_eq_true rfl
  have hRs : 1200000 ≤ (xR X).slots := by rw [hR]; exact Nat.le_of_ble_eq_true rfl
  refine z_new4 C (fun w h => ul_c (uc_wsX40 w h)) wq251 wq252 (ul_c wc58) (by rw [hR]; exact Nat.le_of_ble_eq_true rfl) (by rw [hR]; exact Nat.le_of_ble_eq_true rfl) dL_law_0 (fun a f0 => ?_)
  refine z_dup rfl C dL_law_3 ?_
  refine z_callI 0 [] C ((C_X4_init hl0 (ini_off f0)).off (fun b => zkn (mK S b))) rfl (zgoodI3 LWl_good (fun w h => ul_c h) wq255) rfl rfl rfl (ul_c wc58) wq253 wq254 rfl (by decide +kernel) rfl (by rw [hR]; exact ⟨Nat.le_of_ble_eq_true rfl, Nat.le_of_ble_eq_true rfl⟩) (by rw [hR]; exact ⟨Nat.le_of_ble_eq_true rfl, Nat.le_of_ble_eq_true rfl⟩) (Nat.le_of_ble_eq_true rfl) dL_law_4 (fun v1 S1 h1 => ?_) (fun E1 S1 h1 => ?_)
  · obtain ⟨Sc1, ⟨rfl, L, hL0, hz⟩, hS1, hof1⟩ := h1
    have hof1 := hof1 (fun b hb => by rw [show mK (nO S a 6) b = mK S b from if_neg (fun e => by subst e; rw [f0] at hb; cases hb)]; exact hb)
    refine z_astore_n [_, _, _, _, _] C (by decide) rfl dL_law_7 ?_
    refine z_sipush 170 (by decide) C dL_law_8 ?_
    refine z_newarr_int 170 C (ul_c wc19) (by decide) rfl (by decide) (by rw [hR]; exact Nat.le_of_ble_eq_true rfl) (by rw [hR]; exact Nat.le_of_ble_eq_true rfl) dL_law_11 (fun a11 f11 => ?_)
    refine z_astore_n [_, _, _, _, _] C (by decide) rfl dL_law_13 ?_
    obtain ⟨hS, hM, hV⟩ := head0 hS1 hof1 hL0 hz f11
    have L4 : ∀ (jc c : Nat) (D : ZD) (S1 : ZM), c + jc = 40 → lX (20 * c) D a a11 (fun b => decide (b = a11)) S1 → zW X 5 (30544 + 5 * c + 30417 * (c / 10)) (183925 + 42 * c + 182646 * (c / 10)) S1 208 [some (zr (some sc.1)), some (zr (some a)), some (zr (some a11)), some (zi 1), some (zi (nI c))] [] := by
      intro jc
      induction jc with
      | zero =>
        intro c D S1 hc hX
        obtain rfl : c = 40 := by omega
        refine z_iload C rfl dL_law_208 ?_
        refine z_bipush 40 (by decide) C dL_law_210 ?_
        refine z_icmp_ge 275 C dL_law_212 (by decide) (fun c212 => ?_) (fun c212 => absurd (by decide) c212)
        refine z_iload_n C rfl dL_law_275 ?_
        exact hE _ _ _ _ (Nat.le_of_ble_eq_true rfl) (Nat.le_of_ble_eq_true rfl)
      | succ jc ih =>
        intro c D S1 hc hX
        refine z_iload C rfl dL_law_208 ?_
        refine z_bipush 40 (by decide) C dL_law_210 ?_
        refine z_icmp_ge 275 C dL_law_212 (by decide) (fun c212 => absurd c212 (nI_ge (b := 40) (by omega) (by decide))) (fun c212 => ?_)
        refine z_iload_n C rfl dL_law_215 ?_
        refine z_if_eq 275 C dL_law_216 (by decide) (fun c216 => absurd c216 (by decide)) (fun c216 => ?_)
        refine z_aload_n C rfl dL_law_219 ?_
        refine z_aload_n C rfl dL_law_220 ?_
        refine z_aload_n C rfl dL_law_221 ?_
        refine z_sipush 200 (by decide) C dL_law_222 ?_
        refine z_bipush 12 (by decide) C dL_law_225 ?_
        refine z_iload C rfl dL_law_227 ?_
        refine z_imul C dL_law_229 ?_
        refine z_int (show (12 : Int32) * nI c = nI (12 * c) from pk_mul 12 c) ?_
        refine z_iadd C dL_law_230 ?_
        refine z_int (show (200 : Int32) + nI (12 * c) = nI (200 + 12 * c) from nI_add 200 (12 * c)) ?_
        refine z_callL 4 [zr (some a), zr (some a11), zr (some sc.1), zi (nI (200 + 12 * c))] C Nc Sc (L_acts hl0 hN hX (by omega) (200 + 12 * c) (by omega)) rfl (zgoodS3 LWl_good (fun w h => h) wq262 wq263 wq4 wq264) rfl rfl rfl (by decide +kernel) rfl (by rw [hR]; exact ⟨Nat.le_of_ble_eq_true rfl, Nat.le_of_ble_eq_true rfl⟩) ⟨by omega, by omega⟩ (Nat.le_of_ble_eq_true rfl) dL_law_231 (fun v231 S231 h231 => ?_) (fun E231 S231 h231 => ?_)
        · obtain ⟨D1, rfl, hX⟩ := h231
          refine z_if_eq 267 C dL_law_234 (by decide) (fun c234 => absurd c234 (by decide)) (fun c234 => ?_)
          refine z_iload C rfl dL_law_237 ?_
          refine z_bipush 10 (by decide) C dL_law_239 ?_
          refine z_irem (by decide) C dL_law_241 ?_
          refine z_int (pk_rem (a := c) (d := 10) (by omega) (by decide) (by decide)) ?_
          refine z_bipush 9 (by decide) C dL_law_242 ?_
          refine z_icmp_ne 263 C dL_law_244 (by decide) (fun c244 => ?_) (fun c244 => ?_)
          · refine z_iconst 1 (by decide) C dL_law_263 ?_
            refine z_goto 268 C dL_law_264 (by decide) ?_
            refine z_istore_n [_, _, _, _, _] C (by decide) rfl dL_law_268 ?_
            refine z_inc (1) [_, _, _, _, _] C rfl (by decide) (by decide) rfl dL_law_269 ?_
            refine z_goto 208 C dL_law_272 (by decide) ?_
            refine zW.widen (k' := 30544 + 5 * (c + 1) + 30417 * ((c + 1) / 10)) (n' := 183925 + 42 * (c + 1) + 182646 * ((c + 1) / 10)) (by omega) (by omega) ?_
            have z := ih (c + 1) D1 _ (by omega) (hX.up (by omega))
            rw [nI_succ c] at z
            exact z
          · have h9 : c % 10 = 9 := (nI_eq (b := 9) (by omega) (by decide)).1 c244
            obtain ⟨f, hS, hM, hV⟩ := hX
            refine z_aload_n C rfl dL_law_247 ?_
            refine z_aload_n C rfl dL_law_248 ?_
            refine z_callL 2 [zr (some a), zr (some a11)] C Nc Sc (L_areRules hl0 hS hM hV) rfl (zgoodS3 LWl_good (fun w h => h) wq256 wq257 wq4 wq258) rfl rfl rfl (by decide +kernel) rfl (by rw [hR]; exact ⟨Nat.le_of_ble_eq_true rfl, Nat.le_of_ble_eq_true rfl⟩) ⟨by omega, by omega⟩ (Nat.le_of_ble_eq_true rfl) dL_law_249 (fun v249 S249 h249 => ?_) (fun E249 S249 h249 => ?_)
            · obtain ⟨rfl, hS⟩ := h249
              refine z_if_eq 267 C dL_law_252 (by decide) (fun c252 => absurd c252 (by decide)) (fun c252 => ?_)
              refine z_aload_n C rfl dL_law_255 ?_
              refine z_aload_n C rfl dL_law_256 ?_
              refine z_callL 2 [zr (some a), zr (some a11)] C Nc Sc (L_areLists hl0 hS hM hV) rfl (zgoodS3 LWl_good (fun w h => h) wq259 wq260 wq4 wq261) rfl rfl rfl (by decide +kernel) rfl (by rw [hR]; exact ⟨Nat.le_of_ble_eq_true rfl, Nat.le_of_ble_eq_true rfl⟩) ⟨by omega, by omega⟩ (Nat.le_of_ble_eq_true rfl) dL_law_257 (fun v257 S257 h257 => ?_) (fun E257 S257 h257 => ?_)
              · obtain ⟨rfl, hS⟩ := h257
                refine z_if_eq 267 C dL_law_260 (by decide) (fun c260 => absurd c260 (by decide)) (fun c260 => ?_)
                refine z_iconst 1 (by decide) C dL_law_263 ?_
                refine z_goto 268 C dL_law_264 (by decide) ?_
                refine z_istore_n [_, _, _, _, _] C (by decide) rfl dL_law_268 ?_
                refine z_inc (1) [_, _, _, _, _] C rfl (by decide) (by decide) rfl dL_law_269 ?_
                refine z_goto 208 C dL_law_272 (by decide) ?_
                refine zW.widen (k' := 30544 + 5 * (c + 1) + 30417 * ((c + 1) / 10)) (n' := 183925 + 42 * (c + 1) + 182646 * ((c + 1) / 10)) (by omega) (by omega) ?_
                have z := ih (c + 1) D1 _ (by omega) (lX.up ⟨f, hS, hM, hV⟩ (by omega))
                rw [nI_succ c] at z
                exact z
              · exact h257.elim
            · exact h249.elim
        · exact h231.elim
    have L3 : ∀ (jc c : Nat) (D : ZD) (S1 : ZM), c + jc = 9 → lX 0 D a a11 (fun b => decide (b = a11)) S1 → zW X 5 (30499 + 5 * c) (183547 + 42 * c) S1 167 [some (zr (some sc.1)), some (zr (some a)), some (zr (some a11)), some (zi 1), some (zi (nI c))] [] := by
      intro jc
      induction jc with
      | zero =>
        intro c D S1 hc hX
        refine z_iload C rfl dL_law_167 ?_
        refine z_iconst 4 (by decide) C dL_law_169 ?_
        refine z_aload_n C rfl dL_law_170 ?_
        refine z_iconst 2 (by decide) C dL_law_171 ?_
        refine z_bipush 6 (by decide) C dL_law_172 ?_
        refine z_callL 3 [zr (some sc.1), zi (nI 2), zi (nI 6)] C Nc Sc (L_pick hl0 hN (2) (by omega) (6) (by decide) (by omega)) rfl (zgoodS3 LWl_good (fun w h => h) wq207 wq208 wq4 wq209) rfl rfl rfl (by decide +kernel) rfl (by rw [hR]; exact ⟨Nat.le_of_ble_eq_true rfl, Nat.le_of_ble_eq_true rfl⟩) ⟨by omega, by omega⟩ (Nat.le_of_ble_eq_true rfl) dL_law_174 (fun v174 S174 h174 => ?_) (fun E174 S174 h174 => ?_)
        · obtain ⟨j174, hj174, rfl, q174⟩ := h174
          subst q174
          refine z_iadd C dL_law_177 ?_
          refine z_int (show (4 : Int32) + nI j174 = nI (4 + j174) from nI_add 4 j174) ?_
          refine z_icmp_ge 205 C dL_law_178 (by decide) (fun c178 => ?_) (fun c178 => absurd (nI_le (by omega) (by omega)) c178)
          refine z_iconst 0 (by decide) C dL_law_205 ?_
          refine z_istore [_, _, _, _, _] C (by decide) rfl dL_law_206 ?_
          refine zW.widen (k' := 30544 + 5 * 0 + 30417 * (0 / 10)) (n' := 183925 + 42 * 0 + 182646 * (0 / 10)) (by omega) (by omega) ?_
          exact L4 40 0 _ _ (by omega) (hX.up (Nat.zero_le _))
        · exact h174.elim
      | succ jc ih =>
        intro c D S1 hc hX
        refine z_iload C rfl dL_law_167 ?_
        refine z_iconst 4 (by decide) C dL_law_169 ?_
        refine z_aload_n C rfl dL_law_170 ?_
        refine z_iconst 2 (by decide) C dL_law_171 ?_
        refine z_bipush 6 (by decide) C dL_law_172 ?_
        refine z_callL 3 [zr (some sc.1), zi (nI 2), zi (nI 6)] C Nc Sc (L_pick hl0 hN (2) (by omega) (6) (by decide) (by omega)) rfl (zgoodS3 LWl_good (fun w h => h) wq207 wq208 wq4 wq209) rfl rfl rfl (by decide +kernel) rfl (by rw [hR]; exact ⟨Nat.le_of_ble_eq_true rfl, Nat.le_of_ble_eq_true rfl⟩) ⟨by omega, by omega⟩ (Nat.le_of_ble_eq_true rfl) dL_law_174 (fun v174 S174 h174 => ?_) (fun E174 S174 h174 => ?_)
        · obtain ⟨j174, hj174, rfl, q174⟩ := h174
          subst q174
          refine z_iadd C dL_law_177 ?_
          refine z_int (show (4 : Int32) + nI j174 = nI (4 + j174) from nI_add 4 j174) ?_
          refine z_icmp_ge 205 C dL_law_178 (by decide) (fun c178 => ?_) (fun c178 => ?_)
          · refine z_iconst 0 (by decide) C dL_law_205 ?_
            refine z_istore [_, _, _, _, _] C (by decide) rfl dL_law_206 ?_
            refine zW.widen (k' := 30544 + 5 * 0 + 30417 * (0 / 10)) (n' := 183925 + 42 * 0 + 182646 * (0 / 10)) (by omega) (by omega) ?_
            exact L4 40 0 _ _ (by omega) (hX.up (Nat.zero_le _))
          · refine z_iload_n C rfl dL_law_181 ?_
            refine z_if_eq 205 C dL_law_182 (by decide) (fun c182 => absurd c182 (by decide)) (fun c182 => ?_)
            refine z_aload_n C rfl dL_law_185 ?_
            refine z_aload_n C rfl dL_law_186 ?_
            refine z_aload_n C rfl dL_law_187 ?_
            refine z_bipush 50 (by decide) C dL_law_188 ?_
            refine z_iconst 5 (by decide) C dL_law_190 ?_
            refine z_iload C rfl dL_law_191 ?_
            refine z_imul C dL_law_193 ?_
            refine z_int (show (5 : Int32) * nI c = nI (5 * c) from pk_mul 5 c) ?_
            refine z_iadd C dL_law_194 ?_
            refine z_int (show (50 : Int32) + nI (5 * c) = nI (50 + 5 * c) from nI_add 50 (5 * c)) ?_
            refine z_callL 4 [zr (some a), zr (some a11), zr (some sc.1), zi (nI (50 + 5 * c))] C Nc Sc (L_adds hl0 hN hX (50 + 5 * c) (by omega)) rfl (zgoodS3 LWl_good (fun w h => h) wq216 wq217 wq4 wq218) rfl rfl rfl (by decide +kernel) rfl (by rw [hR]; exact ⟨Nat.le_of_ble_eq_true rfl, Nat.le_of_ble_eq_true rfl⟩) ⟨by omega, by omega⟩ (Nat.le_of_ble_eq_true rfl) dL_law_195 (fun v195 S195 h195 => ?_) (fun E195 S195 h195 => ?_)
            · obtain ⟨D1, rfl, hX⟩ := h195
              refine z_istore_n [_, _, _, _, _] C (by decide) rfl dL_law_198 ?_
              refine z_inc (1) [_, _, _, _, _] C rfl (by decide) (by decide) rfl dL_law_199 ?_
              refine z_goto 167 C dL_law_202 (by decide) ?_
              refine zW.widen (k' := 30499 + 5 * (c + 1)) (n' := 183547 + 42 * (c + 1)) (by omega) (by omega) ?_
              have z := ih (c + 1) D1 _ (by omega) hX
              rw [nI_succ c] at z
              exact z
            · exact h195.elim
        · exact h174.elim
    have L2 : ∀ (jc c : Nat) (D : ZD) (S1 : ZM), c + jc = 8 → lX 0 D a a11 (fun b => decide (b = a11)) S1 → dT D = c → zW X 5 (30459 + 5 * c) (183211 + 42 * c) S1 90 [some (zr (some sc.1)), some (zr (some a)), some (zr (some a11)), some (zi 1), some (zi (nI c))] [] := by
      intro jc
      induction jc with
      | zero =>
        intro c D S1 hc hX hcT
        refine z_iload C rfl dL_law_90 ?_
        refine z_iconst 2 (by decide) C dL_law_92 ?_
        refine z_aload_n C rfl dL_law_93 ?_
        refine z_iconst 1 (by decide) C dL_law_94 ?_
        refine z_bipush 7 (by decide) C dL_law_95 ?_
        refine z_callL 3 [zr (some sc.1), zi (nI 1), zi (nI 7)] C Nc Sc (L_pick hl0 hN (1) (by omega) (7) (by decide) (by omega)) rfl (zgoodS3 LWl_good (fun w h => h) wq207 wq208 wq4 wq209) rfl rfl rfl (by decide +kernel) rfl (by rw [hR]; exact ⟨Nat.le_of_ble_eq_true rfl, Nat.le_of_ble_eq_true rfl⟩) ⟨by omega, by omega⟩ (Nat.le_of_ble_eq_true rfl) dL_law_97 (fun v97 S97 h97 => ?_) (fun E97 S97 h97 => ?_)
        · obtain ⟨j97, hj97, rfl, q97⟩ := h97
          subst q97
          refine z_iadd C dL_law_100 ?_
          refine z_int (show (2 : Int32) + nI j97 = nI (2 + j97) from nI_add 2 j97) ?_
          refine z_icmp_ge 164 C dL_law_101 (by decide) (fun c101 => ?_) (fun c101 => absurd (nI_le (by omega) (by omega)) c101)
          refine z_iconst 0 (by decide) C dL_law_164 ?_
          refine z_istore [_, _, _, _, _] C (by decide) rfl dL_law_165 ?_
          refine zW.widen (k' := 30499 + 5 * 0) (n' := 183547 + 42 * 0) (by omega) (by omega) ?_
          exact L3 9 0 _ _ (by omega) hX
        · exact h97.elim
      | succ jc ih =>
        intro c D S1 hc hX hcT
        refine z_iload C rfl dL_law_90 ?_
        refine z_iconst 2 (by decide) C dL_law_92 ?_
        refine z_aload_n C rfl dL_law_93 ?_
        refine z_iconst 1 (by decide) C dL_law_94 ?_
        refine z_bipush 7 (by decide) C dL_law_95 ?_
        refine z_callL 3 [zr (some sc.1), zi (nI 1), zi (nI 7)] C Nc Sc (L_pick hl0 hN (1) (by omega) (7) (by decide) (by omega)) rfl (zgoodS3 LWl_good (fun w h => h) wq207 wq208 wq4 wq209) rfl rfl rfl (by decide +kernel) rfl (by rw [hR]; exact ⟨Nat.le_of_ble_eq_true rfl, Nat.le_of_ble_eq_true rfl⟩) ⟨by omega, by omega⟩ (Nat.le_of_ble_eq_true rfl) dL_law_97 (fun v97 S97 h97 => ?_) (fun E97 S97 h97 => ?_)
        · obtain ⟨j97, hj97, rfl, q97⟩ := h97
          subst q97
          refine z_iadd C dL_law_100 ?_
          refine z_int (show (2 : Int32) + nI j97 = nI (2 + j97) from nI_add 2 j97) ?_
          refine z_icmp_ge 164 C dL_law_101 (by decide) (fun c101 => ?_) (fun c101 => ?_)
          · refine z_iconst 0 (by decide) C dL_law_164 ?_
            refine z_istore [_, _, _, _, _] C (by decide) rfl dL_law_165 ?_
            refine zW.widen (k' := 30499 + 5 * 0) (n' := 183547 + 42 * 0) (by omega) (by omega) ?_
            exact L3 9 0 _ _ (by omega) hX
          · obtain ⟨f, hS, hM, hV⟩ := hX
            have ho := hS.1.ok
            have hm0 := hM.1
            refine z_iload_n C rfl dL_law_104 ?_
            refine z_if_eq 149 C dL_law_105 (by decide) (fun c105 => absurd c105 (by decide)) (fun c105 => ?_)
            refine z_aload_n C rfl dL_law_108 ?_
            refine z_iconst 0 (by decide) C dL_law_109 ?_
            refine z_iconst 1 (by decide) C dL_law_110 ?_
            refine z_aload_n C rfl dL_law_111 ?_
            refine z_bipush 10 (by decide) C dL_law_112 ?_
            refine z_iload C rfl dL_law_114 ?_
            refine z_iadd C dL_law_116 ?_
            refine z_int (show (10 : Int32) + nI c = nI (10 + c) from nI_add 10 c) ?_
            refine z_sipush 400 (by decide) C dL_law_117 ?_
            refine z_callL 3 [zr (some sc.1), zi (nI (10 + c)), zi (nI (400))] C Nc Sc (L_pick hl0 hN (10 + c) (by omega) (400) (by decide) (by omega)) rfl (zgoodS3 LWl_good (fun w h => h) wq207 wq208 wq4 wq209) rfl rfl rfl (by decide +kernel) rfl (by rw [hR]; exact ⟨Nat.le_of_ble_eq_true rfl, Nat.le_of_ble_eq_true rfl⟩) ⟨by omega, by omega⟩ (Nat.le_of_ble_eq_true rfl) dL_law_120 (fun v120 S120 h120 => ?_) (fun E120 S120 h120 => ?_)
            · obtain ⟨j120, hj120, rfl, q120⟩ := h120
              subst q120
              refine z_iadd C dL_law_123 ?_
              refine z_int (show (1 : Int32) + nI j120 = nI (1 + j120) from nI_add 1 j120) ?_
              refine z_aload_n C rfl dL_law_124 ?_
              refine z_bipush 30 (by decide) C dL_law_125 ?_
              refine z_iload C rfl dL_law_127 ?_
              refine z_iadd C dL_law_129 ?_
              refine z_int (show (30 : Int32) + nI c = nI (30 + c) from nI_add 30 c) ?_
              refine z_bipush 6 (by decide) C dL_law_130 ?_
              refine z_callL 3 [zr (some sc.1), zi (nI (30 + c)), zi (nI (6))] C Nc Sc (L_pick hl0 hN (30 + c) (by omega) (6) (by decide) (by omega)) rfl (zgoodS3 LWl_good (fun w h => h) wq207 wq208 wq4 wq209) rfl rfl rfl (by decide +kernel) rfl (by rw [hR]; exact ⟨Nat.le_of_ble_eq_true rfl, Nat.le_of_ble_eq_true rfl⟩) ⟨by omega, by omega⟩ (Nat.le_of_ble_eq_true rfl) dL_law_132 (fun v132 S132 h132 => ?_) (fun E132 S132 h132 => ?_)
              · obtain ⟨j132, hj132, rfl, q132⟩ := h132
                subst q132
                refine z_iconst 0 (by decide) C dL_law_135 ?_
                refine z_callLH 5 [zr (some a), zi 0, zi (nI (1 + j120)), zi (nI j132), zi 0] C Nc Sc (DD_0 hl0 hS.1 (1 + j120) j132 0 ⟨by omega, by omega⟩ (by omega)) rfl (zgoodS3 LWl_good (fun w h => h) wq201 wq202 wq4 wq203) rfl rfl rfl (by decide +kernel) rfl (by rw [hR]; exact ⟨Nat.le_of_ble_eq_true rfl, Nat.le_of_ble_eq_true rfl⟩) ⟨by omega, by omega⟩ (Nat.le_of_ble_eq_true rfl) dL_law_136 (fun v136 S136 h136 => ?_) (fun E136 S136 h136 => ?_)
                · obtain ⟨z, D1, rfl, hr, hY, hkp⟩ := h136
                  replace hS := hS.kp hY hkp
                  rcases hr with ⟨ht9, rfl, rfl⟩ | ⟨ht9, -, -⟩
                  rotate_left
                  · exact absurd (show dT D < 24 by omega) ht9
                  refine z_aload_n C rfl dL_law_139 ?_
                  refine z_iconst 0 (by decide) C dL_law_140 ?_
                  refine z_mld C hS (show (0 : Int32) = nI 0 from rfl) (by decide) hm0 dL_law_141 ?_
                  refine z_icmp_ne 149 C dL_law_142 (by decide) (fun c142 => absurd rfl c142) (fun c142 => ?_)
                  refine z_iconst 1 (by decide) C dL_law_145 ?_
                  refine z_goto 150 C dL_law_146 (by decide) ?_
                  refine z_istore_n [_, _, _, _, _] C (by decide) rfl dL_law_150 ?_
                  refine z_aload_n C rfl dL_law_151 ?_
                  refine z_iconst 0 (by decide) C dL_law_152 ?_
                  refine z_dup2 rfl rfl C dL_law_153 ?_
                  refine z_mld C hS (show (0 : Int32) = nI 0 from rfl) (by decide) hm0 dL_law_154 ?_
                  refine z_iconst 1 (by decide) C dL_law_155 ?_
                  refine z_iadd C dL_law_156 ?_
                  refine z_mst C hS (show (0 : Int32) = nI 0 from rfl) (by decide) dL_law_157 ?_
                  intro S157 hS
                  obtain ⟨g1, g2, g3⟩ := see_trk ho ht9 (nI (1 + j120)) (nI j132) hM hV
                  refine z_inc (1) [_, _, _, _, _] C rfl (by decide) (by decide) rfl dL_law_158 ?_
                  refine z_goto 90 C dL_law_161 (by decide) ?_
                  refine zW.widen (k' := 30459 + 5 * (c + 1)) (n' := 183211 + 42 * (c + 1)) (by omega) (by omega) ?_
                  have z := ih (c + 1) _ _ (by omega) ⟨_, hS, g1, g2⟩ (g3.trans (by rw [hcT]))
                  rw [nI_succ c] at z
                  exact z
                · exact h136.elim
              · exact h132.elim
            · exact h120.elim
        · exact h97.elim
    refine z_aload_n C rfl dL_law_14 ?_
    refine z_aload_n C rfl dL_law_15 ?_
    refine z_callL 2 [zr (some a), zr (some a11)] C Nc Sc (L_areRules hl0 hS hM hV) rfl (zgoodS3 LWl_good (fun w h => h) wq256 wq257 wq4 wq258) rfl rfl rfl (by decide +kernel) rfl (by rw [hR]; exact ⟨Nat.le_of_ble_eq_true rfl, Nat.le_of_ble_eq_true rfl⟩) ⟨by omega, by omega⟩ (Nat.le_of_ble_eq_true rfl) dL_law_16 (fun v16 S16 h16 => ?_) (fun E16 S16 h16 => ?_)
    · obtain ⟨rfl, hS⟩ := h16
      refine z_if_eq 34 C dL_law_19 (by decide) (fun c19 => absurd c19 (by decide)) (fun c19 => ?_)
      refine z_aload_n C rfl dL_law_22 ?_
      refine z_aload_n C rfl dL_law_23 ?_
      refine z_callL 2 [zr (some a), zr (some a11)] C Nc Sc (L_areLists hl0 hS hM hV) rfl (zgoodS3 LWl_good (fun w h => h) wq259 wq260 wq4 wq261) rfl rfl rfl (by decide +kernel) rfl (by rw [hR]; exact ⟨Nat.le_of_ble_eq_true rfl, Nat.le_of_ble_eq_true rfl⟩) ⟨by omega, by omega⟩ (Nat.le_of_ble_eq_true rfl) dL_law_24 (fun v24 S24 h24 => ?_) (fun E24 S24 h24 => ?_)
      · obtain ⟨rfl, hS⟩ := h24
        refine z_if_eq 34 C dL_law_27 (by decide) (fun c27 => absurd c27 (by decide)) (fun c27 => ?_)
        refine z_iconst 1 (by decide) C dL_law_30 ?_
        refine z_goto 35 C dL_law_31 (by decide) ?_
        refine z_istore_n [_, _, _, _, _] C (by decide) rfl dL_law_35 ?_
        refine z_aload_n C rfl dL_law_36 ?_
        refine z_iconst 1 (by decide) C dL_law_37 ?_
        refine z_iconst 2 (by decide) C dL_law_38 ?_
        refine z_aload_n C rfl dL_law_39 ?_
        refine z_iconst 0 (by decide) C dL_law_40 ?_
        refine z_iconst 4 (by decide) C dL_law_41 ?_
        refine z_callL 3 [zr (some sc.1), zi (nI 0), zi (nI 4)] C Nc Sc (L_pick hl0 hN (0) (by omega) (4) (by decide) (by omega)) rfl (zgoodS3 LWl_good (fun w h => h) wq207 wq208 wq4 wq209) rfl rfl rfl (by decide +kernel) rfl (by rw [hR]; exact ⟨Nat.le_of_ble_eq_true rfl, Nat.le_of_ble_eq_true rfl⟩) ⟨by omega, by omega⟩ (Nat.le_of_ble_eq_true rfl) dL_law_42 (fun v42 S42 h42 => ?_) (fun E42 S42 h42 => ?_)
        · obtain ⟨j42, hj42, rfl, q42⟩ := h42
          subst q42
          refine z_iadd C dL_law_45 ?_
          refine z_int (show (2 : Int32) + nI j42 = nI (2 + j42) from nI_add 2 j42) ?_
          refine z_mst C hS (show (1 : Int32) = nI 1 from rfl) (by decide) dL_law_46 ?_
          intro S46 hS
          have L1 : ∀ (jc c : Nat) (D : ZD) (f : Nat → Int32) (S1 : ZM), c + jc = 2 + j42 → mS D a a11 (fun b => decide (b = a11)) f S1 → rM D f → LV 0 D → dG D = c → dT D = 0 → f 1 = nI (2 + j42) → zW X 5 (30434 + 5 * c) (183001 + 42 * c) S1 50 [some (zr (some sc.1)), some (zr (some a)), some (zr (some a11)), some (zi 1), some (zi (nI c))] [] := by
            intro jc
            induction jc with
            | zero =>
              intro c D f S1 hc hS hM hV hcG hT0 hf1
              refine z_iload C rfl dL_law_50 ?_
              refine z_aload_n C rfl dL_law_52 ?_
              refine z_iconst 1 (by decide) C dL_law_53 ?_
              refine z_mld C hS (show (1 : Int32) = nI 1 from rfl) (by decide) hf1 dL_law_54 ?_
              refine z_icmp_ge 87 C dL_law_55 (by decide) (fun c55 => ?_) (fun c55 => absurd (nI_le (by omega) (by omega)) c55)
              refine z_iconst 0 (by decide) C dL_law_87 ?_
              refine z_istore [_, _, _, _, _] C (by decide) rfl dL_law_88 ?_
              refine zW.widen (k' := 30459 + 5 * 0) (n' := 183211 + 42 * 0) (by omega) (by omega) ?_
              exact L2 8 0 _ _ (by omega) ⟨f, hS, hM, hV⟩ hT0
            | succ jc ih =>
              intro c D f S1 hc hS hM hV hcG hT0 hf1
              have hS0 := hS.1.ok
              refine z_iload C rfl dL_law_50 ?_
              refine z_aload_n C rfl dL_law_52 ?_
              refine z_iconst 1 (by decide) C dL_law_53 ?_
              refine z_mld C hS (show (1 : Int32) = nI 1 from rfl) (by decide) hf1 dL_law_54 ?_
              refine z_icmp_ge 87 C dL_law_55 (by decide) (fun c55 => absurd c55 (nI_ge (by omega) (by omega))) (fun c55 => ?_)
              refine z_iload_n C rfl dL_law_58 ?_
              refine z_if_eq 79 C dL_law_59 (by decide) (fun c59 => absurd c59 (by decide)) (fun c59 => ?_)
              refine z_aload_n C rfl dL_law_62 ?_
              refine z_iconst 5 (by decide) C dL_law_63 ?_
              refine z_iconst 0 (by decide) C dL_law_64 ?_
              refine z_iconst 0 (by decide) C dL_law_65 ?_
              refine z_iconst 0 (by decide) C dL_law_66 ?_
              refine z_callLH 5 [zr (some a), zi 5, zi 0, zi 0, zi 0] C Nc Sc (DD_5 hl0 hS.1 0 0 0) rfl (zgoodS3 LWl_good (fun w h => h) wq201 wq202 wq4 wq203) rfl rfl rfl (by decide +kernel) rfl (by rw [hR]; exact ⟨Nat.le_of_ble_eq_true rfl, Nat.le_of_ble_eq_true rfl⟩) ⟨by omega, by omega⟩ (Nat.le_of_ble_eq_true rfl) dL_law_67 (fun v67 S67 h67 => ?_) (fun E67 S67 h67 => ?_)
              · obtain ⟨z, D1, rfl, hr, hY, hkp⟩ := h67
                replace hS := hS.kp hY hkp
                rcases hr with ⟨ht9, rfl, rfl⟩ | ⟨ht9, -, -⟩
                rotate_left
                · exact absurd (show dG D < 16 by omega) ht9
                refine z_iload C rfl dL_law_70 ?_
                refine z_icmp_ne 79 C dL_law_72 (by decide) (fun c72 => absurd (congrArg nI hcG) c72) (fun c72 => ?_)
                refine z_iconst 1 (by decide) C dL_law_75 ?_
                refine z_goto 80 C dL_law_76 (by decide) ?_
                refine z_istore_n [_, _, _, _, _] C (by decide) rfl dL_law_80 ?_
                refine z_inc (1) [_, _, _, _, _] C rfl (by decide) (by decide) rfl dL_law_81 ?_
                refine z_goto 50 C dL_law_84 (by decide) ?_
                refine zW.widen (k' := 30434 + 5 * (c + 1)) (n' := 183001 + 42 * (c + 1)) (by omega) (by omega) ?_
                have z := ih (c + 1) _ f _ (by omega) hS (hM.same (see_tag D).1) (hV.same (see_tag D).2) (by show ix (if (0 : Nat) = 0 then D 48 0 + 1 else D 48 0) = c + 1; rw [if_pos rfl, hS0.1.2.1.1, ← nI_succ, ix, nI_clamp (by omega), hcG]) hT0 hf1
                rw [nI_succ c] at z
                exact z
              · exact h67.elim
          refine z_iconst 0 (by decide) C dL_law_47 ?_
          refine z_istore [_, _, _, _, _] C (by decide) rfl dL_law_48 ?_
          refine zW.widen (k' := 30434 + 5 * 0) (n' := 183001 + 42 * 0) (by omega) (by omega) ?_
          refine L1 (2 + j42) 0 D0 _ _ (by omega) hS ?_ hV rfl rfl up1_self
          exact ⟨rfl, rfl, rfl, ⟨2 + j42, by omega, up1_self⟩, fun r hr => absurd hr (Nat.not_lt_zero r), fun i hi => absurd hi (Nat.not_lt_zero i)⟩
        · exact h42.elim
      · exact h24.elim
    · exact h16.elim
  · obtain ⟨S0, hp, -⟩ := h1
    exact hp.elim
