/-! every rule holds just where what it asks is so, and has its size -/
set_option maxRecDepth 100000 in
set_option maxHeartbeats 4000000 in
theorem L_areRules {l : Launch} {sc : zSQ} (hl0 : l.stackTraces = false) {n : Nat} {D : ZD} {x m : Nat} {Fw : Nat → Bool} {f : Nat → Int32} {S : ZM} (hS : mS D x m Fw f S) (hM : rM D f) (hV : LV n D) : zMetL l sc yL_areRules (Cond.code yL_areRules cL_areRules 7 (some .boolean) :: LWl) ({ frames := 49, cells := 8004, slots := 48024, locals := 1140 } : Room) 8004 48024 [zr (some x), zr (some m)] S (zPo (fun v S' => v = some (zi 1) ∧ mS D x m Fw f S') (fun _ _ => False)) := by
  refine zMetL.of [some (zr (some x)), some (zr (some m)), none, none, none, none, none] hl0 (by decide) rfl (Nat.le_of_ble_eq_true rfl) rfl ?_
  intro X C N Nc Sc hR hX F
  subst hX
  have hRc : (xR X).cells = 8004 := by rw [hR]
  have hRs : (xR X).slots = 48024 := by rw [hR]
  have ho := hS.1.ok
  obtain ⟨hm0, hm2, hm3, ⟨j1, hj1, hm1⟩, hmr, hml⟩ := id hM
  have hT24 := ho.t
  have hR40 := ho.r
  have hL8 := ho.l
  have outer : ∀ (j r : Nat) (S1 : ZM) (w4 w5 w6 : Option ZV), r + j = dR D → mS D x m Fw f S1 → zW X 7 (4 + 200 * r) (24 + 1200 * r) S1 40 [some (zr (some x)), some (zr (some m)), some (zi 1), some (zi (nI r)), w4, w5, w6] [] := by
    intro j
    induction j with
    | zero =>
      intro r S1 w4 w5 w6 hr hS
      obtain rfl : r = dR D := by omega
      refine z_iload_n C rfl dL_areRules_40 ?_
      refine z_aload_n C rfl dL_areRules_41 ?_
      refine z_iconst 2 (by decide) C dL_areRules_42 ?_
      refine z_mld C hS (show (2 : Int32) = nI 2 from rfl) (by decide) hm2 dL_areRules_43 ?_
      refine z_icmp_ge 252 C dL_areRules_44 (by decide) (fun c44 => ?_) (fun c44 => absurd (nI_le (Nat.le_refl _) (by omega)) c44)
      refine z_iload_n C rfl dL_areRules_252 ?_
      refine z_zreturn C F (by omega) (by omega) (by decide) dL_areRules_253 ?_
      exact ⟨rfl, hS⟩
    | succ j ih =>
      intro r S1 w4 w5 w6 hr hS
      have hrr : r < dR D := by omega
      obtain ⟨⟨kd, hkd, ek⟩, hr0, hr5, hr68⟩ := ho.2.1 r hrr
      have h15 : ¬ (15 : Int32) < D 56 r := by
        obtain ⟨w, ew, -, hw⟩ := ho.2.2.2.2.2.2.2.1 r hrr
        rw [ew]
        exact Int32.not_lt.mpr (nI_le (b := 15) hw (by decide))
      have h8 : D 53 r = 8 → ¬ nI kd < 6 := fun q => by rw [← ek, q]; decide
      have h67 : D 53 r = 6 ∨ D 53 r = 7 → ¬ nI kd < 6 := fun q => by rw [← ek]; rcases q with q | q <;> (rw [q]; decide)
      have inner : ∀ (jt t : Nat) (S1 : ZM) (w6 : Option ZV), t + jt = dT D → mS D x m Fw f S1 → zW X 7 (4 + 200 * r + 8 + 8 * t) (24 + 1200 * r + 48 + 48 * t) S1 165 [some (zr (some x)), some (zr (some m)), some (zi 1), some (zi (nI r)), some (zi (nI kd)), some (zi (nI t)), w6] [] := by
        intro jt
        induction jt with
        | zero =>
          intro t S1 w6 ht hS
          refine z_iload C rfl dL_areRules_165 ?_
          refine z_aload_n C rfl dL_areRules_167 ?_
          refine z_iconst 0 (by decide) C dL_areRules_168 ?_
          refine z_mld C hS (show (0 : Int32) = nI 0 from rfl) (by decide) hm0 dL_areRules_169 ?_
          refine z_icmp_ge 246 C dL_areRules_170 (by decide) (fun c170 => ?_) (fun c170 => absurd (nI_le (by omega) (by omega)) c170)
          refine z_inc (1) [_, _, _, _, _, _, _] C rfl (by decide) (by decide) rfl dL_areRules_246 ?_
          refine z_goto 40 C dL_areRules_249 (by decide) ?_
          refine zW.widen (k' := 4 + 200 * (r + 1)) (n' := 24 + 1200 * (r + 1)) (by omega) (by omega) ?_
          have q := ih (r + 1) _ (some (zi (nI kd))) (some (zi (nI t))) w6 (by omega) hS
          rw [nI_succ] at q
          exact q
        | succ jt iht =>
          intro t S1 w6 ht hS
          refine z_iload C rfl dL_areRules_165 ?_
          refine z_aload_n C rfl dL_areRules_167 ?_
          refine z_iconst 0 (by decide) C dL_areRules_168 ?_
          refine z_mld C hS (show (0 : Int32) = nI 0 from rfl) (by decide) hm0 dL_areRules_169 ?_
          refine z_icmp_ge 246 C dL_areRules_170 (by decide) (fun c170 => absurd c170 (nI_ge (by omega) (by omega))) (fun c170 => ?_)
          refine z_iload_n C rfl dL_areRules_173 ?_
          refine z_if_eq 246 C dL_areRules_174 (by decide) (fun c174 => absurd c174 (by decide)) (fun c174 => ?_)
          rcases Bool.eq_false_or_eq_true (prD D t) with hp | hp
          · have hlen : ¬ D 42 t = -2005 := by
              obtain ⟨w, ew, -, hw⟩ := ((ho.2.2.2.2.2.1 t (ho.pr hp)).1 (prD_lt hp)).1
              rw [ew]
              exact fun q => absurd (q ▸ nI_pos' (show w < 2 ^ 31 by omega)) (by decide)
            refine z_aload_n C rfl dL_areRules_177 ?_
            refine z_bipush 11 (by decide) C dL_areRules_178 ?_
            refine z_iload_n C rfl dL_areRules_180 ?_
            refine z_iload C rfl dL_areRules_181 ?_
            refine z_callLH 4 [zr (some x), zi 11, zi (nI r), zi (nI t)] C Nc Sc (Q_11 hl0 hS.1 r t (by omega) (by omega)) rfl (zgoodS LWl_good wq222 wq223 wq4 wq224) rfl rfl rfl (by decide +kernel) rfl (by rw [hR]; exact ⟨Nat.le_of_ble_eq_true rfl, Nat.le_of_ble_eq_true rfl⟩) (by rw [hRc, hRs]; exact ⟨by omega, by omega⟩) (Nat.le_of_ble_eq_true rfl) dL_areRules_183 (fun v183 S183 h183 => ?_) (fun E183 S183 h183 => ?_)
            · obtain ⟨rfl, hY, hkp⟩ := h183
              replace hS := hS.kp hY hkp
              refine z_int (if_pos hrr) ?_
              refine z_int (if_pos hp) ?_
              refine z_istore [_, _, _, _, _, _, _] C (by decide) rfl dL_areRules_186 ?_
              refine z_aload_n C rfl dL_areRules_188 ?_
              refine z_iconst 0 (by decide) C dL_areRules_189 ?_
              refine z_iload C rfl dL_areRules_190 ?_
              refine z_iconst 0 (by decide) C dL_areRules_192 ?_
              refine z_callLH 4 [zr (some x), zi 0, zi (nI t), zi 0] C Nc Sc (Q_0 hl0 hS.1 t (by omega) 0) rfl (zgoodS LWl_good wq222 wq223 wq4 wq224) rfl rfl rfl (by decide +kernel) rfl (by rw [hR]; exact ⟨Nat.le_of_ble_eq_true rfl, Nat.le_of_ble_eq_true rfl⟩) (by rw [hRc, hRs]; exact ⟨by omega, by omega⟩) (Nat.le_of_ble_eq_true rfl) dL_areRules_193 (fun v193 S193 h193 => ?_) (fun E193 S193 h193 => ?_)
              · obtain ⟨rfl, hY, hkp⟩ := h193
                replace hS := hS.kp hY hkp
                refine z_int (if_pos hp) ?_
                refine z_sipush (-2005) (by decide) C dL_areRules_196 ?_
                refine z_icmp_ne 218 C dL_areRules_199 (by decide) (fun c199 => ?_) (fun c199 => absurd c199 hlen)
                refine z_iload C rfl dL_areRules_218 ?_
                refine z_aload_n C rfl dL_areRules_220 ?_
                refine z_aload_n C rfl dL_areRules_221 ?_
                refine z_iload_n C rfl dL_areRules_222 ?_
                refine z_iload C rfl dL_areRules_223 ?_
                refine z_callL 4 [zr (some x), zr (some m), zi (nI r), zi (nI t)] C Nc Sc (L_holds hl0 hS hM hV r t hrr hp) rfl (zgoodS LWl_good wq229 wq230 wq4 wq231) rfl rfl rfl (by decide +kernel) rfl (by rw [hR]; exact ⟨Nat.le_of_ble_eq_true rfl, Nat.le_of_ble_eq_true rfl⟩) (by rw [hRc, hRs]; exact ⟨by omega, by omega⟩) (Nat.le_of_ble_eq_true rfl) dL_areRules_225 (fun v225 S225 h225 => ?_) (fun E225 S225 h225 => ?_)
                · obtain ⟨rfl, hS⟩ := h225
                  refine z_callS 1 [zi (bI (ev D (D 61) r t))] C (L_told hl0 _) rfl (zgoodS LWl_good wq158 wq159 wq4 wq160) rfl rfl rfl (by decide +kernel) rfl (by rw [hR]; exact ⟨Nat.le_of_ble_eq_true rfl, Nat.le_of_ble_eq_true rfl⟩) (by rw [hRc, hRs]; exact ⟨by omega, by omega⟩) (Nat.le_of_ble_eq_true rfl) dL_areRules_228 (fun v228 S228 h228 => ?_) (fun E228 S228 h228 => ?_)
                  · obtain ⟨rfl, q9⟩ := h228
                    subst q9
                    refine z_int (tlI_b _) ?_
                    refine z_icmp_ne 238 C dL_areRules_231 (by decide) (fun c231 => absurd rfl c231) (fun c231 => ?_)
                    refine z_iconst 1 (by decide) C dL_areRules_234 ?_
                    refine z_goto 239 C dL_areRules_235 (by decide) ?_
                    refine z_istore_n [_, _, _, _, _, _, _] C (by decide) rfl dL_areRules_239 ?_
                    refine z_inc (1) [_, _, _, _, _, _, _] C rfl (by decide) (by decide) rfl dL_areRules_240 ?_
                    refine z_goto 165 C dL_areRules_243 (by decide) ?_
                    refine zW.widen (k' := 4 + 200 * r + 8 + 8 * (t + 1)) (n' := 24 + 1200 * r + 48 + 48 * (t + 1)) (by omega) (by omega) ?_
                    have q := iht (t + 1) _ (some (zi (bI (ev D (D 61) r t)))) (by omega) hS
                    rw [nI_succ] at q
                    exact q
                  · exact h228.elim
                · exact h225.elim
              · exact h193.elim
            · exact h183.elim
          · refine z_aload_n C rfl dL_areRules_177 ?_
            refine z_bipush 11 (by decide) C dL_areRules_178 ?_
            refine z_iload_n C rfl dL_areRules_180 ?_
            refine z_iload C rfl dL_areRules_181 ?_
            refine z_callLH 4 [zr (some x), zi 11, zi (nI r), zi (nI t)] C Nc Sc (Q_11 hl0 hS.1 r t (by omega) (by omega)) rfl (zgoodS LWl_good wq222 wq223 wq4 wq224) rfl rfl rfl (by decide +kernel) rfl (by rw [hR]; exact ⟨Nat.le_of_ble_eq_true rfl, Nat.le_of_ble_eq_true rfl⟩) (by rw [hRc, hRs]; exact ⟨by omega, by omega⟩) (Nat.le_of_ble_eq_true rfl) dL_areRules_183 (fun v183 S183 h183 => ?_) (fun E183 S183 h183 => ?_)
            · obtain ⟨rfl, hY, hkp⟩ := h183
              replace hS := hS.kp hY hkp
              refine z_int (if_pos hrr) ?_
              refine z_int (if_neg (by rw [hp]; decide)) ?_
              refine z_istore [_, _, _, _, _, _, _] C (by decide) rfl dL_areRules_186 ?_
              refine z_aload_n C rfl dL_areRules_188 ?_
              refine z_iconst 0 (by decide) C dL_areRules_189 ?_
              refine z_iload C rfl dL_areRules_190 ?_
              refine z_iconst 0 (by decide) C dL_areRules_192 ?_
              refine z_callLH 4 [zr (some x), zi 0, zi (nI t), zi 0] C Nc Sc (Q_0 hl0 hS.1 t (by omega) 0) rfl (zgoodS LWl_good wq222 wq223 wq4 wq224) rfl rfl rfl (by decide +kernel) rfl (by rw [hR]; exact ⟨Nat.le_of_ble_eq_true rfl, Nat.le_of_ble_eq_true rfl⟩) (by rw [hRc, hRs]; exact ⟨by omega, by omega⟩) (Nat.le_of_ble_eq_true rfl) dL_areRules_193 (fun v193 S193 h193 => ?_) (fun E193 S193 h193 => ?_)
              · obtain ⟨rfl, hY, hkp⟩ := h193
                replace hS := hS.kp hY hkp
                refine z_int (if_neg (by rw [hp]; decide)) ?_
                refine z_sipush (-2005) (by decide) C dL_areRules_196 ?_
                refine z_icmp_ne 218 C dL_areRules_199 (by decide) (fun c199 => absurd rfl c199) (fun c199 => ?_)
                refine z_iload C rfl dL_areRules_202 ?_
                refine z_sipush (-2005) (by decide) C dL_areRules_204 ?_
                refine z_icmp_ne 214 C dL_areRules_207 (by decide) (fun c207 => absurd rfl c207) (fun c207 => ?_)
                refine z_iconst 1 (by decide) C dL_areRules_210 ?_
                refine z_goto 239 C dL_areRules_211 (by decide) ?_
                refine z_istore_n [_, _, _, _, _, _, _] C (by decide) rfl dL_areRules_239 ?_
                refine z_inc (1) [_, _, _, _, _, _, _] C rfl (by decide) (by decide) rfl dL_areRules_240 ?_
                refine z_goto 165 C dL_areRules_243 (by decide) ?_
                refine zW.widen (k' := 4 + 200 * r + 8 + 8 * (t + 1)) (n' := 24 + 1200 * r + 48 + 48 * (t + 1)) (by omega) (by omega) ?_
                have q := iht (t + 1) _ (some (zi (-2005))) (by omega) hS
                rw [nI_succ] at q
                exact q
              · exact h193.elim
            · exact h183.elim
      have J : ∀ S1 : ZM, mS D x m Fw f S1 → zW X 7 (4 + 200 * r + 6) (24 + 1200 * r + 36) S1 140 [some (zr (some x)), some (zr (some m)), some (zi 1), some (zi (nI r)), some (zi (nI kd)), w5, w6] [zi (D 56 r), zi (D 56 r)] := by
        intro S1 hS
        refine z_icmp_ne 160 C dL_areRules_140 (by decide) (fun c140 => absurd rfl c140) (fun c140 => ?_)
        refine z_aload_n C rfl dL_areRules_143 ?_
        refine z_bipush 10 (by decide) C dL_areRules_144 ?_
        refine z_iload_n C rfl dL_areRules_146 ?_
        refine z_iconst 0 (by decide) C dL_areRules_147 ?_
        refine z_callLH 4 [zr (some x), zi 10, zi (nI r), zi 0] C Nc Sc (Q_10 hl0 hS.1 r (by omega) 0) rfl (zgoodS LWl_good wq222 wq223 wq4 wq224) rfl rfl rfl (by decide +kernel) rfl (by rw [hR]; exact ⟨Nat.le_of_ble_eq_true rfl, Nat.le_of_ble_eq_true rfl⟩) (by rw [hRc, hRs]; exact ⟨by omega, by omega⟩) (Nat.le_of_ble_eq_true rfl) dL_areRules_148 (fun v148 S148 h148 => ?_) (fun E148 S148 h148 => ?_)
        · obtain ⟨rfl, hY, hkp⟩ := h148
          replace hS := hS.kp hY hkp
          refine z_int (if_pos hrr) ?_
          refine z_bipush 15 (by decide) C dL_areRules_151 ?_
          refine z_icmp_gt 160 C dL_areRules_153 (by decide) (fun c153 => absurd c153 h15) (fun c153 => ?_)
          refine z_iconst 1 (by decide) C dL_areRules_156 ?_
          refine z_goto 161 C dL_areRules_157 (by decide) ?_
          refine z_istore_n [_, _, _, _, _, _, _] C (by decide) rfl dL_areRules_161 ?_
          refine z_iconst 0 (by decide) C dL_areRules_162 ?_
          refine z_istore [_, _, _, _, _, _, _] C (by decide) rfl dL_areRules_163 ?_
          refine zW.widen (k' := 4 + 200 * r + 8 + 8 * 0) (n' := 24 + 1200 * r + 48 + 48 * 0) (by omega) (by omega) ?_
          exact inner (dT D) 0 _ _ (by omega) hS
        · exact h148.elim
      refine z_iload_n C rfl dL_areRules_40 ?_
      refine z_aload_n C rfl dL_areRules_41 ?_
      refine z_iconst 2 (by decide) C dL_areRules_42 ?_
      refine z_mld C hS (show (2 : Int32) = nI 2 from rfl) (by decide) hm2 dL_areRules_43 ?_
      refine z_icmp_ge 252 C dL_areRules_44 (by decide) (fun c44 => absurd c44 (nI_ge (by omega) (by omega))) (fun c44 => ?_)
      refine z_iload_n C rfl dL_areRules_47 ?_
      refine z_if_eq 252 C dL_areRules_48 (by decide) (fun c48 => absurd c48 (by decide)) (fun c48 => ?_)
      refine z_aload_n C rfl dL_areRules_51 ?_
      refine z_bipush 10 (by decide) C dL_areRules_52 ?_
      refine z_iconst 3 (by decide) C dL_areRules_54 ?_
      refine z_iload_n C rfl dL_areRules_55 ?_
      refine z_imul C dL_areRules_56 ?_
      refine z_iadd C dL_areRules_57 ?_
      refine z_mld C hS (ix3 (c' := 10) rfl _) (by omega) ((hmr r hrr).1.trans ek) dL_areRules_58 ?_
      refine z_istore [_, _, _, _, _, _, _] C (by decide) rfl dL_areRules_59 ?_
      refine z_aload_n C rfl dL_areRules_61 ?_
      refine z_bipush 10 (by decide) C dL_areRules_62 ?_
      refine z_iload_n C rfl dL_areRules_64 ?_
      refine z_iconst 0 (by decide) C dL_areRules_65 ?_
      refine z_callLH 4 [zr (some x), zi 10, zi (nI r), zi 0] C Nc Sc (Q_10 hl0 hS.1 r (by omega) 0) rfl (zgoodS LWl_good wq222 wq223 wq4 wq224) rfl rfl rfl (by decide +kernel) rfl (by rw [hR]; exact ⟨Nat.le_of_ble_eq_true rfl, Nat.le_of_ble_eq_true rfl⟩) (by rw [hRc, hRs]; exact ⟨by omega, by omega⟩) (Nat.le_of_ble_eq_true rfl) dL_areRules_66 (fun v66 S66 h66 => ?_) (fun E66 S66 h66 => ?_)
      · obtain ⟨rfl, hY, hkp⟩ := h66
        replace hS := hS.kp hY hkp
        refine z_int (if_pos hrr) ?_
        refine z_iload C rfl dL_areRules_69 ?_
        refine z_bipush 6 (by decide) C dL_areRules_71 ?_
        refine z_icmp_ge 80 C dL_areRules_73 (by decide) (fun c73 => ?_) (fun c73 => ?_)
        · refine z_iload C rfl dL_areRules_80 ?_
          refine z_bipush 8 (by decide) C dL_areRules_82 ?_
          refine z_icmp_ne 107 C dL_areRules_84 (by decide) (fun c84 => ?_) (fun c84 => ?_)
          · have k67 : D 53 r = 6 ∨ D 53 r = 7 := by
              have h6 : 6 ≤ kd := (nI_leI (a := 6) (by decide) (by omega)).mp c73
              have h8 : ¬ kd = 8 := fun q => c84 (by rw [q]; rfl)
              rcases (show kd = 6 ∨ kd = 7 by omega) with q | q
              · exact Or.inl (by rw [ek, q]; rfl)
              · exact Or.inr (by rw [ek, q]; rfl)
            obtain ⟨p9, q9, hp9, hq9, e54, e55⟩ := hr68 (k67.elim Or.inl (fun q => Or.inr (Or.inl q)))
            have k8 : ¬ D 53 r = 8 := by rcases k67 with q | q <;> (rw [q]; decide)
            have e12 : f (12 + 3 * r) = nI q9 := ((hmr r hrr).2.2 k67).trans e55
            have e1 : 1 + D 56 p9 + D 56 q9 = D 56 r := by
              rw [hV.2.2.1 r hrr, szN, if_neg k8, if_pos k67, e54, e55, show ix (nI p9) = p9 from nI_clamp (by omega), show ix (nI q9) = q9 from nI_clamp (by omega)]
            refine z_iconst 1 (by decide) C dL_areRules_107 ?_
            refine z_aload_n C rfl dL_areRules_108 ?_
            refine z_bipush 10 (by decide) C dL_areRules_109 ?_
            refine z_aload_n C rfl dL_areRules_111 ?_
            refine z_bipush 11 (by decide) C dL_areRules_112 ?_
            refine z_iconst 3 (by decide) C dL_areRules_114 ?_
            refine z_iload_n C rfl dL_areRules_115 ?_
            refine z_imul C dL_areRules_116 ?_
            refine z_iadd C dL_areRules_117 ?_
            refine z_mld C hS (ix3 (c' := 11) rfl _) (by omega) (hmr r hrr).2.1 dL_areRules_118 ?_
            refine z_int e54 ?_
            refine z_iconst 0 (by decide) C dL_areRules_119 ?_
            refine z_callLH 4 [zr (some x), zi 10, zi (nI p9), zi 0] C Nc Sc (Q_10 hl0 hS.1 p9 (by omega) 0) rfl (zgoodS LWl_good wq222 wq223 wq4 wq224) rfl rfl rfl (by decide +kernel) rfl (by rw [hR]; exact ⟨Nat.le_of_ble_eq_true rfl, Nat.le_of_ble_eq_true rfl⟩) (by rw [hRc, hRs]; exact ⟨by omega, by omega⟩) (Nat.le_of_ble_eq_true rfl) dL_areRules_120 (fun v120 S120 h120 => ?_) (fun E120 S120 h120 => ?_)
            · obtain ⟨rfl, hY, hkp⟩ := h120
              replace hS := hS.kp hY hkp
              refine z_int (if_pos (by omega)) ?_
              refine z_iadd C dL_areRules_123 ?_
              refine z_aload_n C rfl dL_areRules_124 ?_
              refine z_bipush 10 (by decide) C dL_areRules_125 ?_
              refine z_aload_n C rfl dL_areRules_127 ?_
              refine z_bipush 12 (by decide) C dL_areRules_128 ?_
              refine z_iconst 3 (by decide) C dL_areRules_130 ?_
              refine z_iload_n C rfl dL_areRules_131 ?_
              refine z_imul C dL_areRules_132 ?_
              refine z_iadd C dL_areRules_133 ?_
              refine z_mld C hS (ix3 (c' := 12) rfl _) (by omega) rfl dL_areRules_134 ?_
              refine z_int e12 ?_
              refine z_iconst 0 (by decide) C dL_areRules_135 ?_
              refine z_callLH 4 [zr (some x), zi 10, zi (nI q9), zi 0] C Nc Sc (Q_10 hl0 hS.1 q9 (by omega) 0) rfl (zgoodS LWl_good wq222 wq223 wq4 wq224) rfl rfl rfl (by decide +kernel) rfl (by rw [hR]; exact ⟨Nat.le_of_ble_eq_true rfl, Nat.le_of_ble_eq_true rfl⟩) (by rw [hRc, hRs]; exact ⟨by omega, by omega⟩) (Nat.le_of_ble_eq_true rfl) dL_areRules_136 (fun v136 S136 h136 => ?_) (fun E136 S136 h136 => ?_)
              · obtain ⟨rfl, hY, hkp⟩ := h136
                replace hS := hS.kp hY hkp
                refine z_int (if_pos (by omega)) ?_
                refine z_iadd C dL_areRules_139 ?_
                refine zW.widen (k' := 4 + 200 * r + 6) (n' := 24 + 1200 * r + 36) (by omega) (by omega) ?_
                refine z_int e1 ?_
                exact J _ hS
              · exact h136.elim
            · exact h120.elim
          · have k8 : D 53 r = 8 := ek.trans c84
            obtain ⟨p9, q9, hp9, hq9, e54, e55⟩ := hr68 (Or.inr (Or.inr k8))
            have e1 : 1 + D 56 p9 = D 56 r := by
              rw [hV.2.2.1 r hrr, szN, if_pos k8, e54, show ix (nI p9) = p9 from nI_clamp (by omega)]
            refine z_iconst 1 (by decide) C dL_areRules_87 ?_
            refine z_aload_n C rfl dL_areRules_88 ?_
            refine z_bipush 10 (by decide) C dL_areRules_89 ?_
            refine z_aload_n C rfl dL_areRules_91 ?_
            refine z_bipush 11 (by decide) C dL_areRules_92 ?_
            refine z_iconst 3 (by decide) C dL_areRules_94 ?_
            refine z_iload_n C rfl dL_areRules_95 ?_
            refine z_imul C dL_areRules_96 ?_
            refine z_iadd C dL_areRules_97 ?_
            refine z_mld C hS (ix3 (c' := 11) rfl _) (by omega) (hmr r hrr).2.1 dL_areRules_98 ?_
            refine z_int e54 ?_
            refine z_iconst 0 (by decide) C dL_areRules_99 ?_
            refine z_callLH 4 [zr (some x), zi 10, zi (nI p9), zi 0] C Nc Sc (Q_10 hl0 hS.1 p9 (by omega) 0) rfl (zgoodS LWl_good wq222 wq223 wq4 wq224) rfl rfl rfl (by decide +kernel) rfl (by rw [hR]; exact ⟨Nat.le_of_ble_eq_true rfl, Nat.le_of_ble_eq_true rfl⟩) (by rw [hRc, hRs]; exact ⟨by omega, by omega⟩) (Nat.le_of_ble_eq_true rfl) dL_areRules_100 (fun v100 S100 h100 => ?_) (fun E100 S100 h100 => ?_)
            · obtain ⟨rfl, hY, hkp⟩ := h100
              replace hS := hS.kp hY hkp
              refine z_int (if_pos (by omega)) ?_
              refine z_iadd C dL_areRules_103 ?_
              refine z_goto 140 C dL_areRules_104 (by decide) ?_
              refine zW.widen (k' := 4 + 200 * r + 6) (n' := 24 + 1200 * r + 36) (by omega) (by omega) ?_
              refine z_int e1 ?_
              exact J _ hS
            · exact h100.elim
        · have e1 : (1 : Int32) = D 56 r := by
            rw [hV.2.2.1 r hrr, szN, if_neg (fun q => h8 q (Int32.not_le.mp c73)), if_neg (fun q => h67 q (Int32.not_le.mp c73))]
          
          refine z_iconst 1 (by decide) C dL_areRules_76 ?_
          refine z_goto 140 C dL_areRules_77 (by decide) ?_
          refine zW.widen (k' := 4 + 200 * r + 6) (n' := 24 + 1200 * r + 36) (by omega) (by omega) ?_
          refine z_int e1 ?_
          exact J _ hS
      · exact h66.elim
  refine z_aload_n C rfl dL_areRules_0 ?_
  refine z_bipush 10 (by decide) C dL_areRules_1 ?_
  refine z_aload_n C rfl dL_areRules_3 ?_
  refine z_iconst 2 (by decide) C dL_areRules_4 ?_
  refine z_mld C hS (show (2 : Int32) = nI 2 from rfl) (by decide) hm2 dL_areRules_5 ?_
  refine z_iconst 0 (by decide) C dL_areRules_6 ?_
  refine z_callLH 4 [zr (some x), zi 10, zi (nI (dR D)), zi 0] C Nc Sc (Q_10 hl0 hS.1 (dR D) (by omega) 0) rfl (zgoodS LWl_good wq222 wq223 wq4 wq224) rfl rfl rfl (by decide +kernel) rfl (by rw [hR]; exact ⟨Nat.le_of_ble_eq_true rfl, Nat.le_of_ble_eq_true rfl⟩) (by rw [hRc, hRs]; exact ⟨by omega, by omega⟩) (Nat.le_of_ble_eq_true rfl) dL_areRules_7 (fun v7 S7 h7 => ?_) (fun E7 S7 h7 => ?_)
  · obtain ⟨rfl, hY, hkp⟩ := h7
    replace hS := hS.kp hY hkp
    refine z_int (if_neg (Nat.lt_irrefl _)) ?_
    refine z_sipush (-2005) (by decide) C dL_areRules_10 ?_
    refine z_icmp_ne 36 C dL_areRules_13 (by decide) (fun c13 => absurd rfl c13) (fun c13 => ?_)
    refine z_aload_n C rfl dL_areRules_16 ?_
    refine z_bipush 11 (by decide) C dL_areRules_17 ?_
    refine z_aload_n C rfl dL_areRules_19 ?_
    refine z_iconst 2 (by decide) C dL_areRules_20 ?_
    refine z_mld C hS (show (2 : Int32) = nI 2 from rfl) (by decide) hm2 dL_areRules_21 ?_
    refine z_iconst 0 (by decide) C dL_areRules_22 ?_
    refine z_callLH 4 [zr (some x), zi 11, zi (nI (dR D)), zi 0] C Nc Sc (Q_11 hl0 hS.1 (dR D) 0 (by omega) (by decide)) rfl (zgoodS LWl_good wq222 wq223 wq4 wq224) rfl rfl rfl (by decide +kernel) rfl (by rw [hR]; exact ⟨Nat.le_of_ble_eq_true rfl, Nat.le_of_ble_eq_true rfl⟩) (by rw [hRc, hRs]; exact ⟨by omega, by omega⟩) (Nat.le_of_ble_eq_true rfl) dL_areRules_23 (fun v23 S23 h23 => ?_) (fun E23 S23 h23 => ?_)
    · obtain ⟨rfl, hY, hkp⟩ := h23
      replace hS := hS.kp hY hkp
      refine z_int (if_neg (Nat.lt_irrefl _)) ?_
      refine z_sipush (-2005) (by decide) C dL_areRules_26 ?_
      refine z_icmp_ne 36 C dL_areRules_29 (by decide) (fun c29 => absurd rfl c29) (fun c29 => ?_)
      refine z_iconst 1 (by decide) C dL_areRules_32 ?_
      refine z_goto 37 C dL_areRules_33 (by decide) ?_
      refine z_istore_n [_, _, _, _, _, _, _] C (by decide) rfl dL_areRules_37 ?_
      refine z_iconst 0 (by decide) C dL_areRules_38 ?_
      refine z_istore_n [_, _, _, _, _, _, _] C (by decide) rfl dL_areRules_39 ?_
      exact outer (dR D) 0 _ none none none (by omega) hS
    · exact h23.elim
  · exact h7.elim
