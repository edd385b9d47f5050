/-! all lists are as they are told, and the share of what is listed -/
/-- in one of the first n lists -/
def inF (D : ZD) (t : Nat) : Nat → Bool
  | 0 => false
  | n + 1 => inF D t n || (prD D t && hasB (D 61 n) (nI t))
theorem inF_un {D : ZD} (h : okD D) {t : Nat} (ht : t < 24) : ∀ n : Nat, (prD D t && hasB (unD (D 61) n) (nI t)) = inF D t n
  | 0 => by rw [unD, hasB_0 (by omega), Bool.and_false]; rfl
  | n + 1 => by
    rw [unD, hasB_or (by omega), inF, ← inF_un h ht n]
    cases prD D t <;> rfl
theorem inF_more {D : ZD} (h : okD D) {t : Nat} (ht : t < 24) : ∀ k : Nat, dL D + k ≤ 8 → inF D t (dL D + k) = inF D t (dL D)
  | 0, _ => rfl
  | k + 1, hk => by
    rw [← Nat.add_assoc, inF, inF_more h ht k (by omega), h.2.2.2.2.1.2 (dL D + k) (by omega) (by omega), hasB_0 (by omega), Bool.and_false, Bool.or_false]
theorem share_eq {D : ZD} (h : okD D) : pcB (unD (D 61) 8) = cnF (fun t => inF D t (dL D)) (dT D) := by
  have h8 := h.l
  have h24 := h.t
  rw [sub_cn (unD_sub (fun i hi => h.sub i hi) 8 (by decide))]
  refine (cnG_cong (n := 24) (fun t ht => ?_)).trans (cn_more (fun t ht => ?_) h24)
  · show (prD D t && hasB (unD (D 61) 8) (nI t)) = inF D t (dL D)
    rw [inF_un h ht 8, ← inF_more h ht (8 - dL D) (by omega), show dL D + (8 - dL D) = 8 by omega]
  · have hp : prD D t = false := by
      cases hq : prD D t with
      | false => rfl
      | true => exact absurd (prD_lt hq) (by omega)
    have key : ∀ n, inF D t n = false := by
      intro n
      induction n with
      | zero => rfl
      | succ n ih => rw [inF, ih, hp]; rfl
    exact key _
theorem bI_or {b : Bool} : bI b = 0 ↔ ¬ b = true := by cases b <;> decide
set_option maxRecDepth 100000 in
set_option maxHeartbeats 4000000 in
theorem L_areLists {l : Launch} {sc : zSQ} (hl0 : l.stackTraces = false) {n : Nat} {D : ZD} {x m : Nat} {Fw : Nat → Bool} {f : Nat → Int32} {S : ZM} (hS : mS D x m Fw f S) (hM : rM D f) (hV : LV n D) : zMetL l sc yL_areLists (Cond.code yL_areLists cL_areLists 7 (some .boolean) :: LWl) ({ frames := 50, cells := 22413, slots := 134622, locals := 1180 } : Room) 22413 134622 [zr (some x), zr (some m)] S (zPo (fun v S' => v = some (zi 1) ∧ mS D x m Fw f S') (fun _ _ => False)) := by
  refine zMetL.of [some (zr (some x)), some (zr (some m)), none, none, none, none, none] hl0 (by decide) rfl (Nat.le_of_ble_eq_true rfl) rfl ?_
  intro X C N Nc Sc hR hX F
  subst hX
  have hRc : (xR X).cells = 22413 := by rw [hR]
  have hRs : (xR X).slots = 134622 := by rw [hR]
  have ho := hS.1.ok
  obtain ⟨hm0, hm2, hm3, ⟨j1, hj1, hm1⟩, hmr, hml⟩ := id hM
  have hT24 := ho.t
  have hR40 := ho.r
  have hL8 := ho.l
  have LB : ∀ (jt t : Nat) (S1 : ZM) (w5 w6 : Option ZV), t + jt = dT D → mS D x m Fw f S1 → zW X 7 (22028 + 16 * t) (132312 + 96 * t) S1 93 [some (zr (some x)), some (zr (some m)), some (zi 1), some (zi (nI (cnF (fun t => inF D t (dL D)) t))), some (zi (nI t)), w5, w6] [] := by
    intro jt
    induction jt with
    | zero =>
      intro t S1 w5 w6 ht hS
      obtain rfl : t = dT D := by omega
      have hc24 := cnG_le (fun t => inF D t (dL D)) (dT D)
      have hp24 := cnG_le (prD D) 24
      refine z_iload C rfl dL_areLists_93 ?_
      refine z_aload_n C rfl dL_areLists_95 ?_
      refine z_iconst 0 (by decide) C dL_areLists_96 ?_
      refine z_mld C hS (show (0 : Int32) = nI 0 from rfl) (by decide) hm0 dL_areLists_97 ?_
      refine z_icmp_ge 166 C dL_areLists_98 (by decide) (fun c98 => ?_) (fun c98 => absurd (nI_le (by omega) (by omega)) c98)
      refine z_iload_n C rfl dL_areLists_166 ?_
      refine z_if_eq 197 C dL_areLists_167 (by decide) (fun c167 => absurd c167 (by decide)) (fun c167 => ?_)
      refine z_aload_n C rfl dL_areLists_170 ?_
      refine z_callC 0 [] C rfl (T_tracks hl0 hS.1) rfl (zgoodV2 LWl_good (fun w h => ul_c h) wq243 wq244 wq245 (ul_c wc58) wq246) rfl rfl rfl (by decide +kernel) rfl (by rw [hR]; exact ⟨Nat.le_of_ble_eq_true rfl, Nat.le_of_ble_eq_true rfl⟩) hS.1.k.1 (by rw [hRc, hRs]; exact ⟨by omega, by omega⟩) (Nat.le_of_ble_eq_true rfl) dL_areLists_171 (fun v171 S171 h171 => ?_) (fun E171 S171 h171 => ?_)
      · obtain ⟨rfl, hY, hkp⟩ := h171
        replace hS := hS.kp hY hkp
        refine z_if_eq 193 C dL_areLists_174 (by decide) (fun c174 => ?_) (fun c174 => ?_)
        · refine z_iconst 1 (by decide) C dL_areLists_193 ?_
          refine z_goto 198 C dL_areLists_194 (by decide) ?_
          refine z_zreturn C F (by omega) (by omega) (by decide) dL_areLists_198 ?_
          exact ⟨rfl, hS⟩
        · refine z_aload_n C rfl dL_areLists_177 ?_
          refine z_callC 0 [] C rfl (T_share hl0 hS.1 c174) rfl (zgoodV2 LWl_good (fun w h => ul_c h) wq247 wq248 wq249 (ul_c wc58) wq250) rfl rfl rfl (by decide +kernel) rfl (by rw [hR]; exact ⟨Nat.le_of_ble_eq_true rfl, Nat.le_of_ble_eq_true rfl⟩) hS.1.k.1 (by rw [hRc, hRs]; exact ⟨by omega, by omega⟩) (Nat.le_of_ble_eq_true rfl) dL_areLists_178 (fun v178 S178 h178 => ?_) (fun E178 S178 h178 => ?_)
          · obtain ⟨ev9, hY, hkp⟩ := h178
            replace hS := hS.kp hY hkp
            rw [share_eq ho] at ev9
            subst ev9
            refine z_iload_n C rfl dL_areLists_181 ?_
            refine z_i2f C dL_areLists_182 ?_
            refine z_aload_n C rfl dL_areLists_183 ?_
            refine z_callC 0 [] C rfl (T_tracks hl0 hS.1) rfl (zgoodV2 LWl_good (fun w h => ul_c h) wq243 wq244 wq245 (ul_c wc58) wq246) rfl rfl rfl (by decide +kernel) rfl (by rw [hR]; exact ⟨Nat.le_of_ble_eq_true rfl, Nat.le_of_ble_eq_true rfl⟩) hS.1.k.1 (by rw [hRc, hRs]; exact ⟨by omega, by omega⟩) (Nat.le_of_ble_eq_true rfl) dL_areLists_184 (fun v184 S184 h184 => ?_) (fun E184 S184 h184 => ?_)
            · obtain ⟨rfl, hY, hkp⟩ := h184
              replace hS := hS.kp hY hkp
              refine z_i2f C dL_areLists_187 ?_
              refine z_fdiv (fdiv_ok (nI_abs (by omega)) (nI_abs (by omega)) c174) C dL_areLists_188 ?_
              refine z_fcmp C dL_areLists_189 ?_
              refine z_if_ne 197 C dL_areLists_190 (by decide) (fun c190 => absurd (ff_self (nI_abs (by omega)) (nI_abs (by omega)) c174 _) c190) (fun c190 => ?_)
              refine z_iconst 1 (by decide) C dL_areLists_193 ?_
              refine z_goto 198 C dL_areLists_194 (by decide) ?_
              refine z_zreturn C F (by omega) (by omega) (by decide) dL_areLists_198 ?_
              exact ⟨rfl, hS⟩
            · exact h184.elim
          · exact h178.elim
      · exact h171.elim
    | succ jt ihB =>
      intro t S1 w5 w6 ht hS
      have C9 : ∀ (jq q : Nat) (S1 : ZM), q + jq = dL D → mS D x m Fw f S1 → zW X 7 (22028 + 16 * t + 2 * q) (132312 + 96 * t + 12 * q) S1 107 [some (zr (some x)), some (zr (some m)), some (zi 1), some (zi (nI (cnF (fun t => inF D t (dL D)) t))), some (zi (nI t)), some (zi (bI (inF D t q))), some (zi (nI q))] [] := by
        intro jq
        induction jq with
        | zero =>
          intro q S1 hq hS
          obtain rfl : q = dL D := by omega
          refine z_iload C rfl dL_areLists_107 ?_
          refine z_aload_n C rfl dL_areLists_109 ?_
          refine z_iconst 3 (by decide) C dL_areLists_110 ?_
          refine z_mld C hS (show (3 : Int32) = nI 3 from rfl) (by decide) hm3 dL_areLists_111 ?_
          refine z_icmp_ge 147 C dL_areLists_112 (by decide) (fun c112 => ?_) (fun c112 => absurd (nI_le (by omega) (by omega)) c112)
          refine z_iload_n C rfl dL_areLists_147 ?_
          refine z_iload C rfl dL_areLists_148 ?_
          refine z_if_eq 157 C dL_areLists_150 (by decide) (fun c150 => ?_) (fun c150 => ?_)
          · refine z_iconst 0 (by decide) C dL_areLists_157 ?_
            refine z_iadd C dL_areLists_158 ?_
            first | refine z_int (Int32.add_zero _) ?_ | skip
            refine z_istore_n [_, _, _, _, _, _, _] C (by decide) rfl dL_areLists_159 ?_
            refine z_inc (1) [_, _, _, _, _, _, _] C rfl (by decide) (by decide) rfl dL_areLists_160 ?_
            refine z_goto 93 C dL_areLists_163 (by decide) ?_
            refine zW.widen (k' := 22028 + 16 * (t + 1)) (n' := 132312 + 96 * (t + 1)) (by omega) (by omega) ?_
            have z := ihB (t + 1) _ (some (zi (bI (inF D t (dL D))))) (some (zi (nI (dL D)))) (by omega) hS
            rw [cnF_s0 (p := (fun t => inF D t (dL D))) (i := t) (bI_eq.mp c150), nI_succ t] at z
            exact z
          · refine z_iconst 1 (by decide) C dL_areLists_153 ?_
            refine z_goto 158 C dL_areLists_154 (by decide) ?_
            refine z_iadd C dL_areLists_158 ?_
            first | refine z_int (Int32.add_zero _) ?_ | skip
            refine z_istore_n [_, _, _, _, _, _, _] C (by decide) rfl dL_areLists_159 ?_
            refine z_inc (1) [_, _, _, _, _, _, _] C rfl (by decide) (by decide) rfl dL_areLists_160 ?_
            refine z_goto 93 C dL_areLists_163 (by decide) ?_
            refine zW.widen (k' := 22028 + 16 * (t + 1)) (n' := 132312 + 96 * (t + 1)) (by omega) (by omega) ?_
            have z := ihB (t + 1) _ (some (zi (bI (inF D t (dL D))))) (some (zi (nI (dL D)))) (by omega) hS
            rw [cnF_s1 (p := (fun t => inF D t (dL D))) (i := t) (bI_ne.mp c150), nI_succ (cnF _ t), nI_succ t] at z
            exact z
        | succ jq ihC =>
          intro q S1 hq hS
          have hq8 : q < dL D := by omega
          refine z_iload C rfl dL_areLists_107 ?_
          refine z_aload_n C rfl dL_areLists_109 ?_
          refine z_iconst 3 (by decide) C dL_areLists_110 ?_
          refine z_mld C hS (show (3 : Int32) = nI 3 from rfl) (by decide) hm3 dL_areLists_111 ?_
          refine z_icmp_ge 147 C dL_areLists_112 (by decide) (fun c112 => absurd c112 (nI_ge (by omega) (by omega))) (fun c112 => ?_)
          refine z_iload C rfl dL_areLists_115 ?_
          refine z_if_ne 134 C dL_areLists_117 (by decide) (fun c117 => ?_) (fun c117 => ?_)
          · refine z_iconst 1 (by decide) C dL_areLists_134 ?_
            refine z_goto 139 C dL_areLists_135 (by decide) ?_
            refine z_istore [_, _, _, _, _, _, _] C (by decide) rfl dL_areLists_139 ?_
            refine z_inc (1) [_, _, _, _, _, _, _] C rfl (by decide) (by decide) rfl dL_areLists_141 ?_
            refine z_goto 107 C dL_areLists_144 (by decide) ?_
            refine zW.widen (k' := 22028 + 16 * t + 2 * (q + 1)) (n' := 132312 + 96 * t + 12 * (q + 1)) (by omega) (by omega) ?_
            have z := ihC (q + 1) _ (by omega) hS
            rw [show bI (inF D t (q + 1)) = 1 from by rw [inF, bI_ne.mp c117]; rfl, nI_succ q] at z
            exact z
          · refine z_aload_n C rfl dL_areLists_120 ?_
            refine z_bipush 15 (by decide) C dL_areLists_121 ?_
            refine z_iload C rfl dL_areLists_123 ?_
            refine z_iload C rfl dL_areLists_125 ?_
            refine z_callLH 4 [zr (some x), zi 15, zi (nI q), zi (nI t)] C Nc Sc (Q_15 hl0 hS.1 q t (by omega) (by omega)) rfl (zgoodS LWl_good wq222 wq223 wq4 wq224) rfl rfl rfl (by decide +kernel) rfl (by rw [hR]; exact ⟨Nat.le_of_ble_eq_true rfl, Nat.le_of_ble_eq_true rfl⟩) (by rw [hRc, hRs]; exact ⟨by omega, by omega⟩) (Nat.le_of_ble_eq_true rfl) dL_areLists_127 (fun v127 S127 h127 => ?_) (fun E127 S127 h127 => ?_)
            · obtain ⟨rfl, hY, hkp⟩ := h127
              replace hS := hS.kp hY hkp
              refine z_int (if_pos hq8) ?_
              refine z_iconst 1 (by decide) C dL_areLists_130 ?_
              refine z_icmp_ne 138 C dL_areLists_131 (by decide) (fun c131 => ?_) (fun c131 => ?_)
              · refine z_iconst 0 (by decide) C dL_areLists_138 ?_
                refine z_istore [_, _, _, _, _, _, _] C (by decide) rfl dL_areLists_139 ?_
                refine z_inc (1) [_, _, _, _, _, _, _] C rfl (by decide) (by decide) rfl dL_areLists_141 ?_
                refine z_goto 107 C dL_areLists_144 (by decide) ?_
                refine zW.widen (k' := 22028 + 16 * t + 2 * (q + 1)) (n' := 132312 + 96 * t + 12 * (q + 1)) (by omega) (by omega) ?_
                have z := ihC (q + 1) _ (by omega) hS
                rw [show bI (inF D t (q + 1)) = 0 from by rw [inF, bI_eq.mp c117, Bool.false_or, bI_eq]; cases hz : (prD D t && hasB (D 61 q) (nI t)) with | false => rfl | true => exact absurd (aT_1.mpr (by rw [Bool.and_eq_true] at hz; exact hz)) c131, nI_succ q] at z
                exact z
              · refine z_iconst 1 (by decide) C dL_areLists_134 ?_
                refine z_goto 139 C dL_areLists_135 (by decide) ?_
                refine z_istore [_, _, _, _, _, _, _] C (by decide) rfl dL_areLists_139 ?_
                refine z_inc (1) [_, _, _, _, _, _, _] C rfl (by decide) (by decide) rfl dL_areLists_141 ?_
                refine z_goto 107 C dL_areLists_144 (by decide) ?_
                refine zW.widen (k' := 22028 + 16 * t + 2 * (q + 1)) (n' := 132312 + 96 * t + 12 * (q + 1)) (by omega) (by omega) ?_
                have z := ihC (q + 1) _ (by omega) hS
                rw [show bI (inF D t (q + 1)) = 1 from by rw [inF, show (prD D t && hasB (D 61 q) (nI t)) = true from by rw [Bool.and_eq_true]; exact aT_1.mp c131, Bool.or_true]; rfl, nI_succ q] at z
                exact z
            · exact h127.elim
      refine z_iload C rfl dL_areLists_93 ?_
      refine z_aload_n C rfl dL_areLists_95 ?_
      refine z_iconst 0 (by decide) C dL_areLists_96 ?_
      refine z_mld C hS (show (0 : Int32) = nI 0 from rfl) (by decide) hm0 dL_areLists_97 ?_
      refine z_icmp_ge 166 C dL_areLists_98 (by decide) (fun c98 => absurd c98 (nI_ge (by omega) (by omega))) (fun c98 => ?_)
      refine z_iconst 0 (by decide) C dL_areLists_101 ?_
      refine z_istore [_, _, _, _, _, _, _] C (by decide) rfl dL_areLists_102 ?_
      refine z_iconst 0 (by decide) C dL_areLists_104 ?_
      refine z_istore [_, _, _, _, _, _, _] C (by decide) rfl dL_areLists_105 ?_
      refine zW.widen (k' := 22028 + 16 * t + 2 * 0) (n' := 132312 + 96 * t + 12 * 0) (by omega) (by omega) ?_
      exact C9 (dL D) 0 _ (by omega) hS
  have LA9 : ∀ (jq q : Nat) (S1 : ZM), q + jq = dL D → mS D x m Fw f S1 → zW X 7 (4 + 2753 * q) (24 + 16536 * q) S1 43 [some (zr (some x)), some (zr (some m)), some (zi 1), some (zi 0), some (zi (nI q)), none, none] [] := by
    intro jq
    induction jq with
    | zero =>
      intro q S1 hq hS
      obtain rfl : q = dL D := by omega
      refine z_iload C rfl dL_areLists_43 ?_
      refine z_aload_n C rfl dL_areLists_45 ?_
      refine z_iconst 3 (by decide) C dL_areLists_46 ?_
      refine z_mld C hS (show (3 : Int32) = nI 3 from rfl) (by decide) hm3 dL_areLists_47 ?_
      refine z_icmp_ge 90 C dL_areLists_48 (by decide) (fun c48 => ?_) (fun c48 => absurd (nI_le (by omega) (by omega)) c48)
      refine z_iconst 0 (by decide) C dL_areLists_90 ?_
      refine z_istore [_, _, _, _, _, _, _] C (by decide) rfl dL_areLists_91 ?_
      refine zW.widen (k' := 22028 + 16 * 0) (n' := 132312 + 96 * 0) (by omega) (by omega) ?_
      exact LB (dT D) 0 _ none none (by omega) hS
    | succ jq ihA =>
      intro q S1 hq hS
      refine z_iload C rfl dL_areLists_43 ?_
      refine z_aload_n C rfl dL_areLists_45 ?_
      refine z_iconst 3 (by decide) C dL_areLists_46 ?_
      refine z_mld C hS (show (3 : Int32) = nI 3 from rfl) (by decide) hm3 dL_areLists_47 ?_
      refine z_icmp_ge 90 C dL_areLists_48 (by decide) (fun c48 => absurd c48 (nI_ge (by omega) (by omega))) (fun c48 => ?_)
      refine z_iload_n C rfl dL_areLists_51 ?_
      refine z_if_eq 90 C dL_areLists_52 (by decide) (fun c52 => absurd c52 (by decide)) (fun c52 => ?_)
      refine z_aload_n C rfl dL_areLists_55 ?_
      refine z_aload_n C rfl dL_areLists_56 ?_
      refine z_iload C rfl dL_areLists_57 ?_
      refine z_callL 3 [zr (some x), zr (some m), zi (nI q)] C Nc Sc (L_isList hl0 hS hM hV q (by omega)) rfl (zgoodS LWl_good wq240 wq241 wq4 wq242) rfl rfl rfl (by decide +kernel) rfl (by rw [hR]; exact ⟨Nat.le_of_ble_eq_true rfl, Nat.le_of_ble_eq_true rfl⟩) (by rw [hRc, hRs]; exact ⟨by omega, by omega⟩) (Nat.le_of_ble_eq_true rfl) dL_areLists_59 (fun v59 S59 h59 => ?_) (fun E59 S59 h59 => ?_)
      · obtain ⟨rfl, hS⟩ := h59
        refine z_if_eq 82 C dL_areLists_62 (by decide) (fun c62 => absurd c62 (by decide)) (fun c62 => ?_)
        refine z_aload_n C rfl dL_areLists_65 ?_
        refine z_bipush 19 (by decide) C dL_areLists_66 ?_
        refine z_iload C rfl dL_areLists_68 ?_
        refine z_iload C rfl dL_areLists_70 ?_
        refine z_callLH 4 [zr (some x), zi 19, zi (nI q), zi (nI q)] C Nc Sc (Q_19 hl0 hS.1 q (by omega)) rfl (zgoodS LWl_good wq222 wq223 wq4 wq224) rfl rfl rfl (by decide +kernel) rfl (by rw [hR]; exact ⟨Nat.le_of_ble_eq_true rfl, Nat.le_of_ble_eq_true rfl⟩) (by rw [hRc, hRs]; exact ⟨by omega, by omega⟩) (Nat.le_of_ble_eq_true rfl) dL_areLists_72 (fun v72 S72 h72 => ?_) (fun E72 S72 h72 => ?_)
        · obtain ⟨rfl, hY, hkp⟩ := h72
          replace hS := hS.kp hY hkp
          refine z_int (if_pos (by omega)) ?_
          refine z_if_ne 82 C dL_areLists_75 (by decide) (fun c75 => absurd rfl c75) (fun c75 => ?_)
          refine z_iconst 1 (by decide) C dL_areLists_78 ?_
          refine z_goto 83 C dL_areLists_79 (by decide) ?_
          refine z_istore_n [_, _, _, _, _, _, _] C (by decide) rfl dL_areLists_83 ?_
          refine z_inc (1) [_, _, _, _, _, _, _] C rfl (by decide) (by decide) rfl dL_areLists_84 ?_
          refine z_goto 43 C dL_areLists_87 (by decide) ?_
          refine zW.widen (k' := 4 + 2753 * (q + 1)) (n' := 24 + 16536 * (q + 1)) (by omega) (by omega) ?_
          have z := ihA (q + 1) _ (by omega) hS
          rw [nI_succ q] at z
          exact z
        · exact h72.elim
      · exact h59.elim
  refine z_aload_n C rfl dL_areLists_0 ?_
  refine z_bipush 12 (by decide) C dL_areLists_1 ?_
  refine z_aload_n C rfl dL_areLists_3 ?_
  refine z_iconst 3 (by decide) C dL_areLists_4 ?_
  refine z_mld C hS (show (3 : Int32) = nI 3 from rfl) (by decide) hm3 dL_areLists_5 ?_
  refine z_iconst 0 (by decide) C dL_areLists_6 ?_
  refine z_callLH 4 [zr (some x), zi 12, zi (nI (dL D)), zi 0] C Nc Sc (Q_12 hl0 hS.1 (dL D) (by omega) 0) rfl (zgoodS LWl_good wq222 wq223 wq4 wq224) rfl rfl rfl (by decide +kernel) rfl (by rw [hR]; exact ⟨Nat.le_of_ble_eq_true rfl, Nat.le_of_ble_eq_true rfl⟩) (by rw [hRc, hRs]; exact ⟨by omega, by omega⟩) (Nat.le_of_ble_eq_true rfl) dL_areLists_7 (fun v7 S7 h7 => ?_) (fun E7 S7 h7 => ?_)
  · obtain ⟨rfl, hY, hkp⟩ := h7
    replace hS := hS.kp hY hkp
    refine z_int (if_neg (Nat.lt_irrefl _)) ?_
    refine z_sipush (-2005) (by decide) C dL_areLists_10 ?_
    refine z_icmp_ne 36 C dL_areLists_13 (by decide) (fun c13 => absurd rfl c13) (fun c13 => ?_)
    refine z_aload_n C rfl dL_areLists_16 ?_
    refine z_bipush 16 (by decide) C dL_areLists_17 ?_
    refine z_aload_n C rfl dL_areLists_19 ?_
    refine z_iconst 3 (by decide) C dL_areLists_20 ?_
    refine z_mld C hS (show (3 : Int32) = nI 3 from rfl) (by decide) hm3 dL_areLists_21 ?_
    refine z_iconst 0 (by decide) C dL_areLists_22 ?_
    refine z_callLH 4 [zr (some x), zi 16, zi (nI (dL D)), zi (nI 0)] C Nc Sc (Q_16 hl0 hS.1 (dL D) 0 (by omega) (by decide)) rfl (zgoodS LWl_good wq222 wq223 wq4 wq224) rfl rfl rfl (by decide +kernel) rfl (by rw [hR]; exact ⟨Nat.le_of_ble_eq_true rfl, Nat.le_of_ble_eq_true rfl⟩) (by rw [hRc, hRs]; exact ⟨by omega, by omega⟩) (Nat.le_of_ble_eq_true rfl) dL_areLists_23 (fun v23 S23 h23 => ?_) (fun E23 S23 h23 => ?_)
    · obtain ⟨rfl, hY, hkp⟩ := h23
      replace hS := hS.kp hY hkp
      refine z_int (if_neg (Nat.lt_irrefl _)) ?_
      refine z_sipush (-2005) (by decide) C dL_areLists_26 ?_
      refine z_icmp_ne 36 C dL_areLists_29 (by decide) (fun c29 => absurd rfl c29) (fun c29 => ?_)
      refine z_iconst 1 (by decide) C dL_areLists_32 ?_
      refine z_goto 37 C dL_areLists_33 (by decide) ?_
      refine z_istore_n [_, _, _, _, _, _, _] C (by decide) rfl dL_areLists_37 ?_
      refine z_iconst 0 (by decide) C dL_areLists_38 ?_
      refine z_istore_n [_, _, _, _, _, _, _] C (by decide) rfl dL_areLists_39 ?_
      refine z_iconst 0 (by decide) C dL_areLists_40 ?_
      refine z_istore [_, _, _, _, _, _, _] C (by decide) rfl dL_areLists_41 ?_
      refine zW.widen (k' := 4 + 2753 * 0) (n' := 24 + 16536 * 0) (by omega) (by omega) ?_
      exact LA9 (dL D) 0 _ (by omega) hS
    · exact h23.elim
  · exact h7.elim
