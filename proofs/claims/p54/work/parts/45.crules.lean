/-! the class: rules made -/
theorem rlS_3 {S : ZM} {a : Nat} {num kind asked : Int32} {one oth : Option Nat} : mI (rlS S a num kind asked one oth) 3 a = num := by
  rw [mI_sI_k (by decide), mI_sI_k (by decide)]
  show mI (sI (sI (sI S 3 a num) 4 a kind) 5 a asked) 3 a = _
  rw [mI_sI_k (by decide), mI_sI_k (by decide), mI_sI]
theorem rlS_4 {S : ZM} {a : Nat} {num kind asked : Int32} {one oth : Option Nat} : mI (rlS S a num kind asked one oth) 4 a = kind := by
  rw [mI_sI_k (by decide), mI_sI_k (by decide)]
  show mI (sI (sI (sI S 3 a num) 4 a kind) 5 a asked) 4 a = _
  rw [mI_sI_k (by decide), mI_sI]
theorem rlS_5 {S : ZM} {a : Nat} {num kind asked : Int32} {one oth : Option Nat} : mI (rlS S a num kind asked one oth) 5 a = asked := by
  rw [mI_sI_k (by decide), mI_sI_k (by decide)]
  show mI (sI (sI (sI S 3 a num) 4 a kind) 5 a asked) 5 a = _
  rw [mI_sI]
theorem rlS_6 {S : ZM} {a : Nat} {num kind asked : Int32} {one oth : Option Nat} : mQ (rlS S a num kind asked one oth) 6 a = one := by
  show up2 (up2 S.2.2.1 6 a one) 7 a oth 6 a = one
  rw [up2_k (by decide), up2_self]
theorem rlS_7 {S : ZM} {a : Nat} {num kind asked : Int32} {one oth : Option Nat} : mQ (rlS S a num kind asked one oth) 7 a = oth := by
  show up2 (up2 S.2.2.1 6 a one) 7 a oth 7 a = oth
  exact up2_self
theorem ext.rsz {S S1 : ZM} (e : ext S S1) {o : Option Nat} (h : ∀ b : Nat, o = some b → mK S b = 3) : rsz S1 o = rsz S o := by
  cases o with
  | none => rfl
  | some b => exact ((e b (zk (h b rfl) rfl)).2.2.1 8).1
theorem ext.rls {S S1 : ZM} (e : ext S S1) {o : Option Nat} (h : ∀ b : Nat, o = some b → mK S b = 3) : rls S1 o = rls S o := by
  cases o with
  | none => rfl
  | some b => exact ((e b (zk (h b rfl) rfl)).2.2.1 9).1

set_option maxRecDepth 100000 in
set_option maxHeartbeats 4000000 in
theorem C_addRule {l : Launch} (hl0 : l.stackTraces = false) {D : ZD} {J : Nat → Int64} {lk : ZL} {as : Nat → Nat} {S : ZM} {L T : Nat → Nat} (hR1 : cR D J lk as S L T) {kd x54 x55 asked sz : Int32} {one oth : Option Nat} {g : Nat} (hO1 : ∀ b : Nat, one = some b → mK S b = 3) (hO2 : ∀ b : Nat, oth = some b → mK S b = 3) (hasked : asked = if kd = 0 then nI g else if kd = 6 ∨ kd = 7 ∨ kd = 8 then 0 else x54) (hq6 : kd = 6 ∨ kd = 7 ∨ kd = 8 → one = tQ S (L 3) (ix x54)) (hq7 : kd = 6 ∨ kd = 7 → oth = tQ S (L 3) (ix x55)) (hsz : 1 + rsz S one + rsz S oth = sz) (hls : (if kd = 5 then 1 <<< (asked &&& 31) else 0) ||| rls S one ||| rls S oth = lsNew D kd x54 x55) (w1 : ∃ k : Nat, k ≤ 8 ∧ kd = nI k) (w2 : kd = 0 → g < dG D ∧ x54 = nI g ∧ look lk g = none) (w3 : kd = 5 → ∃ i : Nat, i < dL D ∧ x54 = nI i) (w4 : kd = 6 ∨ kd = 7 ∨ kd = 8 → ∃ p q : Nat, p < dR D ∧ q < dR D ∧ x54 = nI p ∧ x55 = nI q) (w5 : ∃ n : Nat, sz = nI n ∧ 1 ≤ n ∧ n ≤ 31) : zMet l yX4_addRule (Cond.code yX4_addRule cX4_addRule 6 (some .int) :: LWc) ({ frames := 6, cells := 2, slots := 13, locals := 86 } : Room) 2 13 [zr (some (L 0)), zi kd, zi asked, zr one, zr oth] S (zPo (fun v S' => sz ≤ 15 ∧ dR D < 40 ∧ v = some (zi (D 52 0)) ∧ cR (opRule D kd x54 x55 sz) J lk (opAs D as g) S' L T) (fun E S' => cR D J lk as S' L T ∧ ((¬ sz ≤ 15 ∧ E = "java/lang/UnsupportedOperationException") ∨ (sz ≤ 15 ∧ ¬ D 52 0 < 40 ∧ E = "java/lang/IllegalStateException")))) := by
  refine zMet.of' [some (zr (some (L 0))), some (zi kd), some (zi asked), some (zr one), some (zr oth), none] hl0 (by decide) rfl (Nat.le_of_ble_eq_true rfl) rfl ?_
  intro X C N hR hN0 hX F
  subst hX
  obtain ⟨hX0, hV, hK, hU, hQ, hF⟩ := id hR1
  obtain ⟨hS, hT, hG, hRR, hLL, hA, hday, hpl, hO, hAc⟩ := id hX0
  refine z_new1 C (fun w h => List.mem_cons_of_mem _ (uc_wsX10 w h)) (List.mem_cons_of_mem _ wc35) (List.mem_cons_of_mem _ wc192) (List.mem_cons_of_mem _ wc193) (by rw [hR]; exact Nat.le_of_ble_eq_true rfl) (by rw [hR]; exact Nat.le_of_ble_eq_true rfl) dX4_addRule_0 (fun a0 f0 => ?_)
  have e0 : ext S (nO S a0 3) := (ext.refl S).nO f0 3
  have hRk : mK (nO S a0 3) (L 0) = 6 := (hX0.ext e0).1.c
  refine z_dup rfl C dX4_addRule_3 ?_
  refine z_aload_n C rfl dX4_addRule_4 ?_
  refine zg4_ruleCount C (fun w h => List.mem_cons_of_mem _ (uc_wsX40 w h)) hRk (List.mem_cons_of_mem _ wc42) dX4_addRule_5 ?_
  refine z_int (x' := D 52 0) ((hR1.ext e0).2.1.2.2.2.1) ?_
  refine z_iload_n C rfl dX4_addRule_8 ?_
  refine z_iload_n C rfl dX4_addRule_9 ?_
  refine z_aload_n C rfl dX4_addRule_10 ?_
  refine z_aload C rfl dX4_addRule_11 ?_
  refine z_callI 5 [zi (D 52 0), zi kd, zi asked, zr one, zr oth] C (C_X1_init hl0 (S := nO S a0 3) (a := a0) up1_self (D 52 0) kd asked one oth (fun b hb => (e0 b (zk (hO1 b hb) rfl)).1.trans (hO1 b hb)) (fun b hb => (e0 b (zk (hO2 b hb) rfl)).1.trans (hO2 b hb))) rfl (zgoodI LWc_good wc198) rfl rfl rfl (List.mem_cons_of_mem _ wc193) (List.mem_cons_of_mem _ wc196) (List.mem_cons_of_mem _ wc197) rfl (by decide +kernel) rfl (by rw [hR]; exact ⟨Nat.le_of_ble_eq_true rfl, Nat.le_of_ble_eq_true rfl⟩) (by rw [hR]; exact ⟨Nat.le_of_ble_eq_true rfl, Nat.le_of_ble_eq_true rfl⟩) (Nat.le_of_ble_eq_true rfl) dX4_addRule_13 (fun v13 S13 h13 => ?_) (fun E13 S13 h13 => ?_)
  · obtain ⟨rfl, q13⟩ := h13
    have e1 : ext S S13 := by rw [q13]; exact ((((((e0.sI f0 _).sI f0 _).sI f0 _).sQ f0 _).sQ f0 _).sI f0 _).sI f0 _
    have hRx := hR1.ext e1
    have hRk : mK S13 (L 0) = 6 := hRx.1.1.c
    have c52 : D 52 0 = nI (dR D) := hA.1.2.2.1.1
    have h40 : dR D ≤ 40 := hA.1.2.2.1.2
    have kx : mK S13 a0 = 3 := by rw [q13]; exact up1_self
    have n3 : mI S13 3 a0 = D 52 0 := by rw [q13]; exact rlS_3
    have n4 : mI S13 4 a0 = kd := by rw [q13]; exact rlS_4
    have n5 : mI S13 5 a0 = asked := by rw [q13]; exact rlS_5
    have n6 : mQ S13 6 a0 = one := by rw [q13]; exact rlS_6
    have n7 : mQ S13 7 a0 = oth := by rw [q13]; exact rlS_7
    have n8 : mI S13 8 a0 = sz := by rw [q13, mI_sI_k (by decide), mI_sI, e0.rsz hO1, e0.rsz hO2]; exact hsz
    have n9 : mI S13 9 a0 = lsNew D kd x54 x55 := by rw [q13, mI_sI, e0.rls hO1, e0.rls hO2]; exact hls
    have er3 : tQ S13 (L 3) = tQ S (L 3) := (e1 _ (zk hS.r.2.1 rfl)).2.2.2.2
    refine z_astore [_, _, _, _, _, _] C (by decide) rfl dX4_addRule_16 ?_
    refine z_aload C rfl dX4_addRule_18 ?_
    refine zg1_size C (fun w h => List.mem_cons_of_mem _ (uc_wsX10 w h)) kx (List.mem_cons_of_mem _ wc194) dX4_addRule_20 ?_
    refine z_int n8 ?_
    refine z_bipush 15 (by decide) C dX4_addRule_23 ?_
    refine z_icmp_le 39 C dX4_addRule_25 (by decide) (fun c25 => ?_) (fun c25 => ?_)
    · refine z_aload C rfl dX4_addRule_39 ?_
      refine zg1_number C (fun w h => List.mem_cons_of_mem _ (uc_wsX10 w h)) kx (List.mem_cons_of_mem _ wc195) dX4_addRule_41 ?_
      refine z_int n3 ?_
      refine z_bipush 40 (by decide) C dX4_addRule_44 ?_
      refine z_icmp_lt 60 C dX4_addRule_46 (by decide) (fun c46 => ?_) (fun c46 => ?_)
      · have hlt : dR D < 40 := by rw [c52] at c46; exact (nI_ltI (b := 40) (by omega) (by decide)).1 c46
        refine z_aload_n C rfl dX4_addRule_60 ?_
        refine zg4_allRules C (fun w h => List.mem_cons_of_mem _ (uc_wsX40 w h)) hRk (List.mem_cons_of_mem _ wc36) dX4_addRule_61 ?_
        refine z_ref hRx.1.1.r.1 ?_
        refine z_aload C rfl dX4_addRule_64 ?_
        refine zg1_number C (fun w h => List.mem_cons_of_mem _ (uc_wsX10 w h)) kx (List.mem_cons_of_mem _ wc195) dX4_addRule_66 ?_
        refine z_int n3 ?_
        refine z_aload C rfl dX4_addRule_69 ?_
        refine z_aastore_1 C hRx.1.1.r.2.1 (fun v hv => by cases hv; exact kx) (by rw [hRx.1.1.r.2.2, c52]; exact vp_in_nI hlt (by decide)) dX4_addRule_71 ?_
        refine z_mem (S' := eQ S13 (L 3) (dR D) (some a0)) (by rw [c52, nI_clamp (by omega)]) ?_
        refine z_aload_n C rfl dX4_addRule_72 ?_
        refine z_dup rfl C dX4_addRule_73 ?_
        refine zg4_ruleCount C (fun w h => List.mem_cons_of_mem _ (uc_wsX40 w h)) hRk (List.mem_cons_of_mem _ wc42) dX4_addRule_74 ?_
        refine z_int (x' := D 52 0) hRx.2.1.2.2.2.1 ?_
        refine z_iconst 1 (by decide) C dX4_addRule_77 ?_
        refine z_iadd C dX4_addRule_78 ?_
        refine zp4_ruleCount C (fun w h => List.mem_cons_of_mem _ (uc_wsX40 w h)) hRk (List.mem_cons_of_mem _ wc42) dX4_addRule_79 ?_
        refine z_aload C rfl dX4_addRule_82 ?_
        refine zg1_number C (fun w h => List.mem_cons_of_mem _ (uc_wsX10 w h)) kx (List.mem_cons_of_mem _ wc195) dX4_addRule_84 ?_
        refine z_int (x' := D 52 0) ((mI_sI_k (by decide)).trans n3) ?_
        refine z_ireturn C F (Nat.le_of_ble_eq_true rfl) (Nat.le_of_ble_eq_true rfl) dX4_addRule_87 ?_
        exact ⟨c25, hlt, rfl, hRx.addRule hlt kx (n3.trans c52) n4 (n5.trans hasked) (fun q => by rw [n6, er3]; exact hq6 q) (fun q => by rw [n7, er3]; exact hq7 q) n8 n9 w1 w2 w3 w4 (by
          obtain ⟨n, en, n1, n2⟩ := w5
          refine ⟨n, en, n1, ?_⟩
          rw [en] at c25
          exact (nI_leI (b := 15) (by omega) (by decide)).1 c25)⟩
      · refine z_throwSW (text := "no more rules can be added") ["java/lang/RuntimeException", "java/lang/Exception"] C F N (by decide +kernel) (by decide +kernel) (List.mem_cons_of_mem _ wc141) (List.mem_cons_of_mem _ wc142) (by decide +kernel) (fun w h => List.mem_cons_of_mem _ (ac_1 w h)) bc_1 (by decide) (by decide +kernel) dX4_addRule_49 dX4_addRule_52 dX4_addRule_53 dX4_addRule_56 dX4_addRule_59 (by rw [hR]; exact Nat.le_of_ble_eq_true rfl) (by rw [hR]; exact Nat.le_of_ble_eq_true rfl) (by rw [hR]; exact Nat.le_of_ble_eq_true rfl) (by rw [hR]; exact Nat.le_of_ble_eq_true rfl) (Nat.le_of_ble_eq_true rfl) (Nat.le_of_ble_eq_true rfl) ?_
        first | exact ⟨hRx, Or.inl ⟨c25, rfl⟩⟩ | exact ⟨hRx, Or.inr ⟨c25, c46, rfl⟩⟩
    · refine z_throwSW (text := "the rule would be too great") ["java/lang/RuntimeException", "java/lang/Exception"] C F N (by decide +kernel) (by decide +kernel) (List.mem_cons_of_mem _ wc181) (List.mem_cons_of_mem _ wc182) (by decide +kernel) (fun w h => List.mem_cons_of_mem _ (ac_3 w h)) bc_3 (by decide) (by decide +kernel) dX4_addRule_28 dX4_addRule_31 dX4_addRule_32 dX4_addRule_35 dX4_addRule_38 (by rw [hR]; exact Nat.le_of_ble_eq_true rfl) (by rw [hR]; exact Nat.le_of_ble_eq_true rfl) (by rw [hR]; exact Nat.le_of_ble_eq_true rfl) (by rw [hR]; exact Nat.le_of_ble_eq_true rfl) (Nat.le_of_ble_eq_true rfl) (Nat.le_of_ble_eq_true rfl) ?_
      first | exact ⟨hRx, Or.inl ⟨c25, rfl⟩⟩ | exact ⟨hRx, Or.inr ⟨c25, c46, rfl⟩⟩
  · exact h13.elim
set_option maxRecDepth 100000 in
set_option maxHeartbeats 4000000 in
theorem C_rated {l : Launch} (hl0 : l.stackTraces = false) {D : ZD} {J : Nat → Int64} {lk : ZL} {as : Nat → Nat} {S : ZM} {L T : Nat → Nat} (hR1 : cR D J lk as S L T) (y : Int32) : zMet l yX4_rated (Cond.code yX4_rated cX4_rated 2 (some .int) :: LWc) ({ frames := 7, cells := 3, slots := 19, locals := 111 } : Room) 3 19 [zr (some (L 0)), zi y] S (zPo (fun v S' => 0 ≤ y ∧ y ≤ 5 ∧ dR D < 40 ∧ v = some (zi (D 52 0)) ∧ cR (opRule D 1 y 0 1) J lk (opAs D as 0) S' L T) (fun E S' => cR D J lk as S' L T ∧ ((¬ (0 ≤ y ∧ y ≤ 5) ∧ E = "java/lang/IllegalArgumentException") ∨ (0 ≤ y ∧ y ≤ 5 ∧ ¬ D 52 0 < 40 ∧ E = "java/lang/IllegalStateException")))) := by
  refine zMet.of' [some (zr (some (L 0))), some (zi y)] hl0 (by decide) rfl (Nat.le_of_ble_eq_true rfl) rfl ?_
  intro X C N hR hN0 hX F
  subst hX
  obtain ⟨hX0, hV, hK, hU, hQ, hF⟩ := id hR1
  obtain ⟨hS, hT, hG, hRR, hLL, hA, hday, hpl, hO, hAc⟩ := id hX0
  refine z_iload_n C rfl dX4_rated_0 ?_
  refine z_iconst 0 (by decide) C dX4_rated_1 ?_
  refine z_iconst 5 (by decide) C dX4_rated_2 ?_
  refine z_callS 3 [zi y, zi 0, zi 5] C (C_needRange hl0 y 0 5) rfl (zgoodS LWc_good wc145 wc146 wc58 wc147) rfl rfl rfl (by decide +kernel) rfl (by rw [hR]; exact ⟨Nat.le_of_ble_eq_true rfl, Nat.le_of_ble_eq_true rfl⟩) (by rw [hR]; exact ⟨Nat.le_of_ble_eq_true rfl, Nat.le_of_ble_eq_true rfl⟩) (Nat.le_of_ble_eq_true rfl) dX4_rated_3 (fun v3 S3 h3 => ?_) (fun E3 S3 h3 => ?_)
  · obtain ⟨lo3, hi3, rfl, q3⟩ := h3
    subst S3
    refine z_aload_n C rfl dX4_rated_6 ?_
    refine z_iconst 1 (by decide) C dX4_rated_7 ?_
    refine z_iload_n C rfl dX4_rated_8 ?_
    refine z_null C dX4_rated_9 ?_
    refine z_null C dX4_rated_10 ?_
    refine z_callC 4 [zi 1, zi y, zr none, zr none] C rfl (C_addRule hl0 hR1 (kd := 1) (x54 := y) (x55 := 0) (asked := y) (sz := 1) (g := 0) (fun b hb => by cases hb) (fun b hb => by cases hb) (by rw [if_neg (by decide), if_neg (by decide)]) (fun q => absurd q (by decide)) (fun q => absurd q (by decide)) rfl (by unfold lsNew rls; rw [if_neg (by decide), if_neg (by decide), if_neg (by decide), if_neg (by decide)]; exact (Int32.or_zero).trans (Int32.or_zero)) ⟨1, by decide, rfl⟩ (fun q => absurd q (by decide)) (fun q => absurd q (by decide)) (fun q => absurd q (by decide)) ⟨1, rfl, by decide, by decide⟩) rfl (zgoodV LWc_good wc199 wc200 wc201 wc58 wc202) rfl rfl rfl (by decide +kernel) rfl (by rw [hR]; exact ⟨Nat.le_of_ble_eq_true rfl, Nat.le_of_ble_eq_true rfl⟩) hS.c (by rw [hR]; exact ⟨Nat.le_of_ble_eq_true rfl, Nat.le_of_ble_eq_true rfl⟩) (Nat.le_of_ble_eq_true rfl) dX4_rated_11 (fun v11 S11 h11 => ?_) (fun E11 S11 h11 => ?_)
    · obtain ⟨z1, z2, rfl, z3⟩ := h11
      refine z_ireturn C F (Nat.le_of_ble_eq_true rfl) (Nat.le_of_ble_eq_true rfl) dX4_rated_14 ?_
      exact ⟨lo3, hi3, z2, rfl, z3⟩
    · obtain ⟨z1, z2⟩ := h11
      rcases z2 with ⟨z2, rfl⟩ | ⟨z2, z4, rfl⟩
      · exact absurd (by decide) z2
      · exact z_out C F N (Nat.le_of_ble_eq_true rfl) (Nat.le_of_ble_eq_true rfl) ⟨z1, Or.inr ⟨lo3, hi3, z4, rfl⟩⟩
  · obtain ⟨e3, rfl, q3⟩ := h3
    subst S3
    exact z_out C F N (Nat.le_of_ble_eq_true rfl) (Nat.le_of_ble_eq_true rfl) ⟨hR1, Or.inl ⟨e3, rfl⟩⟩
set_option maxRecDepth 100000 in
set_option maxHeartbeats 4000000 in
theorem C_playedAtMost {l : Launch} (hl0 : l.stackTraces = false) {D : ZD} {J : Nat → Int64} {lk : ZL} {as : Nat → Nat} {S : ZM} {L T : Nat → Nat} (hR1 : cR D J lk as S L T) (y : Int32) : zMet l yX4_playedAtMost (Cond.code yX4_playedAtMost cX4_playedAtMost 2 (some .int) :: LWc) ({ frames := 7, cells := 3, slots := 19, locals := 111 } : Room) 3 19 [zr (some (L 0)), zi y] S (zPo (fun v S' => 0 ≤ y ∧ y ≤ 999 ∧ dR D < 40 ∧ v = some (zi (D 52 0)) ∧ cR (opRule D 2 y 0 1) J lk (opAs D as 0) S' L T) (fun E S' => cR D J lk as S' L T ∧ ((¬ (0 ≤ y ∧ y ≤ 999) ∧ E = "java/lang/IllegalArgumentException") ∨ (0 ≤ y ∧ y ≤ 999 ∧ ¬ D 52 0 < 40 ∧ E = "java/lang/IllegalStateException")))) := by
  refine zMet.of' [some (zr (some (L 0))), some (zi y)] hl0 (by decide) rfl (Nat.le_of_ble_eq_true rfl) rfl ?_
  intro X C N hR hN0 hX F
  subst hX
  obtain ⟨hX0, hV, hK, hU, hQ, hF⟩ := id hR1
  obtain ⟨hS, hT, hG, hRR, hLL, hA, hday, hpl, hO, hAc⟩ := id hX0
  refine z_iload_n C rfl dX4_playedAtMost_0 ?_
  refine z_iconst 0 (by decide) C dX4_playedAtMost_1 ?_
  refine z_sipush 999 (by decide) C dX4_playedAtMost_2 ?_
  refine z_callS 3 [zi y, zi 0, zi 999] C (C_needRange hl0 y 0 999) rfl (zgoodS LWc_good wc145 wc146 wc58 wc147) rfl rfl rfl (by decide +kernel) rfl (by rw [hR]; exact ⟨Nat.le_of_ble_eq_true rfl, Nat.le_of_ble_eq_true rfl⟩) (by rw [hR]; exact ⟨Nat.le_of_ble_eq_true rfl, Nat.le_of_ble_eq_true rfl⟩) (Nat.le_of_ble_eq_true rfl) dX4_playedAtMost_5 (fun v5 S5 h5 => ?_) (fun E5 S5 h5 => ?_)
  · obtain ⟨lo5, hi5, rfl, q5⟩ := h5
    subst S5
    refine z_aload_n C rfl dX4_playedAtMost_8 ?_
    refine z_iconst 2 (by decide) C dX4_playedAtMost_9 ?_
    refine z_iload_n C rfl dX4_playedAtMost_10 ?_
    refine z_null C dX4_playedAtMost_11 ?_
    refine z_null C dX4_playedAtMost_12 ?_
    refine z_callC 4 [zi 2, zi y, zr none, zr none] C rfl (C_addRule hl0 hR1 (kd := 2) (x54 := y) (x55 := 0) (asked := y) (sz := 1) (g := 0) (fun b hb => by cases hb) (fun b hb => by cases hb) (by rw [if_neg (by decide), if_neg (by decide)]) (fun q => absurd q (by decide)) (fun q => absurd q (by decide)) rfl (by unfold lsNew rls; rw [if_neg (by decide), if_neg (by decide), if_neg (by decide), if_neg (by decide)]; exact (Int32.or_zero).trans (Int32.or_zero)) ⟨2, by decide, rfl⟩ (fun q => absurd q (by decide)) (fun q => absurd q (by decide)) (fun q => absurd q (by decide)) ⟨1, rfl, by decide, by decide⟩) rfl (zgoodV LWc_good wc199 wc200 wc201 wc58 wc202) rfl rfl rfl (by decide +kernel) rfl (by rw [hR]; exact ⟨Nat.le_of_ble_eq_true rfl, Nat.le_of_ble_eq_true rfl⟩) hS.c (by rw [hR]; exact ⟨Nat.le_of_ble_eq_true rfl, Nat.le_of_ble_eq_true rfl⟩) (Nat.le_of_ble_eq_true rfl) dX4_playedAtMost_13 (fun v13 S13 h13 => ?_) (fun E13 S13 h13 => ?_)
    · obtain ⟨z1, z2, rfl, z3⟩ := h13
      refine z_ireturn C F (Nat.le_of_ble_eq_true rfl) (Nat.le_of_ble_eq_true rfl) dX4_playedAtMost_16 ?_
      exact ⟨lo5, hi5, z2, rfl, z3⟩
    · obtain ⟨z1, z2⟩ := h13
      rcases z2 with ⟨z2, rfl⟩ | ⟨z2, z4, rfl⟩
      · exact absurd (by decide) z2
      · exact z_out C F N (Nat.le_of_ble_eq_true rfl) (Nat.le_of_ble_eq_true rfl) ⟨z1, Or.inr ⟨lo5, hi5, z4, rfl⟩⟩
  · obtain ⟨e5, rfl, q5⟩ := h5
    subst S5
    exact z_out C F N (Nat.le_of_ble_eq_true rfl) (Nat.le_of_ble_eq_true rfl) ⟨hR1, Or.inl ⟨e5, rfl⟩⟩
set_option maxRecDepth 100000 in
set_option maxHeartbeats 4000000 in
theorem C_asLongAs {l : Launch} (hl0 : l.stackTraces = false) {D : ZD} {J : Nat → Int64} {lk : ZL} {as : Nat → Nat} {S : ZM} {L T : Nat → Nat} (hR1 : cR D J lk as S L T) (y : Int32) : zMet l yX4_asLongAs (Cond.code yX4_asLongAs cX4_asLongAs 2 (some .int) :: LWc) ({ frames := 7, cells := 3, slots := 19, locals := 111 } : Room) 3 19 [zr (some (L 0)), zi y] S (zPo (fun v S' => 1 ≤ y ∧ y ≤ 999 ∧ dR D < 40 ∧ v = some (zi (D 52 0)) ∧ cR (opRule D 3 y 0 1) J lk (opAs D as 0) S' L T) (fun E S' => cR D J lk as S' L T ∧ ((¬ (1 ≤ y ∧ y ≤ 999) ∧ E = "java/lang/IllegalArgumentException") ∨ (1 ≤ y ∧ y ≤ 999 ∧ ¬ D 52 0 < 40 ∧ E = "java/lang/IllegalStateException")))) := by
  refine zMet.of' [some (zr (some (L 0))), some (zi y)] hl0 (by decide) rfl (Nat.le_of_ble_eq_true rfl) rfl ?_
  intro X C N hR hN0 hX F
  subst hX
  obtain ⟨hX0, hV, hK, hU, hQ, hF⟩ := id hR1
  obtain ⟨hS, hT, hG, hRR, hLL, hA, hday, hpl, hO, hAc⟩ := id hX0
  refine z_iload_n C rfl dX4_asLongAs_0 ?_
  refine z_iconst 1 (by decide) C dX4_asLongAs_1 ?_
  refine z_sipush 999 (by decide) C dX4_asLongAs_2 ?_
  refine z_callS 3 [zi y, zi 1, zi 999] C (C_needRange hl0 y 1 999) rfl (zgoodS LWc_good wc145 wc146 wc58 wc147) rfl rfl rfl (by decide +kernel) rfl (by rw [hR]; exact ⟨Nat.le_of_ble_eq_true rfl, Nat.le_of_ble_eq_true rfl⟩) (by rw [hR]; exact ⟨Nat.le_of_ble_eq_true rfl, Nat.le_of_ble_eq_true rfl⟩) (Nat.le_of_ble_eq_true rfl) dX4_asLongAs_5 (fun v5 S5 h5 => ?_) (fun E5 S5 h5 => ?_)
  · obtain ⟨lo5, hi5, rfl, q5⟩ := h5
    subst S5
    refine z_aload_n C rfl dX4_asLongAs_8 ?_
    refine z_iconst 3 (by decide) C dX4_asLongAs_9 ?_
    refine z_iload_n C rfl dX4_asLongAs_10 ?_
    refine z_null C dX4_asLongAs_11 ?_
    refine z_null C dX4_asLongAs_12 ?_
    refine z_callC 4 [zi 3, zi y, zr none, zr none] C rfl (C_addRule hl0 hR1 (kd := 3) (x54 := y) (x55 := 0) (asked := y) (sz := 1) (g := 0) (fun b hb => by cases hb) (fun b hb => by cases hb) (by rw [if_neg (by decide), if_neg (by decide)]) (fun q => absurd q (by decide)) (fun q => absurd q (by decide)) rfl (by unfold lsNew rls; rw [if_neg (by decide), if_neg (by decide), if_neg (by decide), if_neg (by decide)]; exact (Int32.or_zero).trans (Int32.or_zero)) ⟨3, by decide, rfl⟩ (fun q => absurd q (by decide)) (fun q => absurd q (by decide)) (fun q => absurd q (by decide)) ⟨1, rfl, by decide, by decide⟩) rfl (zgoodV LWc_good wc199 wc200 wc201 wc58 wc202) rfl rfl rfl (by decide +kernel) rfl (by rw [hR]; exact ⟨Nat.le_of_ble_eq_true rfl, Nat.le_of_ble_eq_true rfl⟩) hS.c (by rw [hR]; exact ⟨Nat.le_of_ble_eq_true rfl, Nat.le_of_ble_eq_true rfl⟩) (Nat.le_of_ble_eq_true rfl) dX4_asLongAs_13 (fun v13 S13 h13 => ?_) (fun E13 S13 h13 => ?_)
    · obtain ⟨z1, z2, rfl, z3⟩ := h13
      refine z_ireturn C F (Nat.le_of_ble_eq_true rfl) (Nat.le_of_ble_eq_true rfl) dX4_asLongAs_16 ?_
      exact ⟨lo5, hi5, z2, rfl, z3⟩
    · obtain ⟨z1, z2⟩ := h13
      rcases z2 with ⟨z2, rfl⟩ | ⟨z2, z4, rfl⟩
      · exact absurd (by decide) z2
      · exact z_out C F N (Nat.le_of_ble_eq_true rfl) (Nat.le_of_ble_eq_true rfl) ⟨z1, Or.inr ⟨lo5, hi5, z4, rfl⟩⟩
  · obtain ⟨e5, rfl, q5⟩ := h5
    subst S5
    exact z_out C F N (Nat.le_of_ble_eq_true rfl) (Nat.le_of_ble_eq_true rfl) ⟨hR1, Or.inl ⟨e5, rfl⟩⟩
set_option maxRecDepth 100000 in
set_option maxHeartbeats 4000000 in
theorem C_playedWithin {l : Launch} (hl0 : l.stackTraces = false) {D : ZD} {J : Nat → Int64} {lk : ZL} {as : Nat → Nat} {S : ZM} {L T : Nat → Nat} (hR1 : cR D J lk as S L T) (y : Int32) : zMet l yX4_playedWithin (Cond.code yX4_playedWithin cX4_playedWithin 2 (some .int) :: LWc) ({ frames := 7, cells := 3, slots := 19, locals := 111 } : Room) 3 19 [zr (some (L 0)), zi y] S (zPo (fun v S' => 0 ≤ y ∧ y ≤ 999 ∧ dR D < 40 ∧ v = some (zi (D 52 0)) ∧ cR (opRule D 4 y 0 1) J lk (opAs D as 0) S' L T) (fun E S' => cR D J lk as S' L T ∧ ((¬ (0 ≤ y ∧ y ≤ 999) ∧ E = "java/lang/IllegalArgumentException") ∨ (0 ≤ y ∧ y ≤ 999 ∧ ¬ D 52 0 < 40 ∧ E = "java/lang/IllegalStateException")))) := by
  refine zMet.of' [some (zr (some (L 0))), some (zi y)] hl0 (by decide) rfl (Nat.le_of_ble_eq_true rfl) rfl ?_
  intro X C N hR hN0 hX F
  subst hX
  obtain ⟨hX0, hV, hK, hU, hQ, hF⟩ := id hR1
  obtain ⟨hS, hT, hG, hRR, hLL, hA, hday, hpl, hO, hAc⟩ := id hX0
  refine z_iload_n C rfl dX4_playedWithin_0 ?_
  refine z_iconst 0 (by decide) C dX4_playedWithin_1 ?_
  refine z_sipush 999 (by decide) C dX4_playedWithin_2 ?_
  refine z_callS 3 [zi y, zi 0, zi 999] C (C_needRange hl0 y 0 999) rfl (zgoodS LWc_good wc145 wc146 wc58 wc147) rfl rfl rfl (by decide +kernel) rfl (by rw [hR]; exact ⟨Nat.le_of_ble_eq_true rfl, Nat.le_of_ble_eq_true rfl⟩) (by rw [hR]; exact ⟨Nat.le_of_ble_eq_true rfl, Nat.le_of_ble_eq_true rfl⟩) (Nat.le_of_ble_eq_true rfl) dX4_playedWithin_5 (fun v5 S5 h5 => ?_) (fun E5 S5 h5 => ?_)
  · obtain ⟨lo5, hi5, rfl, q5⟩ := h5
    subst S5
    refine z_aload_n C rfl dX4_playedWithin_8 ?_
    refine z_iconst 4 (by decide) C dX4_playedWithin_9 ?_
    refine z_iload_n C rfl dX4_playedWithin_10 ?_
    refine z_null C dX4_playedWithin_11 ?_
    refine z_null C dX4_playedWithin_12 ?_
    refine z_callC 4 [zi 4, zi y, zr none, zr none] C rfl (C_addRule hl0 hR1 (kd := 4) (x54 := y) (x55 := 0) (asked := y) (sz := 1) (g := 0) (fun b hb => by cases hb) (fun b hb => by cases hb) (by rw [if_neg (by decide), if_neg (by decide)]) (fun q => absurd q (by decide)) (fun q => absurd q (by decide)) rfl (by unfold lsNew rls; rw [if_neg (by decide), if_neg (by decide), if_neg (by decide), if_neg (by decide)]; exact (Int32.or_zero).trans (Int32.or_zero)) ⟨4, by decide, rfl⟩ (fun q => absurd q (by decide)) (fun q => absurd q (by decide)) (fun q => absurd q (by decide)) ⟨1, rfl, by decide, by decide⟩) rfl (zgoodV LWc_good wc199 wc200 wc201 wc58 wc202) rfl rfl rfl (by decide +kernel) rfl (by rw [hR]; exact ⟨Nat.le_of_ble_eq_true rfl, Nat.le_of_ble_eq_true rfl⟩) hS.c (by rw [hR]; exact ⟨Nat.le_of_ble_eq_true rfl, Nat.le_of_ble_eq_true rfl⟩) (Nat.le_of_ble_eq_true rfl) dX4_playedWithin_13 (fun v13 S13 h13 => ?_) (fun E13 S13 h13 => ?_)
    · obtain ⟨z1, z2, rfl, z3⟩ := h13
      refine z_ireturn C F (Nat.le_of_ble_eq_true rfl) (Nat.le_of_ble_eq_true rfl) dX4_playedWithin_16 ?_
      exact ⟨lo5, hi5, z2, rfl, z3⟩
    · obtain ⟨z1, z2⟩ := h13
      rcases z2 with ⟨z2, rfl⟩ | ⟨z2, z4, rfl⟩
      · exact absurd (by decide) z2
      · exact z_out C F N (Nat.le_of_ble_eq_true rfl) (Nat.le_of_ble_eq_true rfl) ⟨z1, Or.inr ⟨lo5, hi5, z4, rfl⟩⟩
  · obtain ⟨e5, rfl, q5⟩ := h5
    subst S5
    exact z_out C F N (Nat.le_of_ble_eq_true rfl) (Nat.le_of_ble_eq_true rfl) ⟨hR1, Or.inl ⟨e5, rfl⟩⟩
set_option maxRecDepth 100000 in
set_option maxHeartbeats 4000000 in
theorem C_hasTag {l : Launch} (hl0 : l.stackTraces = false) {D : ZD} {J : Nat → Int64} {lk : ZL} {as : Nat → Nat} {S : ZM} {L T : Nat → Nat} (hR1 : cR D J lk as S L T) (x : Int32) : zMet l yX4_hasTag (Cond.code yX4_hasTag cX4_hasTag 2 (some .int) :: LWc) ({ frames := 7, cells := 3, slots := 19, locals := 111 } : Room) 3 19 [zr (some (L 0)), zi x] S (zPo (fun v S' => ∃ g : Nat, g < 16 ∧ g < dG D ∧ x = nI g ∧ D 51 g = 0 ∧ dR D < 40 ∧ v = some (zi (D 52 0)) ∧ cR (opRule D 0 (nI g) 0 1) J lk (opAs D as g) S' L T) (fun E S' => cR D J lk as S' L T ∧ ((¬ hasTg D x ∧ E = "java/util/NoSuchElementException") ∨ (hasTg D x ∧ ¬ D 52 0 < 40 ∧ E = "java/lang/IllegalStateException")))) := by
  refine zMet.of' [some (zr (some (L 0))), some (zi x)] hl0 (by decide) rfl (Nat.le_of_ble_eq_true rfl) rfl ?_
  intro X C N hR hN0 hX F
  subst hX
  obtain ⟨hX0, hV, hK, hU, hQ, hF⟩ := id hR1
  obtain ⟨hS, hT, hG, hRR, hLL, hA, hday, hpl, hO, hAc⟩ := id hX0
  refine z_aload_n C rfl dX4_hasTag_0 ?_
  refine z_iconst 0 (by decide) C dX4_hasTag_1 ?_
  refine z_aload_n C rfl dX4_hasTag_2 ?_
  refine z_iload_n C rfl dX4_hasTag_3 ?_
  refine z_callC 1 [zi x] C rfl (C_needTag hl0 hS hG.k x) rfl (zgoodV LWc_good wc168 wc169 wc170 wc58 wc171) rfl rfl rfl (by decide +kernel) rfl (by rw [hR]; exact ⟨Nat.le_of_ble_eq_true rfl, Nat.le_of_ble_eq_true rfl⟩) hS.c (by rw [hR]; exact ⟨Nat.le_of_ble_eq_true rfl, Nat.le_of_ble_eq_true rfl⟩) (Nat.le_of_ble_eq_true rfl) dX4_hasTag_4 (fun v4 S4 h4 => ?_) (fun E4 S4 h4 => ?_)
  · obtain ⟨b9, e4, z4, rfl, q4⟩ := h4
    subst S4
    obtain ⟨g, hg4, hgG4, ex4, h51_4, hl4, ea4, k4_4, n10_4⟩ := tG_some hR1 e4 z4
    refine zg2_number C (fun w h => List.mem_cons_of_mem _ (uc_wsX20 w h)) k4_4 (List.mem_cons_of_mem _ wc61) dX4_hasTag_7 ?_
    refine z_int n10_4 ?_
    refine z_null C dX4_hasTag_10 ?_
    refine z_null C dX4_hasTag_11 ?_
    refine z_callC 4 [zi 0, zi (nI g), zr none, zr none] C rfl (C_addRule hl0 hR1 (kd := 0) (x54 := nI g) (x55 := 0) (asked := nI g) (sz := 1) (g := g) (fun b hb => by cases hb) (fun b hb => by cases hb) (if_pos rfl).symm (fun q => absurd q (by decide)) (fun q => absurd q (by decide)) rfl (by unfold lsNew rls; rw [if_neg (by decide), if_neg (by decide), if_neg (by decide), if_neg (by decide)]; exact (Int32.or_zero).trans (Int32.or_zero)) ⟨0, by decide, rfl⟩ (fun _ => ⟨hgG4, rfl, hl4⟩) (fun q => absurd q (by decide)) (fun q => absurd q (by decide)) ⟨1, rfl, by decide, by decide⟩) rfl (zgoodV LWc_good wc199 wc200 wc201 wc58 wc202) rfl rfl rfl (by decide +kernel) rfl (by rw [hR]; exact ⟨Nat.le_of_ble_eq_true rfl, Nat.le_of_ble_eq_true rfl⟩) hS.c (by rw [hR]; exact ⟨Nat.le_of_ble_eq_true rfl, Nat.le_of_ble_eq_true rfl⟩) (Nat.le_of_ble_eq_true rfl) dX4_hasTag_12 (fun v12 S12 h12 => ?_) (fun E12 S12 h12 => ?_)
    · obtain ⟨z1, z2, rfl, z3⟩ := h12
      refine z_ireturn C F (Nat.le_of_ble_eq_true rfl) (Nat.le_of_ble_eq_true rfl) dX4_hasTag_15 ?_
      exact ⟨g, hg4, hgG4, ex4, h51_4, z2, rfl, z3⟩
    · obtain ⟨z1, z2⟩ := h12
      rcases z2 with ⟨z2, rfl⟩ | ⟨z2, z4, rfl⟩
      · exact absurd (by decide) z2
      · exact z_out C F N (Nat.le_of_ble_eq_true rfl) (Nat.le_of_ble_eq_true rfl) ⟨z1, Or.inr ⟨⟨g, hg4, hgG4, ex4, h51_4⟩, z4, rfl⟩⟩
  · obtain ⟨e4, rfl, q4⟩ := h4
    subst S4
    exact z_out C F N (Nat.le_of_ble_eq_true rfl) (Nat.le_of_ble_eq_true rfl) ⟨hR1, Or.inl ⟨tG_none hR1 e4, rfl⟩⟩
set_option maxRecDepth 100000 in
set_option maxHeartbeats 4000000 in
theorem C_inList {l : Launch} (hl0 : l.stackTraces = false) {D : ZD} {J : Nat → Int64} {lk : ZL} {as : Nat → Nat} {S : ZM} {L T : Nat → Nat} (hR1 : cR D J lk as S L T) (x : Int32) : zMet l yX4_inList (Cond.code yX4_inList cX4_inList 2 (some .int) :: LWc) ({ frames := 7, cells := 3, slots := 19, locals := 111 } : Room) 3 19 [zr (some (L 0)), zi x] S (zPo (fun v S' => hasLs D x ∧ dR D < 40 ∧ v = some (zi (D 52 0)) ∧ cR (opRule D 5 x 0 1) J lk (opAs D as 0) S' L T) (fun E S' => cR D J lk as S' L T ∧ ((¬ hasLs D x ∧ E = "java/util/NoSuchElementException") ∨ (hasLs D x ∧ ¬ D 52 0 < 40 ∧ E = "java/lang/IllegalStateException")))) := by
  refine zMet.of' [some (zr (some (L 0))), some (zi x)] hl0 (by decide) rfl (Nat.le_of_ble_eq_true rfl) rfl ?_
  intro X C N hR hN0 hX F
  subst hX
  obtain ⟨hX0, hV, hK, hU, hQ, hF⟩ := id hR1
  obtain ⟨hS, hT, hG, hRR, hLL, hA, hday, hpl, hO, hAc⟩ := id hX0
  refine z_aload_n C rfl dX4_inList_0 ?_
  refine z_iload_n C rfl dX4_inList_1 ?_
  refine z_callC 1 [zi x] C rfl (C_needList hl0 hS x) rfl (zgoodV LWc_good wc203 wc204 wc205 wc58 wc206) rfl rfl rfl (by decide +kernel) rfl (by rw [hR]; exact ⟨Nat.le_of_ble_eq_true rfl, Nat.le_of_ble_eq_true rfl⟩) hS.c (by rw [hR]; exact ⟨Nat.le_of_ble_eq_true rfl, Nat.le_of_ble_eq_true rfl⟩) (Nat.le_of_ble_eq_true rfl) dX4_inList_2 (fun v2 S2 h2 => ?_) (fun E2 S2 h2 => ?_)
  · obtain ⟨l9, e2, rfl, q2⟩ := h2
    subst S2
    obtain ⟨i, rr, hi2, hl2, ex2, ea2, k2_2, m0_2, er2, n1_2, n2_2⟩ := tL_some hLL e2
    refine z_pop rfl C dX4_inList_5 ?_
    refine z_aload_n C rfl dX4_inList_6 ?_
    refine z_iconst 5 (by decide) C dX4_inList_7 ?_
    refine z_iload_n C rfl dX4_inList_8 ?_
    refine z_null C dX4_inList_9 ?_
    refine z_null C dX4_inList_10 ?_
    refine z_callC 4 [zi 5, zi x, zr none, zr none] C rfl (C_addRule hl0 hR1 (kd := 5) (x54 := x) (x55 := 0) (asked := x) (sz := 1) (g := 0) (fun b hb => by cases hb) (fun b hb => by cases hb) (by rw [if_neg (by decide), if_neg (by decide)]) (fun q => absurd q (by decide)) (fun q => absurd q (by decide)) rfl (by unfold lsNew rls; rw [if_pos rfl, if_pos rfl]; exact (Int32.or_zero).trans (Int32.or_zero)) ⟨5, by decide, rfl⟩ (fun q => absurd q (by decide)) (fun _ => ⟨i, hl2, ex2⟩) (fun q => absurd q (by decide)) ⟨1, rfl, by decide, by decide⟩) rfl (zgoodV LWc_good wc199 wc200 wc201 wc58 wc202) rfl rfl rfl (by decide +kernel) rfl (by rw [hR]; exact ⟨Nat.le_of_ble_eq_true rfl, Nat.le_of_ble_eq_true rfl⟩) hS.c (by rw [hR]; exact ⟨Nat.le_of_ble_eq_true rfl, Nat.le_of_ble_eq_true rfl⟩) (Nat.le_of_ble_eq_true rfl) dX4_inList_11 (fun v11 S11 h11 => ?_) (fun E11 S11 h11 => ?_)
    · obtain ⟨z1, z2, rfl, z3⟩ := h11
      refine z_ireturn C F (Nat.le_of_ble_eq_true rfl) (Nat.le_of_ble_eq_true rfl) dX4_inList_14 ?_
      exact ⟨⟨i, hi2, hl2, ex2⟩, z2, rfl, z3⟩
    · obtain ⟨z1, z2⟩ := h11
      rcases z2 with ⟨z2, rfl⟩ | ⟨z2, z4, rfl⟩
      · exact absurd (by decide) z2
      · exact z_out C F N (Nat.le_of_ble_eq_true rfl) (Nat.le_of_ble_eq_true rfl) ⟨z1, Or.inr ⟨⟨i, hi2, hl2, ex2⟩, z4, rfl⟩⟩
  · obtain ⟨e2, rfl, q2⟩ := h2
    subst S2
    exact z_out C F N (Nat.le_of_ble_eq_true rfl) (Nat.le_of_ble_eq_true rfl) ⟨hR1, Or.inl ⟨tL_none hLL e2, rfl⟩⟩
set_option maxRecDepth 100000 in
set_option maxHeartbeats 4000000 in
theorem C_both {l : Launch} (hl0 : l.stackTraces = false) {D : ZD} {J : Nat → Int64} {lk : ZL} {as : Nat → Nat} {S : ZM} {L T : Nat → Nat} (hR1 : cR D J lk as S L T) (x y : Int32) : zMet l yX4_both (Cond.code yX4_both cX4_both 3 (some .int) :: LWc) ({ frames := 7, cells := 4, slots := 25, locals := 111 } : Room) 4 25 [zr (some (L 0)), zi x, zi y] S (zPo (fun v S' => ∃ r s : Nat, r < 40 ∧ r < dR D ∧ x = nI r ∧ s < 40 ∧ s < dR D ∧ y = nI s ∧ 1 + D 56 r + D 56 s ≤ 15 ∧ dR D < 40 ∧ v = some (zi (D 52 0)) ∧ cR (opRule D 6 (nI r) (nI s) (1 + D 56 r + D 56 s)) J lk (opAs D as 0) S' L T) (fun E S' => cR D J lk as S' L T ∧ ((¬ (hasRl D x ∧ hasRl D y) ∧ E = "java/util/NoSuchElementException") ∨ (∃ r s : Nat, r < 40 ∧ r < dR D ∧ x = nI r ∧ s < 40 ∧ s < dR D ∧ y = nI s ∧ ((¬ 1 + D 56 r + D 56 s ≤ 15 ∧ E = "java/lang/UnsupportedOperationException") ∨ (1 + D 56 r + D 56 s ≤ 15 ∧ ¬ D 52 0 < 40 ∧ E = "java/lang/IllegalStateException")))))) := by
  refine zMet.of' [some (zr (some (L 0))), some (zi x), some (zi y)] hl0 (by decide) rfl (Nat.le_of_ble_eq_true rfl) rfl ?_
  intro X C N hR hN0 hX F
  subst hX
  obtain ⟨hX0, hV, hK, hU, hQ, hF⟩ := id hR1
  obtain ⟨hS, hT, hG, hRR, hLL, hA, hday, hpl, hO, hAc⟩ := id hX0
  refine z_aload_n C rfl dX4_both_0 ?_
  refine z_bipush 6 (by decide) C dX4_both_1 ?_
  refine z_iconst 0 (by decide) C dX4_both_3 ?_
  refine z_aload_n C rfl dX4_both_4 ?_
  refine z_iload_n C rfl dX4_both_5 ?_
  refine z_callC 1 [zi x] C rfl (C_needRule hl0 hS x) rfl (zgoodV LWc_good wc207 wc208 wc209 wc58 wc210) rfl rfl rfl (by decide +kernel) rfl (by rw [hR]; exact ⟨Nat.le_of_ble_eq_true rfl, Nat.le_of_ble_eq_true rfl⟩) hS.c (by rw [hR]; exact ⟨Nat.le_of_ble_eq_true rfl, Nat.le_of_ble_eq_true rfl⟩) (Nat.le_of_ble_eq_true rfl) dX4_both_6 (fun v6 S6 h6 => ?_) (fun E6 S6 h6 => ?_)
  · obtain ⟨r9, e6, rfl, q6⟩ := h6
    subst S6
    obtain ⟨r, hr6, hl6, ex6, ea6, k3_6, n3_6, n8_6, n9_6⟩ := tR_some hRR e6
    refine z_aload_n C rfl dX4_both_9 ?_
    refine z_iload_n C rfl dX4_both_10 ?_
    refine z_callC 1 [zi y] C rfl (C_needRule hl0 hS y) rfl (zgoodV LWc_good wc207 wc208 wc209 wc58 wc210) rfl rfl rfl (by decide +kernel) rfl (by rw [hR]; exact ⟨Nat.le_of_ble_eq_true rfl, Nat.le_of_ble_eq_true rfl⟩) hS.c (by rw [hR]; exact ⟨Nat.le_of_ble_eq_true rfl, Nat.le_of_ble_eq_true rfl⟩) (Nat.le_of_ble_eq_true rfl) dX4_both_11 (fun v11 S11 h11 => ?_) (fun E11 S11 h11 => ?_)
    · obtain ⟨s9, e11, rfl, q11⟩ := h11
      subst S11
      obtain ⟨s, hr11, hl11, ex11, ea11, k3_11, n3_11, n8_11, n9_11⟩ := tR_some hRR e11
      have w5 : ∃ n : Nat, 1 + D 56 r + D 56 s = nI n ∧ 1 ≤ n ∧ n ≤ 31 := by
        obtain ⟨n1, en1, u1, u2⟩ := hQ.2.2.2.2.1 r hl6
        obtain ⟨n2, en2, u3, u4⟩ := hQ.2.2.2.2.1 s hl11
        exact ⟨1 + n1 + n2, by rw [en1, en2, show (1 : Int32) = nI 1 from rfl, nI_add, nI_add], by omega, by omega⟩
      refine z_callC 4 [zi 6, zi 0, zr (some r9), zr (some s9)] C rfl (C_addRule hl0 hR1 (kd := 6) (x54 := nI r) (x55 := nI s) (asked := 0) (sz := 1 + D 56 r + D 56 s) (g := 0) (fun b hb => by cases hb; exact k3_6) (fun b hb => by cases hb; exact k3_11) (by rw [if_neg (by decide), if_pos (by decide)]) (fun _ => by rw [ix, nI_clamp (by omega)]; exact ea6.symm) (fun _ => by rw [ix, nI_clamp (by omega)]; exact ea11.symm) (by show 1 + mI S 8 r9 + mI S 8 s9 = _; rw [n8_6, n8_11]) (by unfold lsNew; rw [if_neg (by decide), if_neg (by decide), if_pos (by decide), ix, ix, nI_clamp (by omega), nI_clamp (by omega)]; show 0 ||| mI S 9 r9 ||| mI S 9 s9 = _; rw [n9_6, n9_11, Int32.zero_or]) ⟨6, by decide, rfl⟩ (fun q => absurd q (by decide)) (fun q => absurd q (by decide)) (fun _ => ⟨r, s, hl6, hl11, rfl, rfl⟩) w5) rfl (zgoodV LWc_good wc199 wc200 wc201 wc58 wc202) rfl rfl rfl (by decide +kernel) rfl (by rw [hR]; exact ⟨Nat.le_of_ble_eq_true rfl, Nat.le_of_ble_eq_true rfl⟩) hS.c (by rw [hR]; exact ⟨Nat.le_of_ble_eq_true rfl, Nat.le_of_ble_eq_true rfl⟩) (Nat.le_of_ble_eq_true rfl) dX4_both_14 (fun v14 S14 h14 => ?_) (fun E14 S14 h14 => ?_)
      · obtain ⟨z1, z2, rfl, z3⟩ := h14
        refine z_ireturn C F (Nat.le_of_ble_eq_true rfl) (Nat.le_of_ble_eq_true rfl) dX4_both_17 ?_
        exact ⟨r, s, hr6, hl6, ex6, hr11, hl11, ex11, z1, z2, rfl, z3⟩
      · obtain ⟨z1, z2⟩ := h14
        rcases z2 with ⟨z2, rfl⟩ | ⟨z2, z4, rfl⟩
        · exact z_out C F N (Nat.le_of_ble_eq_true rfl) (Nat.le_of_ble_eq_true rfl) ⟨z1, Or.inr ⟨r, s, hr6, hl6, ex6, hr11, hl11, ex11, Or.inl ⟨z2, rfl⟩⟩⟩
        · exact z_out C F N (Nat.le_of_ble_eq_true rfl) (Nat.le_of_ble_eq_true rfl) ⟨z1, Or.inr ⟨r, s, hr6, hl6, ex6, hr11, hl11, ex11, Or.inr ⟨z2, z4, rfl⟩⟩⟩
    · obtain ⟨e11, rfl, q11⟩ := h11
      subst S11
      exact z_out C F N (Nat.le_of_ble_eq_true rfl) (Nat.le_of_ble_eq_true rfl) ⟨hR1, Or.inl ⟨fun q => tR_none hRR e11 q.2, rfl⟩⟩
  · obtain ⟨e6, rfl, q6⟩ := h6
    subst S6
    exact z_out C F N (Nat.le_of_ble_eq_true rfl) (Nat.le_of_ble_eq_true rfl) ⟨hR1, Or.inl ⟨fun q => tR_none hRR e6 q.1, rfl⟩⟩
set_option maxRecDepth 100000 in
set_option maxHeartbeats 4000000 in
theorem C_either {l : Launch} (hl0 : l.stackTraces = false) {D : ZD} {J : Nat → Int64} {lk : ZL} {as : Nat → Nat} {S : ZM} {L T : Nat → Nat} (hR1 : cR D J lk as S L T) (x y : Int32) : zMet l yX4_either (Cond.code yX4_either cX4_either 3 (some .int) :: LWc) ({ frames := 7, cells := 4, slots := 25, locals := 111 } : Room) 4 25 [zr (some (L 0)), zi x, zi y] S (zPo (fun v S' => ∃ r s : Nat, r < 40 ∧ r < dR D ∧ x = nI r ∧ s < 40 ∧ s < dR D ∧ y = nI s ∧ 1 + D 56 r + D 56 s ≤ 15 ∧ dR D < 40 ∧ v = some (zi (D 52 0)) ∧ cR (opRule D 7 (nI r) (nI s) (1 + D 56 r + D 56 s)) J lk (opAs D as 0) S' L T) (fun E S' => cR D J lk as S' L T ∧ ((¬ (hasRl D x ∧ hasRl D y) ∧ E = "java/util/NoSuchElementException") ∨ (∃ r s : Nat, r < 40 ∧ r < dR D ∧ x = nI r ∧ s < 40 ∧ s < dR D ∧ y = nI s ∧ ((¬ 1 + D 56 r + D 56 s ≤ 15 ∧ E = "java/lang/UnsupportedOperationException") ∨ (1 + D 56 r + D 56 s ≤ 15 ∧ ¬ D 52 0 < 40 ∧ E = "java/lang/IllegalStateException")))))) := by
  refine zMet.of' [some (zr (some (L 0))), some (zi x), some (zi y)] hl0 (by decide) rfl (Nat.le_of_ble_eq_true rfl) rfl ?_
  intro X C N hR hN0 hX F
  subst hX
  obtain ⟨hX0, hV, hK, hU, hQ, hF⟩ := id hR1
  obtain ⟨hS, hT, hG, hRR, hLL, hA, hday, hpl, hO, hAc⟩ := id hX0
  refine z_aload_n C rfl dX4_either_0 ?_
  refine z_bipush 7 (by decide) C dX4_either_1 ?_
  refine z_iconst 0 (by decide) C dX4_either_3 ?_
  refine z_aload_n C rfl dX4_either_4 ?_
  refine z_iload_n C rfl dX4_either_5 ?_
  refine z_callC 1 [zi x] C rfl (C_needRule hl0 hS x) rfl (zgoodV LWc_good wc207 wc208 wc209 wc58 wc210) rfl rfl rfl (by decide +kernel) rfl (by rw [hR]; exact ⟨Nat.le_of_ble_eq_true rfl, Nat.le_of_ble_eq_true rfl⟩) hS.c (by rw [hR]; exact ⟨Nat.le_of_ble_eq_true rfl, Nat.le_of_ble_eq_true rfl⟩) (Nat.le_of_ble_eq_true rfl) dX4_either_6 (fun v6 S6 h6 => ?_) (fun E6 S6 h6 => ?_)
  · obtain ⟨r9, e6, rfl, q6⟩ := h6
    subst S6
    obtain ⟨r, hr6, hl6, ex6, ea6, k3_6, n3_6, n8_6, n9_6⟩ := tR_some hRR e6
    refine z_aload_n C rfl dX4_either_9 ?_
    refine z_iload_n C rfl dX4_either_10 ?_
    refine z_callC 1 [zi y] C rfl (C_needRule hl0 hS y) rfl (zgoodV LWc_good wc207 wc208 wc209 wc58 wc210) rfl rfl rfl (by decide +kernel) rfl (by rw [hR]; exact ⟨Nat.le_of_ble_eq_true rfl, Nat.le_of_ble_eq_true rfl⟩) hS.c (by rw [hR]; exact ⟨Nat.le_of_ble_eq_true rfl, Nat.le_of_ble_eq_true rfl⟩) (Nat.le_of_ble_eq_true rfl) dX4_either_11 (fun v11 S11 h11 => ?_) (fun E11 S11 h11 => ?_)
    · obtain ⟨s9, e11, rfl, q11⟩ := h11
      subst S11
      obtain ⟨s, hr11, hl11, ex11, ea11, k3_11, n3_11, n8_11, n9_11⟩ := tR_some hRR e11
      have w5 : ∃ n : Nat, 1 + D 56 r + D 56 s = nI n ∧ 1 ≤ n ∧ n ≤ 31 := by
        obtain ⟨n1, en1, u1, u2⟩ := hQ.2.2.2.2.1 r hl6
        obtain ⟨n2, en2, u3, u4⟩ := hQ.2.2.2.2.1 s hl11
        exact ⟨1 + n1 + n2, by rw [en1, en2, show (1 : Int32) = nI 1 from rfl, nI_add, nI_add], by omega, by omega⟩
      refine z_callC 4 [zi 7, zi 0, zr (some r9), zr (some s9)] C rfl (C_addRule hl0 hR1 (kd := 7) (x54 := nI r) (x55 := nI s) (asked := 0) (sz := 1 + D 56 r + D 56 s) (g := 0) (fun b hb => by cases hb; exact k3_6) (fun b hb => by cases hb; exact k3_11) (by rw [if_neg (by decide), if_pos (by decide)]) (fun _ => by rw [ix, nI_clamp (by omega)]; exact ea6.symm) (fun _ => by rw [ix, nI_clamp (by omega)]; exact ea11.symm) (by show 1 + mI S 8 r9 + mI S 8 s9 = _; rw [n8_6, n8_11]) (by unfold lsNew; rw [if_neg (by decide), if_neg (by decide), if_pos (by decide), ix, ix, nI_clamp (by omega), nI_clamp (by omega)]; show 0 ||| mI S 9 r9 ||| mI S 9 s9 = _; rw [n9_6, n9_11, Int32.zero_or]) ⟨7, by decide, rfl⟩ (fun q => absurd q (by decide)) (fun q => absurd q (by decide)) (fun _ => ⟨r, s, hl6, hl11, rfl, rfl⟩) w5) rfl (zgoodV LWc_good wc199 wc200 wc201 wc58 wc202) rfl rfl rfl (by decide +kernel) rfl (by rw [hR]; exact ⟨Nat.le_of_ble_eq_true rfl, Nat.le_of_ble_eq_true rfl⟩) hS.c (by rw [hR]; exact ⟨Nat.le_of_ble_eq_true rfl, Nat.le_of_ble_eq_true rfl⟩) (Nat.le_of_ble_eq_true rfl) dX4_either_14 (fun v14 S14 h14 => ?_) (fun E14 S14 h14 => ?_)
      · obtain ⟨z1, z2, rfl, z3⟩ := h14
        refine z_ireturn C F (Nat.le_of_ble_eq_true rfl) (Nat.le_of_ble_eq_true rfl) dX4_either_17 ?_
        exact ⟨r, s, hr6, hl6, ex6, hr11, hl11, ex11, z1, z2, rfl, z3⟩
      · obtain ⟨z1, z2⟩ := h14
        rcases z2 with ⟨z2, rfl⟩ | ⟨z2, z4, rfl⟩
        · exact z_out C F N (Nat.le_of_ble_eq_true rfl) (Nat.le_of_ble_eq_true rfl) ⟨z1, Or.inr ⟨r, s, hr6, hl6, ex6, hr11, hl11, ex11, Or.inl ⟨z2, rfl⟩⟩⟩
        · exact z_out C F N (Nat.le_of_ble_eq_true rfl) (Nat.le_of_ble_eq_true rfl) ⟨z1, Or.inr ⟨r, s, hr6, hl6, ex6, hr11, hl11, ex11, Or.inr ⟨z2, z4, rfl⟩⟩⟩
    · obtain ⟨e11, rfl, q11⟩ := h11
      subst S11
      exact z_out C F N (Nat.le_of_ble_eq_true rfl) (Nat.le_of_ble_eq_true rfl) ⟨hR1, Or.inl ⟨fun q => tR_none hRR e11 q.2, rfl⟩⟩
  · obtain ⟨e6, rfl, q6⟩ := h6
    subst S6
    exact z_out C F N (Nat.le_of_ble_eq_true rfl) (Nat.le_of_ble_eq_true rfl) ⟨hR1, Or.inl ⟨fun q => tR_none hRR e6 q.1, rfl⟩⟩
set_option maxRecDepth 100000 in
set_option maxHeartbeats 4000000 in
theorem C_not {l : Launch} (hl0 : l.stackTraces = false) {D : ZD} {J : Nat → Int64} {lk : ZL} {as : Nat → Nat} {S : ZM} {L T : Nat → Nat} (hR1 : cR D J lk as S L T) (x : Int32) : zMet l yX4_not (Cond.code yX4_not cX4_not 2 (some .int) :: LWc) ({ frames := 7, cells := 3, slots := 19, locals := 111 } : Room) 3 19 [zr (some (L 0)), zi x] S (zPo (fun v S' => ∃ r : Nat, r < 40 ∧ r < dR D ∧ x = nI r ∧ 1 + D 56 r ≤ 15 ∧ dR D < 40 ∧ v = some (zi (D 52 0)) ∧ cR (opRule D 8 (nI r) (nI r) (1 + D 56 r)) J lk (opAs D as 0) S' L T) (fun E S' => cR D J lk as S' L T ∧ ((¬ hasRl D x ∧ E = "java/util/NoSuchElementException") ∨ (∃ r : Nat, r < 40 ∧ r < dR D ∧ x = nI r ∧ ((¬ 1 + D 56 r ≤ 15 ∧ E = "java/lang/UnsupportedOperationException") ∨ (1 + D 56 r ≤ 15 ∧ ¬ D 52 0 < 40 ∧ E = "java/lang/IllegalStateException")))))) := by
  refine zMet.of' [some (zr (some (L 0))), some (zi x)] hl0 (by decide) rfl (Nat.le_of_ble_eq_true rfl) rfl ?_
  intro X C N hR hN0 hX F
  subst hX
  obtain ⟨hX0, hV, hK, hU, hQ, hF⟩ := id hR1
  obtain ⟨hS, hT, hG, hRR, hLL, hA, hday, hpl, hO, hAc⟩ := id hX0
  refine z_aload_n C rfl dX4_not_0 ?_
  refine z_bipush 8 (by decide) C dX4_not_1 ?_
  refine z_iconst 0 (by decide) C dX4_not_3 ?_
  refine z_aload_n C rfl dX4_not_4 ?_
  refine z_iload_n C rfl dX4_not_5 ?_
  refine z_callC 1 [zi x] C rfl (C_needRule hl0 hS x) rfl (zgoodV LWc_good wc207 wc208 wc209 wc58 wc210) rfl rfl rfl (by decide +kernel) rfl (by rw [hR]; exact ⟨Nat.le_of_ble_eq_true rfl, Nat.le_of_ble_eq_true rfl⟩) hS.c (by rw [hR]; exact ⟨Nat.le_of_ble_eq_true rfl, Nat.le_of_ble_eq_true rfl⟩) (Nat.le_of_ble_eq_true rfl) dX4_not_6 (fun v6 S6 h6 => ?_) (fun E6 S6 h6 => ?_)
  · obtain ⟨r9, e6, rfl, q6⟩ := h6
    subst S6
    obtain ⟨r, hr6, hl6, ex6, ea6, k3_6, n3_6, n8_6, n9_6⟩ := tR_some hRR e6
    refine z_null C dX4_not_9 ?_
    have w5 : ∃ n : Nat, 1 + D 56 r = nI n ∧ 1 ≤ n ∧ n ≤ 31 := by
      obtain ⟨n1, en1, u1, u2⟩ := hQ.2.2.2.2.1 r hl6
      exact ⟨1 + n1, by rw [en1, show (1 : Int32) = nI 1 from rfl, nI_add], by omega, by omega⟩
    refine z_callC 4 [zi 8, zi 0, zr (some r9), zr none] C rfl (C_addRule hl0 hR1 (kd := 8) (x54 := nI r) (x55 := nI r) (asked := 0) (sz := 1 + D 56 r) (g := 0) (fun b hb => by cases hb; exact k3_6) (fun b hb => by cases hb) (by rw [if_neg (by decide), if_pos (by decide)]) (fun _ => by rw [ix, nI_clamp (by omega)]; exact ea6.symm) (fun q => absurd q (by decide)) (by show 1 + mI S 8 r9 + 0 = _; rw [n8_6, Int32.add_zero]) (by unfold lsNew; rw [if_neg (by decide), if_neg (by decide), if_neg (by decide), if_pos (by decide), ix, nI_clamp (by omega)]; show 0 ||| mI S 9 r9 ||| 0 = _; rw [n9_6, Int32.zero_or, Int32.or_zero]) ⟨8, by decide, rfl⟩ (fun q => absurd q (by decide)) (fun q => absurd q (by decide)) (fun _ => ⟨r, r, hl6, hl6, rfl, rfl⟩) w5) rfl (zgoodV LWc_good wc199 wc200 wc201 wc58 wc202) rfl rfl rfl (by decide +kernel) rfl (by rw [hR]; exact ⟨Nat.le_of_ble_eq_true rfl, Nat.le_of_ble_eq_true rfl⟩) hS.c (by rw [hR]; exact ⟨Nat.le_of_ble_eq_true rfl, Nat.le_of_ble_eq_true rfl⟩) (Nat.le_of_ble_eq_true rfl) dX4_not_10 (fun v10 S10 h10 => ?_) (fun E10 S10 h10 => ?_)
    · obtain ⟨z1, z2, rfl, z3⟩ := h10
      refine z_ireturn C F (Nat.le_of_ble_eq_true rfl) (Nat.le_of_ble_eq_true rfl) dX4_not_13 ?_
      exact ⟨r, hr6, hl6, ex6, z1, z2, rfl, z3⟩
    · obtain ⟨z1, z2⟩ := h10
      rcases z2 with ⟨z2, rfl⟩ | ⟨z2, z4, rfl⟩
      · exact z_out C F N (Nat.le_of_ble_eq_true rfl) (Nat.le_of_ble_eq_true rfl) ⟨z1, Or.inr ⟨r, hr6, hl6, ex6, Or.inl ⟨z2, rfl⟩⟩⟩
      · exact z_out C F N (Nat.le_of_ble_eq_true rfl) (Nat.le_of_ble_eq_true rfl) ⟨z1, Or.inr ⟨r, hr6, hl6, ex6, Or.inr ⟨z2, z4, rfl⟩⟩⟩
  · obtain ⟨e6, rfl, q6⟩ := h6
    subst S6
    exact z_out C F N (Nat.le_of_ble_eq_true rfl) (Nat.le_of_ble_eq_true rfl) ⟨hR1, Or.inl ⟨tR_none hRR e6, rfl⟩⟩
