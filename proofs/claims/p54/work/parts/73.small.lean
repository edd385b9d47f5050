/-! the law's small methods (laid by wip/p54/m73.py) -/
theorem pick_ok (z : Int32) {m : Nat} (h0 : 0 < m) (hm : m < 2 ^ 31) : ∃ j : Nat, j < m ∧ (z.toUInt32 >>> ((8 : Int32).toUInt32 &&& Int32.toUInt32 31)).toInt32 - (z.toUInt32 >>> ((8 : Int32).toUInt32 &&& Int32.toUInt32 31)).toInt32 / nI m * nI m = nI j := by
  have e : z = nI z.toBitVec.toNat := by
    apply Int32.toBitVec_inj.mp
    show z.toBitVec = BitVec.ofNat 32 z.toBitVec.toNat
    simp
  have hlt : z.toBitVec.toNat < 2 ^ 32 := z.toBitVec.isLt
  have hs : (z.toUInt32 >>> ((8 : Int32).toUInt32 &&& Int32.toUInt32 31)).toInt32 = nI (z.toBitVec.toNat / 2 ^ 8) := by
    conv => lhs; rw [e]
    exact pk_ushrN hlt 8 8 (by decide)
  rw [hs]
  have hq : z.toBitVec.toNat / 2 ^ 8 < 2 ^ 31 := by omega
  exact ⟨z.toBitVec.toNat / 2 ^ 8 % m, Nat.mod_lt _ h0, pk_rem hq h0 hm⟩
/-- the letter of an order of choice -/
def orI (x : Int32) : Int32 := if x = 0 then 115 else if x = 1 then 114 else if x = 2 then 112 else 110
def tlI (x : Int32) : Int32 := if x = 0 then 0 else 1
theorem tlI_b (b : Bool) : tlI (bI b) = bI b := by cases b <;> decide
/-- what a deed or a question answers: what the class answers, or the number of its exception -/
def WA (P : zP) (es : List (String × Int32)) : zP := zPo (fun v S' => (∃ z : Int32, P (.inl (some (zi z))) S' ∧ v = some (zi z)) ∨ (∃ (E : String) (k : Int32), P (.inr E) S' ∧ (E, k) ∈ es ∧ v = some (zi k))) (fun _ _ => False)
set_option maxRecDepth 100000 in
set_option maxHeartbeats 4000000 in
theorem L_cell {l : Launch} {sc : zSQ} (hl0 : l.stackTraces = false) (hN : sc.2.1 < 2 ^ 31) {S : ZM} (n : Nat) (hn : n < 2 ^ 31) : zMetL l sc yL_cell (Cond.code yL_cell cL_cell 3 (some .int) :: LWl) ({ frames := 0, cells := 0, slots := 0, locals := 0 } : Room) 0 0 [zr (some sc.1), zi (nI n)] S (zPo (fun v S' => ∃ z : Int32, v = some (zi z) ∧ S' = S) (fun _ _ => False)) := by
  refine zMetL.of [some (zr (some sc.1)), some (zi (nI n)), none] hl0 (by decide) rfl (Nat.le_of_ble_eq_true rfl) rfl ?_
  intro X C N Nc Sc hR hX F
  subst hX
  have hRc : (xR X).cells = 0 := by rw [hR]
  have hRs : (xR X).slots = 0 := by rw [hR]
  refine z_ldc C (List.mem_cons_of_mem _ wq0) dL_cell_0 ?_
  refine z_iload_n C rfl dL_cell_2 ?_
  refine z_aload_n C rfl dL_cell_3 ?_
  refine z_slen C Sc dL_cell_4 ?_
  refine z_icmp_ge 14 C dL_cell_5 (by decide) (fun c5 => ?_) (fun c5 => ?_)
  · refine z_iconst 0 (by decide) C dL_cell_14 ?_
    refine z_sipush 1009 (by decide) C dL_cell_15 ?_
    refine z_iload_n C rfl dL_cell_18 ?_
    refine z_imul C dL_cell_19 ?_
    refine z_iadd C dL_cell_20 ?_
    refine z_imul C dL_cell_21 ?_
    refine z_sipush 12345 (by decide) C dL_cell_22 ?_
    refine z_iadd C dL_cell_25 ?_
    refine z_istore_n [_, _, _] C (by decide) rfl dL_cell_26 ?_
    refine z_iload_n C rfl dL_cell_27 ?_
    refine z_iload_n C rfl dL_cell_28 ?_
    refine z_bipush 13 (by decide) C dL_cell_29 ?_
    refine z_iushr C dL_cell_31 ?_
    refine z_ixor C dL_cell_32 ?_
    refine z_ldc C (List.mem_cons_of_mem _ wq1) dL_cell_33 ?_
    refine z_imul C dL_cell_35 ?_
    refine z_istore_n [_, _, _] C (by decide) rfl dL_cell_36 ?_
    refine z_iload_n C rfl dL_cell_37 ?_
    refine z_iload_n C rfl dL_cell_38 ?_
    refine z_bipush 16 (by decide) C dL_cell_39 ?_
    refine z_iushr C dL_cell_41 ?_
    refine z_ixor C dL_cell_42 ?_
    refine z_ireturn C F (Nat.le_of_ble_eq_true rfl) (Nat.le_of_ble_eq_true rfl) dL_cell_43 ?_
    exact ⟨_, rfl, rfl⟩
  · refine z_aload_n C rfl dL_cell_8 ?_
    refine z_iload_n C rfl dL_cell_9 ?_
    refine z_sld C Sc (vp_in_nI (Nat.not_le.mp (fun q => c5 (nI_le q hn))) hN) dL_cell_10 ?_
    refine z_goto 15 C dL_cell_11 (by decide) ?_
    refine z_sipush 1009 (by decide) C dL_cell_15 ?_
    refine z_iload_n C rfl dL_cell_18 ?_
    refine z_imul C dL_cell_19 ?_
    refine z_iadd C dL_cell_20 ?_
    refine z_imul C dL_cell_21 ?_
    refine z_sipush 12345 (by decide) C dL_cell_22 ?_
    refine z_iadd C dL_cell_25 ?_
    refine z_istore_n [_, _, _] C (by decide) rfl dL_cell_26 ?_
    refine z_iload_n C rfl dL_cell_27 ?_
    refine z_iload_n C rfl dL_cell_28 ?_
    refine z_bipush 13 (by decide) C dL_cell_29 ?_
    refine z_iushr C dL_cell_31 ?_
    refine z_ixor C dL_cell_32 ?_
    refine z_ldc C (List.mem_cons_of_mem _ wq1) dL_cell_33 ?_
    refine z_imul C dL_cell_35 ?_
    refine z_istore_n [_, _, _] C (by decide) rfl dL_cell_36 ?_
    refine z_iload_n C rfl dL_cell_37 ?_
    refine z_iload_n C rfl dL_cell_38 ?_
    refine z_bipush 16 (by decide) C dL_cell_39 ?_
    refine z_iushr C dL_cell_41 ?_
    refine z_ixor C dL_cell_42 ?_
    refine z_ireturn C F (Nat.le_of_ble_eq_true rfl) (Nat.le_of_ble_eq_true rfl) dL_cell_43 ?_
    exact ⟨_, rfl, rfl⟩
set_option maxRecDepth 100000 in
set_option maxHeartbeats 4000000 in
theorem L_pick {l : Launch} {sc : zSQ} (hl0 : l.stackTraces = false) (hN : sc.2.1 < 2 ^ 31) {S : ZM} (n : Nat) (hn : n < 2 ^ 31) (m : Nat) (h0 : 0 < m) (hm : m < 2 ^ 31) : zMetL l sc yL_pick (Cond.code yL_pick cL_pick 3 (some .int) :: LWl) ({ frames := 1, cells := 0, slots := 0, locals := 22 } : Room) 0 0 [zr (some sc.1), zi (nI n), zi (nI m)] S (zPo (fun v S' => ∃ j : Nat, j < m ∧ v = some (zi (nI j)) ∧ S' = S) (fun _ _ => False)) := by
  refine zMetL.of [some (zr (some sc.1)), some (zi (nI n)), some (zi (nI m))] hl0 (by decide) rfl (Nat.le_of_ble_eq_true rfl) rfl ?_
  intro X C N Nc Sc hR hX F
  subst hX
  have hRc : (xR X).cells = 0 := by rw [hR]
  have hRs : (xR X).slots = 0 := by rw [hR]
  refine z_aload_n C rfl dL_pick_0 ?_
  refine z_iload_n C rfl dL_pick_1 ?_
  refine z_callL 2 [zr (some sc.1), zi (nI n)] C Nc Sc (L_cell hl0 hN n hn) rfl (zgoodS LWl_good wq2 wq3 wq4 wq5) rfl rfl rfl (by decide +kernel) rfl (by rw [hR]; exact ⟨Nat.le_of_ble_eq_true rfl, Nat.le_of_ble_eq_true rfl⟩) (by rw [hR]; exact ⟨Nat.le_of_ble_eq_true rfl, Nat.le_of_ble_eq_true rfl⟩) (Nat.le_of_ble_eq_true rfl) dL_pick_2 (fun v2 S2 h2 => ?_) (fun E2 S2 h2 => ?_)
  · obtain ⟨z, rfl, q2⟩ := h2
    subst q2
    refine z_bipush 8 (by decide) C dL_pick_5 ?_
    refine z_iushr C dL_pick_7 ?_
    refine z_iload_n C rfl dL_pick_8 ?_
    obtain ⟨j, hj, ej⟩ := pick_ok z h0 hm
    refine z_irem (nI_ne0 h0 hm) C dL_pick_9 ?_
    refine z_int ej ?_
    refine z_ireturn C F (Nat.le_of_ble_eq_true rfl) (Nat.le_of_ble_eq_true rfl) dL_pick_10 ?_
    exact ⟨j, hj, rfl, rfl⟩
  · exact h2.elim
set_option maxRecDepth 100000 in
set_option maxHeartbeats 4000000 in
theorem L_told {l : Launch} (hl0 : l.stackTraces = false) {S : ZM} (x : Int32) : zMet l yL_told (Cond.code yL_told cL_told 1 (some .int) :: LWl) ({ frames := 0, cells := 0, slots := 0, locals := 0 } : Room) 0 0 [zi x] S (zPo (fun v S' => v = some (zi (tlI x)) ∧ S' = S) (fun _ _ => False)) := by
  refine zMet.of' [some (zi x)] hl0 (by decide) rfl (Nat.le_of_ble_eq_true rfl) rfl ?_
  intro X C N hR hN0 hX F
  subst hX
  have hRc : (xR X).cells = 0 := by rw [hR]
  have hRs : (xR X).slots = 0 := by rw [hR]
  refine z_iload_n C rfl dL_told_0 ?_
  refine z_if_eq 8 C dL_told_1 (by decide) (fun c1 => ?_) (fun c1 => ?_)
  · refine z_iconst 0 (by decide) C dL_told_8 ?_
    refine z_ireturn C F (Nat.le_of_ble_eq_true rfl) (Nat.le_of_ble_eq_true rfl) dL_told_9 ?_
    first | exact ⟨by rw [tlI, if_pos c1], rfl⟩ | exact ⟨by rw [tlI, if_neg c1], rfl⟩
  · refine z_iconst 1 (by decide) C dL_told_4 ?_
    refine z_goto 9 C dL_told_5 (by decide) ?_
    refine z_ireturn C F (Nat.le_of_ble_eq_true rfl) (Nat.le_of_ble_eq_true rfl) dL_told_9 ?_
    first | exact ⟨by rw [tlI, if_pos c1], rfl⟩ | exact ⟨by rw [tlI, if_neg c1], rfl⟩
set_option maxRecDepth 100000 in
set_option maxHeartbeats 4000000 in
theorem L_order {l : Launch} (hl0 : l.stackTraces = false) {S : ZM} (x : Int32) : zMet l yL_order (Cond.code yL_order cL_order 1 (some .char) :: LWl) ({ frames := 0, cells := 0, slots := 0, locals := 0 } : Room) 0 0 [zi x] S (zPo (fun v S' => v = some (zi (orI x)) ∧ S' = S) (fun _ _ => False)) := by
  refine zMet.of' [some (zi x)] hl0 (by decide) rfl (Nat.le_of_ble_eq_true rfl) rfl ?_
  intro X C N hR hN0 hX F
  subst hX
  have hRc : (xR X).cells = 0 := by rw [hR]
  have hRs : (xR X).slots = 0 := by rw [hR]
  refine z_iload_n C rfl dL_order_0 ?_
  refine z_if_ne 9 C dL_order_1 (by decide) (fun c1 => ?_) (fun c1 => ?_)
  · refine z_iload_n C rfl dL_order_9 ?_
    refine z_iconst 1 (by decide) C dL_order_10 ?_
    refine z_icmp_ne 19 C dL_order_11 (by decide) (fun c11 => ?_) (fun c11 => ?_)
    · refine z_iload_n C rfl dL_order_19 ?_
      refine z_iconst 2 (by decide) C dL_order_20 ?_
      refine z_icmp_ne 29 C dL_order_21 (by decide) (fun c21 => ?_) (fun c21 => ?_)
      · refine z_bipush 110 (by decide) C dL_order_29 ?_
        refine z_zreturn C F (Nat.le_of_ble_eq_true rfl) (Nat.le_of_ble_eq_true rfl) (by decide) dL_order_31 ?_
        exact ⟨by simp [orI, *], rfl⟩
      · refine z_bipush 112 (by decide) C dL_order_24 ?_
        refine z_goto 31 C dL_order_26 (by decide) ?_
        refine z_zreturn C F (Nat.le_of_ble_eq_true rfl) (Nat.le_of_ble_eq_true rfl) (by decide) dL_order_31 ?_
        exact ⟨by simp [orI, *], rfl⟩
    · refine z_bipush 114 (by decide) C dL_order_14 ?_
      refine z_goto 31 C dL_order_16 (by decide) ?_
      refine z_zreturn C F (Nat.le_of_ble_eq_true rfl) (Nat.le_of_ble_eq_true rfl) (by decide) dL_order_31 ?_
      exact ⟨by simp [orI, *], rfl⟩
  · refine z_bipush 115 (by decide) C dL_order_4 ?_
    refine z_goto 31 C dL_order_6 (by decide) ?_
    refine z_zreturn C F (Nat.le_of_ble_eq_true rfl) (Nat.le_of_ble_eq_true rfl) (by decide) dL_order_31 ?_
    exact ⟨by simp [orI, *], rfl⟩
set_option maxRecDepth 100000 in
set_option maxHeartbeats 4000000 in
theorem plain_0 {l : Launch} (hl0 : l.stackTraces = false) {P : zP} {S : ZM} {x : Nat} (a b c : Int32) (hx : mK S x = 6) (hc : zMet l yX4_addTrack (Cond.code yX4_addTrack cX4_addTrack 4 (some .int) :: LWc) ({ frames := 45, cells := 4, slots := 24, locals := 1001 } : Room) 4 24 [zr (some x), zi a, zi b] S P) (hv : ∀ (v : Option ZV) (S1 : ZM), P (.inl v) S1 → ∃ z : Int32, v = some (zi (z))) : zMet l yL_plain (Cond.code yL_plain cL_plain 5 (some .int) :: LWl) ({ frames := 47, cells := 5, slots := 42, locals := 1050 } : Room) 5 42 [zr (some x), zi 0, zi a, zi b, zi c] S P := by
  refine zMet.of' [some (zr (some x)), some (zi 0), some (zi a), some (zi b), some (zi c)] hl0 (by decide) rfl (Nat.le_of_ble_eq_true rfl) rfl ?_
  intro X C N hR hN0 hX F
  subst hX
  have hRc : (xR X).cells = 5 := by rw [hR]
  have hRs : (xR X).slots = 42 := by rw [hR]
  refine z_iload_n C rfl dL_plain_0 ?_
  refine z_tableIn 108 C dL_plain_1 (by decide) (by decide) rfl (by decide) ?_
  refine z_aload_n C rfl dL_plain_108 ?_
  refine z_iload_n C rfl dL_plain_109 ?_
  refine z_iload_n C rfl dL_plain_110 ?_
  refine z_callC 2 [zi a, zi b] C rfl (hc) rfl (zgoodV2 LWl_good (fun w h => ul_c h) wq6 wq7 wq8 (ul_c wc58) wq9) rfl rfl rfl (by decide +kernel) rfl (by rw [hR]; exact ⟨Nat.le_of_ble_eq_true rfl, Nat.le_of_ble_eq_true rfl⟩) hx (by rw [hR]; exact ⟨Nat.le_of_ble_eq_true rfl, Nat.le_of_ble_eq_true rfl⟩) (Nat.le_of_ble_eq_true rfl) dL_plain_111 (fun v111 S111 h111 => ?_) (fun E111 S111 h111 => ?_)
  · obtain ⟨z, rfl⟩ := hv _ _ h111
    refine z_ireturn C F (Nat.le_of_ble_eq_true rfl) (Nat.le_of_ble_eq_true rfl) dL_plain_114 ?_
    exact h111
  · exact z_out C F N (Nat.le_of_ble_eq_true rfl) (Nat.le_of_ble_eq_true rfl) h111
set_option maxRecDepth 100000 in
set_option maxHeartbeats 4000000 in
theorem plain_1 {l : Launch} (hl0 : l.stackTraces = false) {P : zP} {S : ZM} {x : Nat} (a b c : Int32) (hx : mK S x = 6) (hc : zMet l yX4_removeTrack (Cond.code yX4_removeTrack cX4_removeTrack 3 (some .int) :: LWc) ({ frames := 45, cells := 1, slots := 6, locals := 1001 } : Room) 1 6 [zr (some x), zi a] S P) (hv : ∀ (v : Option ZV) (S1 : ZM), P (.inl v) S1 → ∃ z : Int32, v = some (zi (z))) : zMet l yL_plain (Cond.code yL_plain cL_plain 5 (some .int) :: LWl) ({ frames := 47, cells := 5, slots := 42, locals := 1050 } : Room) 5 42 [zr (some x), zi 1, zi a, zi b, zi c] S P := by
  refine zMet.of' [some (zr (some x)), some (zi 1), some (zi a), some (zi b), some (zi c)] hl0 (by decide) rfl (Nat.le_of_ble_eq_true rfl) rfl ?_
  intro X C N hR hN0 hX F
  subst hX
  have hRc : (xR X).cells = 5 := by rw [hR]
  have hRs : (xR X).slots = 42 := by rw [hR]
  refine z_iload_n C rfl dL_plain_0 ?_
  refine z_tableIn 115 C dL_plain_1 (by decide) (by decide) rfl (by decide) ?_
  refine z_aload_n C rfl dL_plain_115 ?_
  refine z_iload_n C rfl dL_plain_116 ?_
  refine z_callC 1 [zi a] C rfl (hc) rfl (zgoodV2 LWl_good (fun w h => ul_c h) wq10 wq11 wq12 (ul_c wc58) wq13) rfl rfl rfl (by decide +kernel) rfl (by rw [hR]; exact ⟨Nat.le_of_ble_eq_true rfl, Nat.le_of_ble_eq_true rfl⟩) hx (by rw [hR]; exact ⟨Nat.le_of_ble_eq_true rfl, Nat.le_of_ble_eq_true rfl⟩) (Nat.le_of_ble_eq_true rfl) dL_plain_117 (fun v117 S117 h117 => ?_) (fun E117 S117 h117 => ?_)
  · obtain ⟨z, rfl⟩ := hv _ _ h117
    refine z_ireturn C F (Nat.le_of_ble_eq_true rfl) (Nat.le_of_ble_eq_true rfl) dL_plain_120 ?_
    exact h117
  · exact z_out C F N (Nat.le_of_ble_eq_true rfl) (Nat.le_of_ble_eq_true rfl) h117
set_option maxRecDepth 100000 in
set_option maxHeartbeats 4000000 in
theorem plain_2 {l : Launch} (hl0 : l.stackTraces = false) {P : zP} {S : ZM} {x : Nat} (a b c : Int32) (hx : mK S x = 6) (hc : zMet l yX4_setRating (Cond.code yX4_setRating cX4_setRating 5 (some .int) :: LWc) ({ frames := 45, cells := 2, slots := 12, locals := 1001 } : Room) 2 12 [zr (some x), zi a, zi b] S P) (hv : ∀ (v : Option ZV) (S1 : ZM), P (.inl v) S1 → ∃ z : Int32, v = some (zi (z))) : zMet l yL_plain (Cond.code yL_plain cL_plain 5 (some .int) :: LWl) ({ frames := 47, cells := 5, slots := 42, locals := 1050 } : Room) 5 42 [zr (some x), zi 2, zi a, zi b, zi c] S P := by
  refine zMet.of' [some (zr (some x)), some (zi 2), some (zi a), some (zi b), some (zi c)] hl0 (by decide) rfl (Nat.le_of_ble_eq_true rfl) rfl ?_
  intro X C N hR hN0 hX F
  subst hX
  have hRc : (xR X).cells = 5 := by rw [hR]
  have hRs : (xR X).slots = 42 := by rw [hR]
  refine z_iload_n C rfl dL_plain_0 ?_
  refine z_tableIn 121 C dL_plain_1 (by decide) (by decide) rfl (by decide) ?_
  refine z_aload_n C rfl dL_plain_121 ?_
  refine z_iload_n C rfl dL_plain_122 ?_
  refine z_iload_n C rfl dL_plain_123 ?_
  refine z_callC 2 [zi a, zi b] C rfl (hc) rfl (zgoodV2 LWl_good (fun w h => ul_c h) wq14 wq15 wq16 (ul_c wc58) wq17) rfl rfl rfl (by decide +kernel) rfl (by rw [hR]; exact ⟨Nat.le_of_ble_eq_true rfl, Nat.le_of_ble_eq_true rfl⟩) hx (by rw [hR]; exact ⟨Nat.le_of_ble_eq_true rfl, Nat.le_of_ble_eq_true rfl⟩) (Nat.le_of_ble_eq_true rfl) dL_plain_124 (fun v124 S124 h124 => ?_) (fun E124 S124 h124 => ?_)
  · obtain ⟨z, rfl⟩ := hv _ _ h124
    refine z_ireturn C F (Nat.le_of_ble_eq_true rfl) (Nat.le_of_ble_eq_true rfl) dL_plain_127 ?_
    exact h124
  · exact z_out C F N (Nat.le_of_ble_eq_true rfl) (Nat.le_of_ble_eq_true rfl) h124
set_option maxRecDepth 100000 in
set_option maxHeartbeats 4000000 in
theorem plain_3 {l : Launch} (hl0 : l.stackTraces = false) {P : zP} {S : ZM} {x : Nat} (a b c : Int32) (hx : mK S x = 6) (hc : zMet l yX4_play (Cond.code yX4_play cX4_play 3 (some .int) :: LWc) ({ frames := 45, cells := 2, slots := 12, locals := 1001 } : Room) 2 12 [zr (some x), zi a] S P) (hv : ∀ (v : Option ZV) (S1 : ZM), P (.inl v) S1 → ∃ z : Int32, v = some (zi (z))) : zMet l yL_plain (Cond.code yL_plain cL_plain 5 (some .int) :: LWl) ({ frames := 47, cells := 5, slots := 42, locals := 1050 } : Room) 5 42 [zr (some x), zi 3, zi a, zi b, zi c] S P := by
  refine zMet.of' [some (zr (some x)), some (zi 3), some (zi a), some (zi b), some (zi c)] hl0 (by decide) rfl (Nat.le_of_ble_eq_true rfl) rfl ?_
  intro X C N hR hN0 hX F
  subst hX
  have hRc : (xR X).cells = 5 := by rw [hR]
  have hRs : (xR X).slots = 42 := by rw [hR]
  refine z_iload_n C rfl dL_plain_0 ?_
  refine z_tableIn 128 C dL_plain_1 (by decide) (by decide) rfl (by decide) ?_
  refine z_aload_n C rfl dL_plain_128 ?_
  refine z_iload_n C rfl dL_plain_129 ?_
  refine z_callC 1 [zi a] C rfl (hc) rfl (zgoodV2 LWl_good (fun w h => ul_c h) wq18 wq19 wq20 (ul_c wc58) wq21) rfl rfl rfl (by decide +kernel) rfl (by rw [hR]; exact ⟨Nat.le_of_ble_eq_true rfl, Nat.le_of_ble_eq_true rfl⟩) hx (by rw [hR]; exact ⟨Nat.le_of_ble_eq_true rfl, Nat.le_of_ble_eq_true rfl⟩) (Nat.le_of_ble_eq_true rfl) dL_plain_130 (fun v130 S130 h130 => ?_) (fun E130 S130 h130 => ?_)
  · obtain ⟨z, rfl⟩ := hv _ _ h130
    refine z_ireturn C F (Nat.le_of_ble_eq_true rfl) (Nat.le_of_ble_eq_true rfl) dL_plain_133 ?_
    exact h130
  · exact z_out C F N (Nat.le_of_ble_eq_true rfl) (Nat.le_of_ble_eq_true rfl) h130
set_option maxRecDepth 100000 in
set_option maxHeartbeats 4000000 in
theorem plain_4 {l : Launch} (hl0 : l.stackTraces = false) {P : zP} {S : ZM} {x : Nat} (a b c : Int32) (hx : mK S x = 6) (hc : zMet l yX4_pass (Cond.code yX4_pass cX4_pass 2 (some .int) :: LWc) ({ frames := 45, cells := 2, slots := 12, locals := 1001 } : Room) 2 12 [zr (some x), zi a] S P) (hv : ∀ (v : Option ZV) (S1 : ZM), P (.inl v) S1 → ∃ z : Int32, v = some (zi (z))) : zMet l yL_plain (Cond.code yL_plain cL_plain 5 (some .int) :: LWl) ({ frames := 47, cells := 5, slots := 42, locals := 1050 } : Room) 5 42 [zr (some x), zi 4, zi a, zi b, zi c] S P := by
  refine zMet.of' [some (zr (some x)), some (zi 4), some (zi a), some (zi b), some (zi c)] hl0 (by decide) rfl (Nat.le_of_ble_eq_true rfl) rfl ?_
  intro X C N hR hN0 hX F
  subst hX
  have hRc : (xR X).cells = 5 := by rw [hR]
  have hRs : (xR X).slots = 42 := by rw [hR]
  refine z_iload_n C rfl dL_plain_0 ?_
  refine z_tableIn 134 C dL_plain_1 (by decide) (by decide) rfl (by decide) ?_
  refine z_aload_n C rfl dL_plain_134 ?_
  refine z_iload_n C rfl dL_plain_135 ?_
  refine z_callC 1 [zi a] C rfl (hc) rfl (zgoodV2 LWl_good (fun w h => ul_c h) wq22 wq23 wq24 (ul_c wc58) wq25) rfl rfl rfl (by decide +kernel) rfl (by rw [hR]; exact ⟨Nat.le_of_ble_eq_true rfl, Nat.le_of_ble_eq_true rfl⟩) hx (by rw [hR]; exact ⟨Nat.le_of_ble_eq_true rfl, Nat.le_of_ble_eq_true rfl⟩) (Nat.le_of_ble_eq_true rfl) dL_plain_136 (fun v136 S136 h136 => ?_) (fun E136 S136 h136 => ?_)
  · obtain ⟨z, rfl⟩ := hv _ _ h136
    refine z_ireturn C F (Nat.le_of_ble_eq_true rfl) (Nat.le_of_ble_eq_true rfl) dL_plain_139 ?_
    exact h136
  · exact z_out C F N (Nat.le_of_ble_eq_true rfl) (Nat.le_of_ble_eq_true rfl) h136
set_option maxRecDepth 100000 in
set_option maxHeartbeats 4000000 in
theorem plain_5 {l : Launch} (hl0 : l.stackTraces = false) {P : zP} {S : ZM} {x : Nat} (a b c : Int32) (hx : mK S x = 6) (hc : zMet l yX4_addTag (Cond.code yX4_addTag cX4_addTag 2 (some .int) :: LWc) ({ frames := 6, cells := 4, slots := 42, locals := 86 } : Room) 4 42 [zr (some x)] S P) (hv : ∀ (v : Option ZV) (S1 : ZM), P (.inl v) S1 → ∃ z : Int32, v = some (zi (z))) : zMet l yL_plain (Cond.code yL_plain cL_plain 5 (some .int) :: LWl) ({ frames := 47, cells := 5, slots := 42, locals := 1050 } : Room) 5 42 [zr (some x), zi 5, zi a, zi b, zi c] S P := by
  refine zMet.of' [some (zr (some x)), some (zi 5), some (zi a), some (zi b), some (zi c)] hl0 (by decide) rfl (Nat.le_of_ble_eq_true rfl) rfl ?_
  intro X C N hR hN0 hX F
  subst hX
  have hRc : (xR X).cells = 5 := by rw [hR]
  have hRs : (xR X).slots = 42 := by rw [hR]
  refine z_iload_n C rfl dL_plain_0 ?_
  refine z_tableIn 140 C dL_plain_1 (by decide) (by decide) rfl (by decide) ?_
  refine z_aload_n C rfl dL_plain_140 ?_
  refine z_callC 0 [] C rfl (hc) rfl (zgoodV2 LWl_good (fun w h => ul_c h) wq26 wq27 wq28 (ul_c wc58) wq29) rfl rfl rfl (by decide +kernel) rfl (by rw [hR]; exact ⟨Nat.le_of_ble_eq_true rfl, Nat.le_of_ble_eq_true rfl⟩) hx (by rw [hR]; exact ⟨Nat.le_of_ble_eq_true rfl, Nat.le_of_ble_eq_true rfl⟩) (Nat.le_of_ble_eq_true rfl) dL_plain_141 (fun v141 S141 h141 => ?_) (fun E141 S141 h141 => ?_)
  · obtain ⟨z, rfl⟩ := hv _ _ h141
    refine z_ireturn C F (Nat.le_of_ble_eq_true rfl) (Nat.le_of_ble_eq_true rfl) dL_plain_144 ?_
    exact h141
  · exact z_out C F N (Nat.le_of_ble_eq_true rfl) (Nat.le_of_ble_eq_true rfl) h141
set_option maxRecDepth 100000 in
set_option maxHeartbeats 4000000 in
theorem plain_7 {l : Launch} (hl0 : l.stackTraces = false) {P : zP} {S : ZM} {x : Nat} (a b c : Int32) (hx : mK S x = 6) (hc : zMet l yX4_tag (Cond.code yX4_tag cX4_tag 5 (some .int) :: LWc) ({ frames := 46, cells := 3, slots := 18, locals := 1023 } : Room) 3 18 [zr (some x), zi a, zi b] S P) (hv : ∀ (v : Option ZV) (S1 : ZM), P (.inl v) S1 → ∃ z : Int32, v = some (zi (z))) : zMet l yL_plain (Cond.code yL_plain cL_plain 5 (some .int) :: LWl) ({ frames := 47, cells := 5, slots := 42, locals := 1050 } : Room) 5 42 [zr (some x), zi 7, zi a, zi b, zi c] S P := by
  refine zMet.of' [some (zr (some x)), some (zi 7), some (zi a), some (zi b), some (zi c)] hl0 (by decide) rfl (Nat.le_of_ble_eq_true rfl) rfl ?_
  intro X C N hR hN0 hX F
  subst hX
  have hRc : (xR X).cells = 5 := by rw [hR]
  have hRs : (xR X).slots = 42 := by rw [hR]
  refine z_iload_n C rfl dL_plain_0 ?_
  refine z_tableIn 153 C dL_plain_1 (by decide) (by decide) rfl (by decide) ?_
  refine z_aload_n C rfl dL_plain_153 ?_
  refine z_iload_n C rfl dL_plain_154 ?_
  refine z_iload_n C rfl dL_plain_155 ?_
  refine z_callC 2 [zi a, zi b] C rfl (hc) rfl (zgoodV2 LWl_good (fun w h => ul_c h) wq34 wq35 wq36 (ul_c wc58) wq37) rfl rfl rfl (by decide +kernel) rfl (by rw [hR]; exact ⟨Nat.le_of_ble_eq_true rfl, Nat.le_of_ble_eq_true rfl⟩) hx (by rw [hR]; exact ⟨Nat.le_of_ble_eq_true rfl, Nat.le_of_ble_eq_true rfl⟩) (Nat.le_of_ble_eq_true rfl) dL_plain_156 (fun v156 S156 h156 => ?_) (fun E156 S156 h156 => ?_)
  · obtain ⟨z, rfl⟩ := hv _ _ h156
    refine z_ireturn C F (Nat.le_of_ble_eq_true rfl) (Nat.le_of_ble_eq_true rfl) dL_plain_159 ?_
    exact h156
  · exact z_out C F N (Nat.le_of_ble_eq_true rfl) (Nat.le_of_ble_eq_true rfl) h156
set_option maxRecDepth 100000 in
set_option maxHeartbeats 4000000 in
theorem plain_8 {l : Launch} (hl0 : l.stackTraces = false) {P : zP} {S : ZM} {x : Nat} (a b c : Int32) (hx : mK S x = 6) (hc : zMet l yX4_untag (Cond.code yX4_untag cX4_untag 5 (some .int) :: LWc) ({ frames := 46, cells := 3, slots := 18, locals := 1023 } : Room) 3 18 [zr (some x), zi a, zi b] S P) (hv : ∀ (v : Option ZV) (S1 : ZM), P (.inl v) S1 → ∃ z : Int32, v = some (zi (z))) : zMet l yL_plain (Cond.code yL_plain cL_plain 5 (some .int) :: LWl) ({ frames := 47, cells := 5, slots := 42, locals := 1050 } : Room) 5 42 [zr (some x), zi 8, zi a, zi b, zi c] S P := by
  refine zMet.of' [some (zr (some x)), some (zi 8), some (zi a), some (zi b), some (zi c)] hl0 (by decide) rfl (Nat.le_of_ble_eq_true rfl) rfl ?_
  intro X C N hR hN0 hX F
  subst hX
  have hRc : (xR X).cells = 5 := by rw [hR]
  have hRs : (xR X).slots = 42 := by rw [hR]
  refine z_iload_n C rfl dL_plain_0 ?_
  refine z_tableIn 160 C dL_plain_1 (by decide) (by decide) rfl (by decide) ?_
  refine z_aload_n C rfl dL_plain_160 ?_
  refine z_iload_n C rfl dL_plain_161 ?_
  refine z_iload_n C rfl dL_plain_162 ?_
  refine z_callC 2 [zi a, zi b] C rfl (hc) rfl (zgoodV2 LWl_good (fun w h => ul_c h) wq38 wq39 wq40 (ul_c wc58) wq41) rfl rfl rfl (by decide +kernel) rfl (by rw [hR]; exact ⟨Nat.le_of_ble_eq_true rfl, Nat.le_of_ble_eq_true rfl⟩) hx (by rw [hR]; exact ⟨Nat.le_of_ble_eq_true rfl, Nat.le_of_ble_eq_true rfl⟩) (Nat.le_of_ble_eq_true rfl) dL_plain_163 (fun v163 S163 h163 => ?_) (fun E163 S163 h163 => ?_)
  · obtain ⟨z, rfl⟩ := hv _ _ h163
    refine z_ireturn C F (Nat.le_of_ble_eq_true rfl) (Nat.le_of_ble_eq_true rfl) dL_plain_166 ?_
    exact h163
  · exact z_out C F N (Nat.le_of_ble_eq_true rfl) (Nat.le_of_ble_eq_true rfl) h163
set_option maxRecDepth 100000 in
set_option maxHeartbeats 4000000 in
theorem plain_11 {l : Launch} (hl0 : l.stackTraces = false) {P : zP} {S : ZM} {x : Nat} (a b c : Int32) (hx : mK S x = 6) (hc : zMet l yX4_hasTag (Cond.code yX4_hasTag cX4_hasTag 2 (some .int) :: LWc) ({ frames := 7, cells := 3, slots := 19, locals := 111 } : Room) 3 19 [zr (some x), zi a] S P) (hv : ∀ (v : Option ZV) (S1 : ZM), P (.inl v) S1 → ∃ z : Int32, v = some (zi (z))) : zMet l yL_plain (Cond.code yL_plain cL_plain 5 (some .int) :: LWl) ({ frames := 47, cells := 5, slots := 42, locals := 1050 } : Room) 5 42 [zr (some x), zi 11, zi a, zi b, zi c] S P := by
  refine zMet.of' [some (zr (some x)), some (zi 11), some (zi a), some (zi b), some (zi c)] hl0 (by decide) rfl (Nat.le_of_ble_eq_true rfl) rfl ?_
  intro X C N hR hN0 hX F
  subst hX
  have hRc : (xR X).cells = 5 := by rw [hR]
  have hRs : (xR X).slots = 42 := by rw [hR]
  refine z_iload_n C rfl dL_plain_0 ?_
  refine z_tableIn 179 C dL_plain_1 (by decide) (by decide) rfl (by decide) ?_
  refine z_aload_n C rfl dL_plain_179 ?_
  refine z_iload_n C rfl dL_plain_180 ?_
  refine z_callC 1 [zi a] C rfl (hc) rfl (zgoodV2 LWl_good (fun w h => ul_c h) wq50 wq51 wq52 (ul_c wc58) wq53) rfl rfl rfl (by decide +kernel) rfl (by rw [hR]; exact ⟨Nat.le_of_ble_eq_true rfl, Nat.le_of_ble_eq_true rfl⟩) hx (by rw [hR]; exact ⟨Nat.le_of_ble_eq_true rfl, Nat.le_of_ble_eq_true rfl⟩) (Nat.le_of_ble_eq_true rfl) dL_plain_181 (fun v181 S181 h181 => ?_) (fun E181 S181 h181 => ?_)
  · obtain ⟨z, rfl⟩ := hv _ _ h181
    refine z_ireturn C F (Nat.le_of_ble_eq_true rfl) (Nat.le_of_ble_eq_true rfl) dL_plain_184 ?_
    exact h181
  · exact z_out C F N (Nat.le_of_ble_eq_true rfl) (Nat.le_of_ble_eq_true rfl) h181
set_option maxRecDepth 100000 in
set_option maxHeartbeats 4000000 in
theorem plain_12 {l : Launch} (hl0 : l.stackTraces = false) {P : zP} {S : ZM} {x : Nat} (a b c : Int32) (hx : mK S x = 6) (hc : zMet l yX4_rated (Cond.code yX4_rated cX4_rated 2 (some .int) :: LWc) ({ frames := 7, cells := 3, slots := 19, locals := 111 } : Room) 3 19 [zr (some x), zi a] S P) (hv : ∀ (v : Option ZV) (S1 : ZM), P (.inl v) S1 → ∃ z : Int32, v = some (zi (z))) : zMet l yL_plain (Cond.code yL_plain cL_plain 5 (some .int) :: LWl) ({ frames := 47, cells := 5, slots := 42, locals := 1050 } : Room) 5 42 [zr (some x), zi 12, zi a, zi b, zi c] S P := by
  refine zMet.of' [some (zr (some x)), some (zi 12), some (zi a), some (zi b), some (zi c)] hl0 (by decide) rfl (Nat.le_of_ble_eq_true rfl) rfl ?_
  intro X C N hR hN0 hX F
  subst hX
  have hRc : (xR X).cells = 5 := by rw [hR]
  have hRs : (xR X).slots = 42 := by rw [hR]
  refine z_iload_n C rfl dL_plain_0 ?_
  refine z_tableIn 185 C dL_plain_1 (by decide) (by decide) rfl (by decide) ?_
  refine z_aload_n C rfl dL_plain_185 ?_
  refine z_iload_n C rfl dL_plain_186 ?_
  refine z_callC 1 [zi a] C rfl (hc) rfl (zgoodV2 LWl_good (fun w h => ul_c h) wq54 wq55 wq56 (ul_c wc58) wq57) rfl rfl rfl (by decide +kernel) rfl (by rw [hR]; exact ⟨Nat.le_of_ble_eq_true rfl, Nat.le_of_ble_eq_true rfl⟩) hx (by rw [hR]; exact ⟨Nat.le_of_ble_eq_true rfl, Nat.le_of_ble_eq_true rfl⟩) (Nat.le_of_ble_eq_true rfl) dL_plain_187 (fun v187 S187 h187 => ?_) (fun E187 S187 h187 => ?_)
  · obtain ⟨z, rfl⟩ := hv _ _ h187
    refine z_ireturn C F (Nat.le_of_ble_eq_true rfl) (Nat.le_of_ble_eq_true rfl) dL_plain_190 ?_
    exact h187
  · exact z_out C F N (Nat.le_of_ble_eq_true rfl) (Nat.le_of_ble_eq_true rfl) h187
set_option maxRecDepth 100000 in
set_option maxHeartbeats 4000000 in
theorem plain_13 {l : Launch} (hl0 : l.stackTraces = false) {P : zP} {S : ZM} {x : Nat} (a b c : Int32) (hx : mK S x = 6) (hc : zMet l yX4_playedAtMost (Cond.code yX4_playedAtMost cX4_playedAtMost 2 (some .int) :: LWc) ({ frames := 7, cells := 3, slots := 19, locals := 111 } : Room) 3 19 [zr (some x), zi a] S P) (hv : ∀ (v : Option ZV) (S1 : ZM), P (.inl v) S1 → ∃ z : Int32, v = some (zi (z))) : zMet l yL_plain (Cond.code yL_plain cL_plain 5 (some .int) :: LWl) ({ frames := 47, cells := 5, slots := 42, locals := 1050 } : Room) 5 42 [zr (some x), zi 13, zi a, zi b, zi c] S P := by
  refine zMet.of' [some (zr (some x)), some (zi 13), some (zi a), some (zi b), some (zi c)] hl0 (by decide) rfl (Nat.le_of_ble_eq_true rfl) rfl ?_
  intro X C N hR hN0 hX F
  subst hX
  have hRc : (xR X).cells = 5 := by rw [hR]
  have hRs : (xR X).slots = 42 := by rw [hR]
  refine z_iload_n C rfl dL_plain_0 ?_
  refine z_tableIn 191 C dL_plain_1 (by decide) (by decide) rfl (by decide) ?_
  refine z_aload_n C rfl dL_plain_191 ?_
  refine z_iload_n C rfl dL_plain_192 ?_
  refine z_callC 1 [zi a] C rfl (hc) rfl (zgoodV2 LWl_good (fun w h => ul_c h) wq58 wq59 wq60 (ul_c wc58) wq61) rfl rfl rfl (by decide +kernel) rfl (by rw [hR]; exact ⟨Nat.le_of_ble_eq_true rfl, Nat.le_of_ble_eq_true rfl⟩) hx (by rw [hR]; exact ⟨Nat.le_of_ble_eq_true rfl, Nat.le_of_ble_eq_true rfl⟩) (Nat.le_of_ble_eq_true rfl) dL_plain_193 (fun v193 S193 h193 => ?_) (fun E193 S193 h193 => ?_)
  · obtain ⟨z, rfl⟩ := hv _ _ h193
    refine z_ireturn C F (Nat.le_of_ble_eq_true rfl) (Nat.le_of_ble_eq_true rfl) dL_plain_196 ?_
    exact h193
  · exact z_out C F N (Nat.le_of_ble_eq_true rfl) (Nat.le_of_ble_eq_true rfl) h193
set_option maxRecDepth 100000 in
set_option maxHeartbeats 4000000 in
theorem plain_14 {l : Launch} (hl0 : l.stackTraces = false) {P : zP} {S : ZM} {x : Nat} (a b c : Int32) (hx : mK S x = 6) (hc : zMet l yX4_asLongAs (Cond.code yX4_asLongAs cX4_asLongAs 2 (some .int) :: LWc) ({ frames := 7, cells := 3, slots := 19, locals := 111 } : Room) 3 19 [zr (some x), zi a] S P) (hv : ∀ (v : Option ZV) (S1 : ZM), P (.inl v) S1 → ∃ z : Int32, v = some (zi (z))) : zMet l yL_plain (Cond.code yL_plain cL_plain 5 (some .int) :: LWl) ({ frames := 47, cells := 5, slots := 42, locals := 1050 } : Room) 5 42 [zr (some x), zi 14, zi a, zi b, zi c] S P := by
  refine zMet.of' [some (zr (some x)), some (zi 14), some (zi a), some (zi b), some (zi c)] hl0 (by decide) rfl (Nat.le_of_ble_eq_true rfl) rfl ?_
  intro X C N hR hN0 hX F
  subst hX
  have hRc : (xR X).cells = 5 := by rw [hR]
  have hRs : (xR X).slots = 42 := by rw [hR]
  refine z_iload_n C rfl dL_plain_0 ?_
  refine z_tableIn 197 C dL_plain_1 (by decide) (by decide) rfl (by decide) ?_
  refine z_aload_n C rfl dL_plain_197 ?_
  refine z_iload_n C rfl dL_plain_198 ?_
  refine z_callC 1 [zi a] C rfl (hc) rfl (zgoodV2 LWl_good (fun w h => ul_c h) wq62 wq63 wq64 (ul_c wc58) wq65) rfl rfl rfl (by decide +kernel) rfl (by rw [hR]; exact ⟨Nat.le_of_ble_eq_true rfl, Nat.le_of_ble_eq_true rfl⟩) hx (by rw [hR]; exact ⟨Nat.le_of_ble_eq_true rfl, Nat.le_of_ble_eq_true rfl⟩) (Nat.le_of_ble_eq_true rfl) dL_plain_199 (fun v199 S199 h199 => ?_) (fun E199 S199 h199 => ?_)
  · obtain ⟨z, rfl⟩ := hv _ _ h199
    refine z_ireturn C F (Nat.le_of_ble_eq_true rfl) (Nat.le_of_ble_eq_true rfl) dL_plain_202 ?_
    exact h199
  · exact z_out C F N (Nat.le_of_ble_eq_true rfl) (Nat.le_of_ble_eq_true rfl) h199
set_option maxRecDepth 100000 in
set_option maxHeartbeats 4000000 in
theorem plain_15 {l : Launch} (hl0 : l.stackTraces = false) {P : zP} {S : ZM} {x : Nat} (a b c : Int32) (hx : mK S x = 6) (hc : zMet l yX4_playedWithin (Cond.code yX4_playedWithin cX4_playedWithin 2 (some .int) :: LWc) ({ frames := 7, cells := 3, slots := 19, locals := 111 } : Room) 3 19 [zr (some x), zi a] S P) (hv : ∀ (v : Option ZV) (S1 : ZM), P (.inl v) S1 → ∃ z : Int32, v = some (zi (z))) : zMet l yL_plain (Cond.code yL_plain cL_plain 5 (some .int) :: LWl) ({ frames := 47, cells := 5, slots := 42, locals := 1050 } : Room) 5 42 [zr (some x), zi 15, zi a, zi b, zi c] S P := by
  refine zMet.of' [some (zr (some x)), some (zi 15), some (zi a), some (zi b), some (zi c)] hl0 (by decide) rfl (Nat.le_of_ble_eq_true rfl) rfl ?_
  intro X C N hR hN0 hX F
  subst hX
  have hRc : (xR X).cells = 5 := by rw [hR]
  have hRs : (xR X).slots = 42 := by rw [hR]
  refine z_iload_n C rfl dL_plain_0 ?_
  refine z_tableIn 203 C dL_plain_1 (by decide) (by decide) rfl (by decide) ?_
  refine z_aload_n C rfl dL_plain_203 ?_
  refine z_iload_n C rfl dL_plain_204 ?_
  refine z_callC 1 [zi a] C rfl (hc) rfl (zgoodV2 LWl_good (fun w h => ul_c h) wq66 wq67 wq68 (ul_c wc58) wq69) rfl rfl rfl (by decide +kernel) rfl (by rw [hR]; exact ⟨Nat.le_of_ble_eq_true rfl, Nat.le_of_ble_eq_true rfl⟩) hx (by rw [hR]; exact ⟨Nat.le_of_ble_eq_true rfl, Nat.le_of_ble_eq_true rfl⟩) (Nat.le_of_ble_eq_true rfl) dL_plain_205 (fun v205 S205 h205 => ?_) (fun E205 S205 h205 => ?_)
  · obtain ⟨z, rfl⟩ := hv _ _ h205
    refine z_ireturn C F (Nat.le_of_ble_eq_true rfl) (Nat.le_of_ble_eq_true rfl) dL_plain_208 ?_
    exact h205
  · exact z_out C F N (Nat.le_of_ble_eq_true rfl) (Nat.le_of_ble_eq_true rfl) h205
set_option maxRecDepth 100000 in
set_option maxHeartbeats 4000000 in
theorem plain_16 {l : Launch} (hl0 : l.stackTraces = false) {P : zP} {S : ZM} {x : Nat} (a b c : Int32) (hx : mK S x = 6) (hc : zMet l yX4_inList (Cond.code yX4_inList cX4_inList 2 (some .int) :: LWc) ({ frames := 7, cells := 3, slots := 19, locals := 111 } : Room) 3 19 [zr (some x), zi a] S P) (hv : ∀ (v : Option ZV) (S1 : ZM), P (.inl v) S1 → ∃ z : Int32, v = some (zi (z))) : zMet l yL_plain (Cond.code yL_plain cL_plain 5 (some .int) :: LWl) ({ frames := 47, cells := 5, slots := 42, locals := 1050 } : Room) 5 42 [zr (some x), zi 16, zi a, zi b, zi c] S P := by
  refine zMet.of' [some (zr (some x)), some (zi 16), some (zi a), some (zi b), some (zi c)] hl0 (by decide) rfl (Nat.le_of_ble_eq_true rfl) rfl ?_
  intro X C N hR hN0 hX F
  subst hX
  have hRc : (xR X).cells = 5 := by rw [hR]
  have hRs : (xR X).slots = 42 := by rw [hR]
  refine z_iload_n C rfl dL_plain_0 ?_
  refine z_tableIn 209 C dL_plain_1 (by decide) (by decide) rfl (by decide) ?_
  refine z_aload_n C rfl dL_plain_209 ?_
  refine z_iload_n C rfl dL_plain_210 ?_
  refine z_callC 1 [zi a] C rfl (hc) rfl (zgoodV2 LWl_good (fun w h => ul_c h) wq70 wq71 wq72 (ul_c wc58) wq73) rfl rfl rfl (by decide +kernel) rfl (by rw [hR]; exact ⟨Nat.le_of_ble_eq_true rfl, Nat.le_of_ble_eq_true rfl⟩) hx (by rw [hR]; exact ⟨Nat.le_of_ble_eq_true rfl, Nat.le_of_ble_eq_true rfl⟩) (Nat.le_of_ble_eq_true rfl) dL_plain_211 (fun v211 S211 h211 => ?_) (fun E211 S211 h211 => ?_)
  · obtain ⟨z, rfl⟩ := hv _ _ h211
    refine z_ireturn C F (Nat.le_of_ble_eq_true rfl) (Nat.le_of_ble_eq_true rfl) dL_plain_214 ?_
    exact h211
  · exact z_out C F N (Nat.le_of_ble_eq_true rfl) (Nat.le_of_ble_eq_true rfl) h211
set_option maxRecDepth 100000 in
set_option maxHeartbeats 4000000 in
theorem plain_17 {l : Launch} (hl0 : l.stackTraces = false) {P : zP} {S : ZM} {x : Nat} (a b c : Int32) (hx : mK S x = 6) (hc : zMet l yX4_both (Cond.code yX4_both cX4_both 3 (some .int) :: LWc) ({ frames := 7, cells := 4, slots := 25, locals := 111 } : Room) 4 25 [zr (some x), zi a, zi b] S P) (hv : ∀ (v : Option ZV) (S1 : ZM), P (.inl v) S1 → ∃ z : Int32, v = some (zi (z))) : zMet l yL_plain (Cond.code yL_plain cL_plain 5 (some .int) :: LWl) ({ frames := 47, cells := 5, slots := 42, locals := 1050 } : Room) 5 42 [zr (some x), zi 17, zi a, zi b, zi c] S P := by
  refine zMet.of' [some (zr (some x)), some (zi 17), some (zi a), some (zi b), some (zi c)] hl0 (by decide) rfl (Nat.le_of_ble_eq_true rfl) rfl ?_
  intro X C N hR hN0 hX F
  subst hX
  have hRc : (xR X).cells = 5 := by rw [hR]
  have hRs : (xR X).slots = 42 := by rw [hR]
  refine z_iload_n C rfl dL_plain_0 ?_
  refine z_tableIn 215 C dL_plain_1 (by decide) (by decide) rfl (by decide) ?_
  refine z_aload_n C rfl dL_plain_215 ?_
  refine z_iload_n C rfl dL_plain_216 ?_
  refine z_iload_n C rfl dL_plain_217 ?_
  refine z_callC 2 [zi a, zi b] C rfl (hc) rfl (zgoodV2 LWl_good (fun w h => ul_c h) wq74 wq75 wq76 (ul_c wc58) wq77) rfl rfl rfl (by decide +kernel) rfl (by rw [hR]; exact ⟨Nat.le_of_ble_eq_true rfl, Nat.le_of_ble_eq_true rfl⟩) hx (by rw [hR]; exact ⟨Nat.le_of_ble_eq_true rfl, Nat.le_of_ble_eq_true rfl⟩) (Nat.le_of_ble_eq_true rfl) dL_plain_218 (fun v218 S218 h218 => ?_) (fun E218 S218 h218 => ?_)
  · obtain ⟨z, rfl⟩ := hv _ _ h218
    refine z_ireturn C F (Nat.le_of_ble_eq_true rfl) (Nat.le_of_ble_eq_true rfl) dL_plain_221 ?_
    exact h218
  · exact z_out C F N (Nat.le_of_ble_eq_true rfl) (Nat.le_of_ble_eq_true rfl) h218
set_option maxRecDepth 100000 in
set_option maxHeartbeats 4000000 in
theorem plain_18 {l : Launch} (hl0 : l.stackTraces = false) {P : zP} {S : ZM} {x : Nat} (a b c : Int32) (hx : mK S x = 6) (hc : zMet l yX4_either (Cond.code yX4_either cX4_either 3 (some .int) :: LWc) ({ frames := 7, cells := 4, slots := 25, locals := 111 } : Room) 4 25 [zr (some x), zi a, zi b] S P) (hv : ∀ (v : Option ZV) (S1 : ZM), P (.inl v) S1 → ∃ z : Int32, v = some (zi (z))) : zMet l yL_plain (Cond.code yL_plain cL_plain 5 (some .int) :: LWl) ({ frames := 47, cells := 5, slots := 42, locals := 1050 } : Room) 5 42 [zr (some x), zi 18, zi a, zi b, zi c] S P := by
  refine zMet.of' [some (zr (some x)), some (zi 18), some (zi a), some (zi b), some (zi c)] hl0 (by decide) rfl (Nat.le_of_ble_eq_true rfl) rfl ?_
  intro X C N hR hN0 hX F
  subst hX
  have hRc : (xR X).cells = 5 := by rw [hR]
  have hRs : (xR X).slots = 42 := by rw [hR]
  refine z_iload_n C rfl dL_plain_0 ?_
  refine z_tableIn 222 C dL_plain_1 (by decide) (by decide) rfl (by decide) ?_
  refine z_aload_n C rfl dL_plain_222 ?_
  refine z_iload_n C rfl dL_plain_223 ?_
  refine z_iload_n C rfl dL_plain_224 ?_
  refine z_callC 2 [zi a, zi b] C rfl (hc) rfl (zgoodV2 LWl_good (fun w h => ul_c h) wq78 wq79 wq80 (ul_c wc58) wq81) rfl rfl rfl (by decide +kernel) rfl (by rw [hR]; exact ⟨Nat.le_of_ble_eq_true rfl, Nat.le_of_ble_eq_true rfl⟩) hx (by rw [hR]; exact ⟨Nat.le_of_ble_eq_true rfl, Nat.le_of_ble_eq_true rfl⟩) (Nat.le_of_ble_eq_true rfl) dL_plain_225 (fun v225 S225 h225 => ?_) (fun E225 S225 h225 => ?_)
  · obtain ⟨z, rfl⟩ := hv _ _ h225
    refine z_ireturn C F (Nat.le_of_ble_eq_true rfl) (Nat.le_of_ble_eq_true rfl) dL_plain_228 ?_
    exact h225
  · exact z_out C F N (Nat.le_of_ble_eq_true rfl) (Nat.le_of_ble_eq_true rfl) h225
set_option maxRecDepth 100000 in
set_option maxHeartbeats 4000000 in
theorem plain_19 {l : Launch} (hl0 : l.stackTraces = false) {P : zP} {S : ZM} {x : Nat} (a b c : Int32) (hx : mK S x = 6) (hc : zMet l yX4_not (Cond.code yX4_not cX4_not 2 (some .int) :: LWc) ({ frames := 7, cells := 3, slots := 19, locals := 111 } : Room) 3 19 [zr (some x), zi a] S P) (hv : ∀ (v : Option ZV) (S1 : ZM), P (.inl v) S1 → ∃ z : Int32, v = some (zi (z))) : zMet l yL_plain (Cond.code yL_plain cL_plain 5 (some .int) :: LWl) ({ frames := 47, cells := 5, slots := 42, locals := 1050 } : Room) 5 42 [zr (some x), zi 19, zi a, zi b, zi c] S P := by
  refine zMet.of' [some (zr (some x)), some (zi 19), some (zi a), some (zi b), some (zi c)] hl0 (by decide) rfl (Nat.le_of_ble_eq_true rfl) rfl ?_
  intro X C N hR hN0 hX F
  subst hX
  have hRc : (xR X).cells = 5 := by rw [hR]
  have hRs : (xR X).slots = 42 := by rw [hR]
  refine z_iload_n C rfl dL_plain_0 ?_
  refine z_tableIn 229 C dL_plain_1 (by decide) (by decide) rfl (by decide) ?_
  refine z_aload_n C rfl dL_plain_229 ?_
  refine z_iload_n C rfl dL_plain_230 ?_
  refine z_callC 1 [zi a] C rfl (hc) rfl (zgoodV2 LWl_good (fun w h => ul_c h) wq82 wq83 wq84 (ul_c wc58) wq85) rfl rfl rfl (by decide +kernel) rfl (by rw [hR]; exact ⟨Nat.le_of_ble_eq_true rfl, Nat.le_of_ble_eq_true rfl⟩) hx (by rw [hR]; exact ⟨Nat.le_of_ble_eq_true rfl, Nat.le_of_ble_eq_true rfl⟩) (Nat.le_of_ble_eq_true rfl) dL_plain_231 (fun v231 S231 h231 => ?_) (fun E231 S231 h231 => ?_)
  · obtain ⟨z, rfl⟩ := hv _ _ h231
    refine z_ireturn C F (Nat.le_of_ble_eq_true rfl) (Nat.le_of_ble_eq_true rfl) dL_plain_234 ?_
    exact h231
  · exact z_out C F N (Nat.le_of_ble_eq_true rfl) (Nat.le_of_ble_eq_true rfl) h231
set_option maxRecDepth 100000 in
set_option maxHeartbeats 4000000 in
theorem plain_20 {l : Launch} (hl0 : l.stackTraces = false) {P : zP} {S : ZM} {x : Nat} (a b c : Int32) (hb : (b.toUInt32 % 65536).toInt32 = b) (hx : mK S x = 6) (hc : zMet l yX4_addList (Cond.code yX4_addList cX4_addList 6 (some .int) :: LWc) ({ frames := 44, cells := 5, slots := 27, locals := 980 } : Room) 5 27 [zr (some x), zi a, zi b, zi c] S P) (hv : ∀ (v : Option ZV) (S1 : ZM), P (.inl v) S1 → ∃ z : Int32, v = some (zi (z))) : zMet l yL_plain (Cond.code yL_plain cL_plain 5 (some .int) :: LWl) ({ frames := 47, cells := 5, slots := 42, locals := 1050 } : Room) 5 42 [zr (some x), zi 20, zi a, zi b, zi c] S P := by
  refine zMet.of' [some (zr (some x)), some (zi 20), some (zi a), some (zi b), some (zi c)] hl0 (by decide) rfl (Nat.le_of_ble_eq_true rfl) rfl ?_
  intro X C N hR hN0 hX F
  subst hX
  have hRc : (xR X).cells = 5 := by rw [hR]
  have hRs : (xR X).slots = 42 := by rw [hR]
  refine z_iload_n C rfl dL_plain_0 ?_
  refine z_tableIn 235 C dL_plain_1 (by decide) (by decide) rfl (by decide) ?_
  refine z_aload_n C rfl dL_plain_235 ?_
  refine z_iload_n C rfl dL_plain_236 ?_
  refine z_iload_n C rfl dL_plain_237 ?_
  refine z_i2c C dL_plain_238 ?_
  refine z_int hb ?_
  refine z_iload C rfl dL_plain_239 ?_
  refine z_callC 3 [zi a, zi b, zi c] C rfl (hc) rfl (zgoodV2 LWl_good (fun w h => ul_c h) wq86 wq87 wq88 (ul_c wc58) wq89) rfl rfl rfl (by decide +kernel) rfl (by rw [hR]; exact ⟨Nat.le_of_ble_eq_true rfl, Nat.le_of_ble_eq_true rfl⟩) hx (by rw [hR]; exact ⟨Nat.le_of_ble_eq_true rfl, Nat.le_of_ble_eq_true rfl⟩) (Nat.le_of_ble_eq_true rfl) dL_plain_241 (fun v241 S241 h241 => ?_) (fun E241 S241 h241 => ?_)
  · obtain ⟨z, rfl⟩ := hv _ _ h241
    refine z_ireturn C F (Nat.le_of_ble_eq_true rfl) (Nat.le_of_ble_eq_true rfl) dL_plain_244 ?_
    exact h241
  · exact z_out C F N (Nat.le_of_ble_eq_true rfl) (Nat.le_of_ble_eq_true rfl) h241
set_option maxRecDepth 100000 in
set_option maxHeartbeats 4000000 in
theorem plain_21 {l : Launch} (hl0 : l.stackTraces = false) {P : zP} {S : ZM} {x : Nat} (a b c : Int32) (hx : mK S x = 6) (hc : zMet l yX4_setRule (Cond.code yX4_setRule cX4_setRule 6 (some .int) :: LWc) ({ frames := 45, cells := 3, slots := 18, locals := 1001 } : Room) 3 18 [zr (some x), zi a, zi b] S P) (hv : ∀ (v : Option ZV) (S1 : ZM), P (.inl v) S1 → ∃ z : Int32, v = some (zi (z))) : zMet l yL_plain (Cond.code yL_plain cL_plain 5 (some .int) :: LWl) ({ frames := 47, cells := 5, slots := 42, locals := 1050 } : Room) 5 42 [zr (some x), zi 21, zi a, zi b, zi c] S P := by
  refine zMet.of' [some (zr (some x)), some (zi 21), some (zi a), some (zi b), some (zi c)] hl0 (by decide) rfl (Nat.le_of_ble_eq_true rfl) rfl ?_
  intro X C N hR hN0 hX F
  subst hX
  have hRc : (xR X).cells = 5 := by rw [hR]
  have hRs : (xR X).slots = 42 := by rw [hR]
  refine z_iload_n C rfl dL_plain_0 ?_
  refine z_tableIn 245 C dL_plain_1 (by decide) (by decide) rfl (by decide) ?_
  refine z_aload_n C rfl dL_plain_245 ?_
  refine z_iload_n C rfl dL_plain_246 ?_
  refine z_iload_n C rfl dL_plain_247 ?_
  refine z_callC 2 [zi a, zi b] C rfl (hc) rfl (zgoodV2 LWl_good (fun w h => ul_c h) wq90 wq91 wq92 (ul_c wc58) wq93) rfl rfl rfl (by decide +kernel) rfl (by rw [hR]; exact ⟨Nat.le_of_ble_eq_true rfl, Nat.le_of_ble_eq_true rfl⟩) hx (by rw [hR]; exact ⟨Nat.le_of_ble_eq_true rfl, Nat.le_of_ble_eq_true rfl⟩) (Nat.le_of_ble_eq_true rfl) dL_plain_248 (fun v248 S248 h248 => ?_) (fun E248 S248 h248 => ?_)
  · obtain ⟨z, rfl⟩ := hv _ _ h248
    refine z_ireturn C F (Nat.le_of_ble_eq_true rfl) (Nat.le_of_ble_eq_true rfl) dL_plain_251 ?_
    exact h248
  · exact z_out C F N (Nat.le_of_ble_eq_true rfl) (Nat.le_of_ble_eq_true rfl) h248
set_option maxRecDepth 100000 in
set_option maxHeartbeats 4000000 in
theorem plain_22 {l : Launch} (hl0 : l.stackTraces = false) {P : zP} {S : ZM} {x : Nat} (a b c : Int32) (hb : (b.toUInt32 % 65536).toInt32 = b) (hx : mK S x = 6) (hc : zMet l yX4_setOrder (Cond.code yX4_setOrder cX4_setOrder 5 (some .char) :: LWc) ({ frames := 45, cells := 2, slots := 12, locals := 1001 } : Room) 2 12 [zr (some x), zi a, zi b] S P) (hv : ∀ (v : Option ZV) (S1 : ZM), P (.inl v) S1 → ∃ z : Int32, v = some (zi (z))) : zMet l yL_plain (Cond.code yL_plain cL_plain 5 (some .int) :: LWl) ({ frames := 47, cells := 5, slots := 42, locals := 1050 } : Room) 5 42 [zr (some x), zi 22, zi a, zi b, zi c] S P := by
  refine zMet.of' [some (zr (some x)), some (zi 22), some (zi a), some (zi b), some (zi c)] hl0 (by decide) rfl (Nat.le_of_ble_eq_true rfl) rfl ?_
  intro X C N hR hN0 hX F
  subst hX
  have hRc : (xR X).cells = 5 := by rw [hR]
  have hRs : (xR X).slots = 42 := by rw [hR]
  refine z_iload_n C rfl dL_plain_0 ?_
  refine z_tableIn 252 C dL_plain_1 (by decide) (by decide) rfl (by decide) ?_
  refine z_aload_n C rfl dL_plain_252 ?_
  refine z_iload_n C rfl dL_plain_253 ?_
  refine z_iload_n C rfl dL_plain_254 ?_
  refine z_i2c C dL_plain_255 ?_
  refine z_int hb ?_
  refine z_callC 2 [zi a, zi b] C rfl (hc) rfl (zgoodV2 LWl_good (fun w h => ul_c h) wq94 wq95 wq96 (ul_c wc58) wq97) rfl rfl rfl (by decide +kernel) rfl (by rw [hR]; exact ⟨Nat.le_of_ble_eq_true rfl, Nat.le_of_ble_eq_true rfl⟩) hx (by rw [hR]; exact ⟨Nat.le_of_ble_eq_true rfl, Nat.le_of_ble_eq_true rfl⟩) (Nat.le_of_ble_eq_true rfl) dL_plain_256 (fun v256 S256 h256 => ?_) (fun E256 S256 h256 => ?_)
  · obtain ⟨z, rfl⟩ := hv _ _ h256
    refine z_ireturn C F (Nat.le_of_ble_eq_true rfl) (Nat.le_of_ble_eq_true rfl) dL_plain_259 ?_
    exact h256
  · exact z_out C F N (Nat.le_of_ble_eq_true rfl) (Nat.le_of_ble_eq_true rfl) h256
set_option maxRecDepth 100000 in
set_option maxHeartbeats 4000000 in
theorem plain_23 {l : Launch} (hl0 : l.stackTraces = false) {P : zP} {S : ZM} {x : Nat} (a b c : Int32) (hx : mK S x = 6) (hc : zMet l yX4_setLimit (Cond.code yX4_setLimit cX4_setLimit 5 (some .int) :: LWc) ({ frames := 45, cells := 2, slots := 12, locals := 1001 } : Room) 2 12 [zr (some x), zi a, zi b] S P) (hv : ∀ (v : Option ZV) (S1 : ZM), P (.inl v) S1 → ∃ z : Int32, v = some (zi (z))) : zMet l yL_plain (Cond.code yL_plain cL_plain 5 (some .int) :: LWl) ({ frames := 47, cells := 5, slots := 42, locals := 1050 } : Room) 5 42 [zr (some x), zi 23, zi a, zi b, zi c] S P := by
  refine zMet.of' [some (zr (some x)), some (zi 23), some (zi a), some (zi b), some (zi c)] hl0 (by decide) rfl (Nat.le_of_ble_eq_true rfl) rfl ?_
  intro X C N hR hN0 hX F
  subst hX
  have hRc : (xR X).cells = 5 := by rw [hR]
  have hRs : (xR X).slots = 42 := by rw [hR]
  refine z_iload_n C rfl dL_plain_0 ?_
  refine z_tableOut 260 C dL_plain_1 (by decide) (by decide) ?_
  refine z_aload_n C rfl dL_plain_260 ?_
  refine z_iload_n C rfl dL_plain_261 ?_
  refine z_iload_n C rfl dL_plain_262 ?_
  refine z_callC 2 [zi a, zi b] C rfl (hc) rfl (zgoodV2 LWl_good (fun w h => ul_c h) wq98 wq99 wq100 (ul_c wc58) wq101) rfl rfl rfl (by decide +kernel) rfl (by rw [hR]; exact ⟨Nat.le_of_ble_eq_true rfl, Nat.le_of_ble_eq_true rfl⟩) hx (by rw [hR]; exact ⟨Nat.le_of_ble_eq_true rfl, Nat.le_of_ble_eq_true rfl⟩) (Nat.le_of_ble_eq_true rfl) dL_plain_263 (fun v263 S263 h263 => ?_) (fun E263 S263 h263 => ?_)
  · obtain ⟨z, rfl⟩ := hv _ _ h263
    refine z_ireturn C F (Nat.le_of_ble_eq_true rfl) (Nat.le_of_ble_eq_true rfl) dL_plain_266 ?_
    exact h263
  · exact z_out C F N (Nat.le_of_ble_eq_true rfl) (Nat.le_of_ble_eq_true rfl) h263
set_option maxRecDepth 100000 in
set_option maxHeartbeats 4000000 in
theorem asked_0 {l : Launch} (hl0 : l.stackTraces = false) {P : zP} {S : ZM} {x : Nat} (a b : Int32) (hx : mK S x = 6) (hc : zMet l yX4_lengthOf (Cond.code yX4_lengthOf cX4_lengthOf 2 (some .int) :: LWc) ({ frames := 7, cells := 1, slots := 6, locals := 108 } : Room) 1 6 [zr (some x), zi a] S P) (hv : ∀ (v : Option ZV) (S1 : ZM), P (.inl v) S1 → ∃ z : Int32, v = some (zi (z))) : zMet l yL_asked (Cond.code yL_asked cL_asked 4 (some .int) :: LWl) ({ frames := 46, cells := 2, slots := 12, locals := 1040 } : Room) 2 12 [zr (some x), zi 0, zi a, zi b] S P := by
  refine zMet.of' [some (zr (some x)), some (zi 0), some (zi a), some (zi b)] hl0 (by decide) rfl (Nat.le_of_ble_eq_true rfl) rfl ?_
  intro X C N hR hN0 hX F
  subst hX
  have hRc : (xR X).cells = 2 := by rw [hR]
  have hRs : (xR X).slots = 12 := by rw [hR]
  refine z_iload_n C rfl dL_asked_0 ?_
  refine z_tableIn 96 C dL_asked_1 (by decide) (by decide) rfl (by decide) ?_
  refine z_aload_n C rfl dL_asked_96 ?_
  refine z_iload_n C rfl dL_asked_97 ?_
  refine z_callC 1 [zi a] C rfl (hc) rfl (zgoodV2 LWl_good (fun w h => ul_c h) wq110 wq111 wq112 (ul_c wc58) wq113) rfl rfl rfl (by decide +kernel) rfl (by rw [hR]; exact ⟨Nat.le_of_ble_eq_true rfl, Nat.le_of_ble_eq_true rfl⟩) hx (by rw [hR]; exact ⟨Nat.le_of_ble_eq_true rfl, Nat.le_of_ble_eq_true rfl⟩) (Nat.le_of_ble_eq_true rfl) dL_asked_98 (fun v98 S98 h98 => ?_) (fun E98 S98 h98 => ?_)
  · obtain ⟨z, rfl⟩ := hv _ _ h98
    refine z_ireturn C F (Nat.le_of_ble_eq_true rfl) (Nat.le_of_ble_eq_true rfl) dL_asked_101 ?_
    exact h98
  · exact z_out C F N (Nat.le_of_ble_eq_true rfl) (Nat.le_of_ble_eq_true rfl) h98
set_option maxRecDepth 100000 in
set_option maxHeartbeats 4000000 in
theorem asked_1 {l : Launch} (hl0 : l.stackTraces = false) {P : zP} {S : ZM} {x : Nat} (a b : Int32) (hx : mK S x = 6) (hc : zMet l yX4_ratingOf (Cond.code yX4_ratingOf cX4_ratingOf 2 (some .int) :: LWc) ({ frames := 7, cells := 1, slots := 6, locals := 108 } : Room) 1 6 [zr (some x), zi a] S P) (hv : ∀ (v : Option ZV) (S1 : ZM), P (.inl v) S1 → ∃ z : Int32, v = some (zi (z))) : zMet l yL_asked (Cond.code yL_asked cL_asked 4 (some .int) :: LWl) ({ frames := 46, cells := 2, slots := 12, locals := 1040 } : Room) 2 12 [zr (some x), zi 1, zi a, zi b] S P := by
  refine zMet.of' [some (zr (some x)), some (zi 1), some (zi a), some (zi b)] hl0 (by decide) rfl (Nat.le_of_ble_eq_true rfl) rfl ?_
  intro X C N hR hN0 hX F
  subst hX
  have hRc : (xR X).cells = 2 := by rw [hR]
  have hRs : (xR X).slots = 12 := by rw [hR]
  refine z_iload_n C rfl dL_asked_0 ?_
  refine z_tableIn 102 C dL_asked_1 (by decide) (by decide) rfl (by decide) ?_
  refine z_aload_n C rfl dL_asked_102 ?_
  refine z_iload_n C rfl dL_asked_103 ?_
  refine z_callC 1 [zi a] C rfl (hc) rfl (zgoodV2 LWl_good (fun w h => ul_c h) wq114 wq115 wq116 (ul_c wc58) wq117) rfl rfl rfl (by decide +kernel) rfl (by rw [hR]; exact ⟨Nat.le_of_ble_eq_true rfl, Nat.le_of_ble_eq_true rfl⟩) hx (by rw [hR]; exact ⟨Nat.le_of_ble_eq_true rfl, Nat.le_of_ble_eq_true rfl⟩) (Nat.le_of_ble_eq_true rfl) dL_asked_104 (fun v104 S104 h104 => ?_) (fun E104 S104 h104 => ?_)
  · obtain ⟨z, rfl⟩ := hv _ _ h104
    refine z_ireturn C F (Nat.le_of_ble_eq_true rfl) (Nat.le_of_ble_eq_true rfl) dL_asked_107 ?_
    exact h104
  · exact z_out C F N (Nat.le_of_ble_eq_true rfl) (Nat.le_of_ble_eq_true rfl) h104
set_option maxRecDepth 100000 in
set_option maxHeartbeats 4000000 in
theorem asked_2 {l : Launch} (hl0 : l.stackTraces = false) {P : zP} {S : ZM} {x : Nat} (a b : Int32) (hx : mK S x = 6) (hc : zMet l yX4_playsOf (Cond.code yX4_playsOf cX4_playsOf 2 (some .int) :: LWc) ({ frames := 7, cells := 1, slots := 6, locals := 108 } : Room) 1 6 [zr (some x), zi a] S P) (hv : ∀ (v : Option ZV) (S1 : ZM), P (.inl v) S1 → ∃ z : Int32, v = some (zi (z))) : zMet l yL_asked (Cond.code yL_asked cL_asked 4 (some .int) :: LWl) ({ frames := 46, cells := 2, slots := 12, locals := 1040 } : Room) 2 12 [zr (some x), zi 2, zi a, zi b] S P := by
  refine zMet.of' [some (zr (some x)), some (zi 2), some (zi a), some (zi b)] hl0 (by decide) rfl (Nat.le_of_ble_eq_true rfl) rfl ?_
  intro X C N hR hN0 hX F
  subst hX
  have hRc : (xR X).cells = 2 := by rw [hR]
  have hRs : (xR X).slots = 12 := by rw [hR]
  refine z_iload_n C rfl dL_asked_0 ?_
  refine z_tableIn 108 C dL_asked_1 (by decide) (by decide) rfl (by decide) ?_
  refine z_aload_n C rfl dL_asked_108 ?_
  refine z_iload_n C rfl dL_asked_109 ?_
  refine z_callC 1 [zi a] C rfl (hc) rfl (zgoodV2 LWl_good (fun w h => ul_c h) wq118 wq119 wq120 (ul_c wc58) wq121) rfl rfl rfl (by decide +kernel) rfl (by rw [hR]; exact ⟨Nat.le_of_ble_eq_true rfl, Nat.le_of_ble_eq_true rfl⟩) hx (by rw [hR]; exact ⟨Nat.le_of_ble_eq_true rfl, Nat.le_of_ble_eq_true rfl⟩) (Nat.le_of_ble_eq_true rfl) dL_asked_110 (fun v110 S110 h110 => ?_) (fun E110 S110 h110 => ?_)
  · obtain ⟨z, rfl⟩ := hv _ _ h110
    refine z_ireturn C F (Nat.le_of_ble_eq_true rfl) (Nat.le_of_ble_eq_true rfl) dL_asked_113 ?_
    exact h110
  · exact z_out C F N (Nat.le_of_ble_eq_true rfl) (Nat.le_of_ble_eq_true rfl) h110
set_option maxRecDepth 100000 in
set_option maxHeartbeats 4000000 in
theorem asked_3 {l : Launch} (hl0 : l.stackTraces = false) {P : zP} {S : ZM} {x : Nat} (a b : Int32) (hx : mK S x = 6) (hc : zMet l yX4_playedLast (Cond.code yX4_playedLast cX4_playedLast 3 (some .int) :: LWc) ({ frames := 7, cells := 2, slots := 12, locals := 108 } : Room) 2 12 [zr (some x), zi a] S P) (hv : ∀ (v : Option ZV) (S1 : ZM), P (.inl v) S1 → ∃ z : Int32, v = some (zi (z))) : zMet l yL_asked (Cond.code yL_asked cL_asked 4 (some .int) :: LWl) ({ frames := 46, cells := 2, slots := 12, locals := 1040 } : Room) 2 12 [zr (some x), zi 3, zi a, zi b] S P := by
  refine zMet.of' [some (zr (some x)), some (zi 3), some (zi a), some (zi b)] hl0 (by decide) rfl (Nat.le_of_ble_eq_true rfl) rfl ?_
  intro X C N hR hN0 hX F
  subst hX
  have hRc : (xR X).cells = 2 := by rw [hR]
  have hRs : (xR X).slots = 12 := by rw [hR]
  refine z_iload_n C rfl dL_asked_0 ?_
  refine z_tableIn 114 C dL_asked_1 (by decide) (by decide) rfl (by decide) ?_
  refine z_aload_n C rfl dL_asked_114 ?_
  refine z_iload_n C rfl dL_asked_115 ?_
  refine z_callC 1 [zi a] C rfl (hc) rfl (zgoodV2 LWl_good (fun w h => ul_c h) wq122 wq123 wq124 (ul_c wc58) wq125) rfl rfl rfl (by decide +kernel) rfl (by rw [hR]; exact ⟨Nat.le_of_ble_eq_true rfl, Nat.le_of_ble_eq_true rfl⟩) hx (by rw [hR]; exact ⟨Nat.le_of_ble_eq_true rfl, Nat.le_of_ble_eq_true rfl⟩) (Nat.le_of_ble_eq_true rfl) dL_asked_116 (fun v116 S116 h116 => ?_) (fun E116 S116 h116 => ?_)
  · obtain ⟨z, rfl⟩ := hv _ _ h116
    refine z_ireturn C F (Nat.le_of_ble_eq_true rfl) (Nat.le_of_ble_eq_true rfl) dL_asked_119 ?_
    exact h116
  · exact z_out C F N (Nat.le_of_ble_eq_true rfl) (Nat.le_of_ble_eq_true rfl) h116
set_option maxRecDepth 100000 in
set_option maxHeartbeats 4000000 in
theorem asked_4 {l : Launch} (hl0 : l.stackTraces = false) {P : zP} {S : ZM} {x : Nat} (a b : Int32) (hx : mK S x = 6) (hc : zMet l yX4_tagBits (Cond.code yX4_tagBits cX4_tagBits 2 (some .int) :: LWc) ({ frames := 7, cells := 1, slots := 6, locals := 108 } : Room) 1 6 [zr (some x), zi a] S P) (hv : ∀ (v : Option ZV) (S1 : ZM), P (.inl v) S1 → ∃ z : Int32, v = some (zi (z))) : zMet l yL_asked (Cond.code yL_asked cL_asked 4 (some .int) :: LWl) ({ frames := 46, cells := 2, slots := 12, locals := 1040 } : Room) 2 12 [zr (some x), zi 4, zi a, zi b] S P := by
  refine zMet.of' [some (zr (some x)), some (zi 4), some (zi a), some (zi b)] hl0 (by decide) rfl (Nat.le_of_ble_eq_true rfl) rfl ?_
  intro X C N hR hN0 hX F
  subst hX
  have hRc : (xR X).cells = 2 := by rw [hR]
  have hRs : (xR X).slots = 12 := by rw [hR]
  refine z_iload_n C rfl dL_asked_0 ?_
  refine z_tableIn 120 C dL_asked_1 (by decide) (by decide) rfl (by decide) ?_
  refine z_aload_n C rfl dL_asked_120 ?_
  refine z_iload_n C rfl dL_asked_121 ?_
  refine z_callC 1 [zi a] C rfl (hc) rfl (zgoodV2 LWl_good (fun w h => ul_c h) wq126 wq127 wq128 (ul_c wc58) wq129) rfl rfl rfl (by decide +kernel) rfl (by rw [hR]; exact ⟨Nat.le_of_ble_eq_true rfl, Nat.le_of_ble_eq_true rfl⟩) hx (by rw [hR]; exact ⟨Nat.le_of_ble_eq_true rfl, Nat.le_of_ble_eq_true rfl⟩) (Nat.le_of_ble_eq_true rfl) dL_asked_122 (fun v122 S122 h122 => ?_) (fun E122 S122 h122 => ?_)
  · obtain ⟨z, rfl⟩ := hv _ _ h122
    refine z_ireturn C F (Nat.le_of_ble_eq_true rfl) (Nat.le_of_ble_eq_true rfl) dL_asked_125 ?_
    exact h122
  · exact z_out C F N (Nat.le_of_ble_eq_true rfl) (Nat.le_of_ble_eq_true rfl) h122
set_option maxRecDepth 100000 in
set_option maxHeartbeats 4000000 in
theorem asked_10 {l : Launch} (hl0 : l.stackTraces = false) {P : zP} {S : ZM} {x : Nat} (a b : Int32) (hx : mK S x = 6) (hc : zMet l yX4_sizeOf (Cond.code yX4_sizeOf cX4_sizeOf 2 (some .int) :: LWc) ({ frames := 7, cells := 1, slots := 6, locals := 108 } : Room) 1 6 [zr (some x), zi a] S P) (hv : ∀ (v : Option ZV) (S1 : ZM), P (.inl v) S1 → ∃ z : Int32, v = some (zi (z))) : zMet l yL_asked (Cond.code yL_asked cL_asked 4 (some .int) :: LWl) ({ frames := 46, cells := 2, slots := 12, locals := 1040 } : Room) 2 12 [zr (some x), zi 10, zi a, zi b] S P := by
  refine zMet.of' [some (zr (some x)), some (zi 10), some (zi a), some (zi b)] hl0 (by decide) rfl (Nat.le_of_ble_eq_true rfl) rfl ?_
  intro X C N hR hN0 hX F
  subst hX
  have hRc : (xR X).cells = 2 := by rw [hR]
  have hRs : (xR X).slots = 12 := by rw [hR]
  refine z_iload_n C rfl dL_asked_0 ?_
  refine z_tableIn 159 C dL_asked_1 (by decide) (by decide) rfl (by decide) ?_
  refine z_aload_n C rfl dL_asked_159 ?_
  refine z_iload_n C rfl dL_asked_160 ?_
  refine z_callC 1 [zi a] C rfl (hc) rfl (zgoodV2 LWl_good (fun w h => ul_c h) wq150 wq151 wq152 (ul_c wc58) wq153) rfl rfl rfl (by decide +kernel) rfl (by rw [hR]; exact ⟨Nat.le_of_ble_eq_true rfl, Nat.le_of_ble_eq_true rfl⟩) hx (by rw [hR]; exact ⟨Nat.le_of_ble_eq_true rfl, Nat.le_of_ble_eq_true rfl⟩) (Nat.le_of_ble_eq_true rfl) dL_asked_161 (fun v161 S161 h161 => ?_) (fun E161 S161 h161 => ?_)
  · obtain ⟨z, rfl⟩ := hv _ _ h161
    refine z_ireturn C F (Nat.le_of_ble_eq_true rfl) (Nat.le_of_ble_eq_true rfl) dL_asked_164 ?_
    exact h161
  · exact z_out C F N (Nat.le_of_ble_eq_true rfl) (Nat.le_of_ble_eq_true rfl) h161
set_option maxRecDepth 100000 in
set_option maxHeartbeats 4000000 in
theorem asked_11 {l : Launch} (hl0 : l.stackTraces = false) {P : zP} {S : ZM} {x : Nat} (a b : Int32) (hx : mK S x = 6) (hc : zMet l yX4_holds (Cond.code yX4_holds cX4_holds 4 (some .boolean) :: LWc) ({ frames := 42, cells := 2, slots := 12, locals := 928 } : Room) 2 12 [zr (some x), zi a, zi b] S P) (hv : ∀ (v : Option ZV) (S1 : ZM), P (.inl v) S1 → ∃ z : Bool, v = some (zi (bI z))) : zMet l yL_asked (Cond.code yL_asked cL_asked 4 (some .int) :: LWl) ({ frames := 46, cells := 2, slots := 12, locals := 1040 } : Room) 2 12 [zr (some x), zi 11, zi a, zi b] S P := by
  refine zMet.of' [some (zr (some x)), some (zi 11), some (zi a), some (zi b)] hl0 (by decide) rfl (Nat.le_of_ble_eq_true rfl) rfl ?_
  intro X C N hR hN0 hX F
  subst hX
  have hRc : (xR X).cells = 2 := by rw [hR]
  have hRs : (xR X).slots = 12 := by rw [hR]
  refine z_iload_n C rfl dL_asked_0 ?_
  refine z_tableIn 165 C dL_asked_1 (by decide) (by decide) rfl (by decide) ?_
  refine z_aload_n C rfl dL_asked_165 ?_
  refine z_iload_n C rfl dL_asked_166 ?_
  refine z_iload_n C rfl dL_asked_167 ?_
  refine z_callC 2 [zi a, zi b] C rfl (hc) rfl (zgoodV2 LWl_good (fun w h => ul_c h) wq154 wq155 wq156 (ul_c wc58) wq157) rfl rfl rfl (by decide +kernel) rfl (by rw [hR]; exact ⟨Nat.le_of_ble_eq_true rfl, Nat.le_of_ble_eq_true rfl⟩) hx (by rw [hR]; exact ⟨Nat.le_of_ble_eq_true rfl, Nat.le_of_ble_eq_true rfl⟩) (Nat.le_of_ble_eq_true rfl) dL_asked_168 (fun v168 S168 h168 => ?_) (fun E168 S168 h168 => ?_)
  · obtain ⟨z, rfl⟩ := hv _ _ h168
    refine z_callS 1 [zi (bI z)] C (L_told hl0 _) rfl (zgoodS LWl_good wq158 wq159 wq4 wq160) rfl rfl rfl (by decide +kernel) rfl (by rw [hR]; exact ⟨Nat.le_of_ble_eq_true rfl, Nat.le_of_ble_eq_true rfl⟩) (by rw [hR]; exact ⟨Nat.le_of_ble_eq_true rfl, Nat.le_of_ble_eq_true rfl⟩) (Nat.le_of_ble_eq_true rfl) dL_asked_171 (fun v171 S171 h171 => ?_) (fun E171 S171 h171 => ?_)
    · obtain ⟨rfl, q9⟩ := h171
      subst q9
      refine z_int (tlI_b z) ?_
      refine z_ireturn C F (Nat.le_of_ble_eq_true rfl) (Nat.le_of_ble_eq_true rfl) dL_asked_174 ?_
      exact h168
    · exact h171.elim
  · exact z_out C F N (Nat.le_of_ble_eq_true rfl) (Nat.le_of_ble_eq_true rfl) h168
set_option maxRecDepth 100000 in
set_option maxHeartbeats 4000000 in
theorem asked_12 {l : Launch} (hl0 : l.stackTraces = false) {P : zP} {S : ZM} {x : Nat} (a b : Int32) (hx : mK S x = 6) (hc : zMet l yX4_matches (Cond.code yX4_matches cX4_matches 2 (some .int) :: LWc) ({ frames := 42, cells := 1, slots := 6, locals := 928 } : Room) 1 6 [zr (some x), zi a] S P) (hv : ∀ (v : Option ZV) (S1 : ZM), P (.inl v) S1 → ∃ z : Int32, v = some (zi (z))) : zMet l yL_asked (Cond.code yL_asked cL_asked 4 (some .int) :: LWl) ({ frames := 46, cells := 2, slots := 12, locals := 1040 } : Room) 2 12 [zr (some x), zi 12, zi a, zi b] S P := by
  refine zMet.of' [some (zr (some x)), some (zi 12), some (zi a), some (zi b)] hl0 (by decide) rfl (Nat.le_of_ble_eq_true rfl) rfl ?_
  intro X C N hR hN0 hX F
  subst hX
  have hRc : (xR X).cells = 2 := by rw [hR]
  have hRs : (xR X).slots = 12 := by rw [hR]
  refine z_iload_n C rfl dL_asked_0 ?_
  refine z_tableIn 175 C dL_asked_1 (by decide) (by decide) rfl (by decide) ?_
  refine z_aload_n C rfl dL_asked_175 ?_
  refine z_iload_n C rfl dL_asked_176 ?_
  refine z_callC 1 [zi a] C rfl (hc) rfl (zgoodV2 LWl_good (fun w h => ul_c h) wq161 wq162 wq163 (ul_c wc58) wq164) rfl rfl rfl (by decide +kernel) rfl (by rw [hR]; exact ⟨Nat.le_of_ble_eq_true rfl, Nat.le_of_ble_eq_true rfl⟩) hx (by rw [hR]; exact ⟨Nat.le_of_ble_eq_true rfl, Nat.le_of_ble_eq_true rfl⟩) (Nat.le_of_ble_eq_true rfl) dL_asked_177 (fun v177 S177 h177 => ?_) (fun E177 S177 h177 => ?_)
  · obtain ⟨z, rfl⟩ := hv _ _ h177
    refine z_ireturn C F (Nat.le_of_ble_eq_true rfl) (Nat.le_of_ble_eq_true rfl) dL_asked_180 ?_
    exact h177
  · exact z_out C F N (Nat.le_of_ble_eq_true rfl) (Nat.le_of_ble_eq_true rfl) h177
set_option maxRecDepth 100000 in
set_option maxHeartbeats 4000000 in
theorem asked_13 {l : Launch} (hl0 : l.stackTraces = false) {P : zP} {S : ZM} {x : Nat} (a b : Int32) (hx : mK S x = 6) (hc : zMet l yX4_size (Cond.code yX4_size cX4_size 2 (some .int) :: LWc) ({ frames := 7, cells := 1, slots := 6, locals := 108 } : Room) 1 6 [zr (some x), zi a] S P) (hv : ∀ (v : Option ZV) (S1 : ZM), P (.inl v) S1 → ∃ z : Int32, v = some (zi (z))) : zMet l yL_asked (Cond.code yL_asked cL_asked 4 (some .int) :: LWl) ({ frames := 46, cells := 2, slots := 12, locals := 1040 } : Room) 2 12 [zr (some x), zi 13, zi a, zi b] S P := by
  refine zMet.of' [some (zr (some x)), some (zi 13), some (zi a), some (zi b)] hl0 (by decide) rfl (Nat.le_of_ble_eq_true rfl) rfl ?_
  intro X C N hR hN0 hX F
  subst hX
  have hRc : (xR X).cells = 2 := by rw [hR]
  have hRs : (xR X).slots = 12 := by rw [hR]
  refine z_iload_n C rfl dL_asked_0 ?_
  refine z_tableIn 181 C dL_asked_1 (by decide) (by decide) rfl (by decide) ?_
  refine z_aload_n C rfl dL_asked_181 ?_
  refine z_iload_n C rfl dL_asked_182 ?_
  refine z_callC 1 [zi a] C rfl (hc) rfl (zgoodV2 LWl_good (fun w h => ul_c h) wq165 wq166 wq167 (ul_c wc58) wq168) rfl rfl rfl (by decide +kernel) rfl (by rw [hR]; exact ⟨Nat.le_of_ble_eq_true rfl, Nat.le_of_ble_eq_true rfl⟩) hx (by rw [hR]; exact ⟨Nat.le_of_ble_eq_true rfl, Nat.le_of_ble_eq_true rfl⟩) (Nat.le_of_ble_eq_true rfl) dL_asked_183 (fun v183 S183 h183 => ?_) (fun E183 S183 h183 => ?_)
  · obtain ⟨z, rfl⟩ := hv _ _ h183
    refine z_ireturn C F (Nat.le_of_ble_eq_true rfl) (Nat.le_of_ble_eq_true rfl) dL_asked_186 ?_
    exact h183
  · exact z_out C F N (Nat.le_of_ble_eq_true rfl) (Nat.le_of_ble_eq_true rfl) h183
set_option maxRecDepth 100000 in
set_option maxHeartbeats 4000000 in
theorem asked_14 {l : Launch} (hl0 : l.stackTraces = false) {P : zP} {S : ZM} {x : Nat} (a b : Int32) (hx : mK S x = 6) (hc : zMet l yX4_trackAt (Cond.code yX4_trackAt cX4_trackAt 7 (some .int) :: LWc) ({ frames := 7, cells := 2, slots := 12, locals := 108 } : Room) 2 12 [zr (some x), zi a, zi b] S P) (hv : ∀ (v : Option ZV) (S1 : ZM), P (.inl v) S1 → ∃ z : Int32, v = some (zi (z))) : zMet l yL_asked (Cond.code yL_asked cL_asked 4 (some .int) :: LWl) ({ frames := 46, cells := 2, slots := 12, locals := 1040 } : Room) 2 12 [zr (some x), zi 14, zi a, zi b] S P := by
  refine zMet.of' [some (zr (some x)), some (zi 14), some (zi a), some (zi b)] hl0 (by decide) rfl (Nat.le_of_ble_eq_true rfl) rfl ?_
  intro X C N hR hN0 hX F
  subst hX
  have hRc : (xR X).cells = 2 := by rw [hR]
  have hRs : (xR X).slots = 12 := by rw [hR]
  refine z_iload_n C rfl dL_asked_0 ?_
  refine z_tableIn 187 C dL_asked_1 (by decide) (by decide) rfl (by decide) ?_
  refine z_aload_n C rfl dL_asked_187 ?_
  refine z_iload_n C rfl dL_asked_188 ?_
  refine z_iload_n C rfl dL_asked_189 ?_
  refine z_callC 2 [zi a, zi b] C rfl (hc) rfl (zgoodV2 LWl_good (fun w h => ul_c h) wq169 wq170 wq171 (ul_c wc58) wq172) rfl rfl rfl (by decide +kernel) rfl (by rw [hR]; exact ⟨Nat.le_of_ble_eq_true rfl, Nat.le_of_ble_eq_true rfl⟩) hx (by rw [hR]; exact ⟨Nat.le_of_ble_eq_true rfl, Nat.le_of_ble_eq_true rfl⟩) (Nat.le_of_ble_eq_true rfl) dL_asked_190 (fun v190 S190 h190 => ?_) (fun E190 S190 h190 => ?_)
  · obtain ⟨z, rfl⟩ := hv _ _ h190
    refine z_ireturn C F (Nat.le_of_ble_eq_true rfl) (Nat.le_of_ble_eq_true rfl) dL_asked_193 ?_
    exact h190
  · exact z_out C F N (Nat.le_of_ble_eq_true rfl) (Nat.le_of_ble_eq_true rfl) h190
set_option maxRecDepth 100000 in
set_option maxHeartbeats 4000000 in
theorem asked_15 {l : Launch} (hl0 : l.stackTraces = false) {P : zP} {S : ZM} {x : Nat} (a b : Int32) (hx : mK S x = 6) (hc : zMet l yX4_contains (Cond.code yX4_contains cX4_contains 3 (some .boolean) :: LWc) ({ frames := 7, cells := 2, slots := 12, locals := 108 } : Room) 2 12 [zr (some x), zi a, zi b] S P) (hv : ∀ (v : Option ZV) (S1 : ZM), P (.inl v) S1 → ∃ z : Bool, v = some (zi (bI z))) : zMet l yL_asked (Cond.code yL_asked cL_asked 4 (some .int) :: LWl) ({ frames := 46, cells := 2, slots := 12, locals := 1040 } : Room) 2 12 [zr (some x), zi 15, zi a, zi b] S P := by
  refine zMet.of' [some (zr (some x)), some (zi 15), some (zi a), some (zi b)] hl0 (by decide) rfl (Nat.le_of_ble_eq_true rfl) rfl ?_
  intro X C N hR hN0 hX F
  subst hX
  have hRc : (xR X).cells = 2 := by rw [hR]
  have hRs : (xR X).slots = 12 := by rw [hR]
  refine z_iload_n C rfl dL_asked_0 ?_
  refine z_tableIn 194 C dL_asked_1 (by decide) (by decide) rfl (by decide) ?_
  refine z_aload_n C rfl dL_asked_194 ?_
  refine z_iload_n C rfl dL_asked_195 ?_
  refine z_iload_n C rfl dL_asked_196 ?_
  refine z_callC 2 [zi a, zi b] C rfl (hc) rfl (zgoodV2 LWl_good (fun w h => ul_c h) wq173 wq174 wq175 (ul_c wc58) wq176) rfl rfl rfl (by decide +kernel) rfl (by rw [hR]; exact ⟨Nat.le_of_ble_eq_true rfl, Nat.le_of_ble_eq_true rfl⟩) hx (by rw [hR]; exact ⟨Nat.le_of_ble_eq_true rfl, Nat.le_of_ble_eq_true rfl⟩) (Nat.le_of_ble_eq_true rfl) dL_asked_197 (fun v197 S197 h197 => ?_) (fun E197 S197 h197 => ?_)
  · obtain ⟨z, rfl⟩ := hv _ _ h197
    refine z_callS 1 [zi (bI z)] C (L_told hl0 _) rfl (zgoodS LWl_good wq158 wq159 wq4 wq160) rfl rfl rfl (by decide +kernel) rfl (by rw [hR]; exact ⟨Nat.le_of_ble_eq_true rfl, Nat.le_of_ble_eq_true rfl⟩) (by rw [hR]; exact ⟨Nat.le_of_ble_eq_true rfl, Nat.le_of_ble_eq_true rfl⟩) (Nat.le_of_ble_eq_true rfl) dL_asked_200 (fun v200 S200 h200 => ?_) (fun E200 S200 h200 => ?_)
    · obtain ⟨rfl, q9⟩ := h200
      subst q9
      refine z_int (tlI_b z) ?_
      refine z_ireturn C F (Nat.le_of_ble_eq_true rfl) (Nat.le_of_ble_eq_true rfl) dL_asked_203 ?_
      exact h197
    · exact h200.elim
  · exact z_out C F N (Nat.le_of_ble_eq_true rfl) (Nat.le_of_ble_eq_true rfl) h197
set_option maxRecDepth 100000 in
set_option maxHeartbeats 4000000 in
theorem asked_16 {l : Launch} (hl0 : l.stackTraces = false) {P : zP} {S : ZM} {x : Nat} (a b : Int32) (hx : mK S x = 6) (hc : zMet l yX4_containsByRounds (Cond.code yX4_containsByRounds cX4_containsByRounds 3 (some .boolean) :: LWc) ({ frames := 44, cells := 2, slots := 12, locals := 981 } : Room) 2 12 [zr (some x), zi a, zi b] S P) (hv : ∀ (v : Option ZV) (S1 : ZM), P (.inl v) S1 → ∃ z : Bool, v = some (zi (bI z))) : zMet l yL_asked (Cond.code yL_asked cL_asked 4 (some .int) :: LWl) ({ frames := 46, cells := 2, slots := 12, locals := 1040 } : Room) 2 12 [zr (some x), zi 16, zi a, zi b] S P := by
  refine zMet.of' [some (zr (some x)), some (zi 16), some (zi a), some (zi b)] hl0 (by decide) rfl (Nat.le_of_ble_eq_true rfl) rfl ?_
  intro X C N hR hN0 hX F
  subst hX
  have hRc : (xR X).cells = 2 := by rw [hR]
  have hRs : (xR X).slots = 12 := by rw [hR]
  refine z_iload_n C rfl dL_asked_0 ?_
  refine z_tableIn 204 C dL_asked_1 (by decide) (by decide) rfl (by decide) ?_
  refine z_aload_n C rfl dL_asked_204 ?_
  refine z_iload_n C rfl dL_asked_205 ?_
  refine z_iload_n C rfl dL_asked_206 ?_
  refine z_callC 2 [zi a, zi b] C rfl (hc) rfl (zgoodV2 LWl_good (fun w h => ul_c h) wq177 wq178 wq179 (ul_c wc58) wq180) rfl rfl rfl (by decide +kernel) rfl (by rw [hR]; exact ⟨Nat.le_of_ble_eq_true rfl, Nat.le_of_ble_eq_true rfl⟩) hx (by rw [hR]; exact ⟨Nat.le_of_ble_eq_true rfl, Nat.le_of_ble_eq_true rfl⟩) (Nat.le_of_ble_eq_true rfl) dL_asked_207 (fun v207 S207 h207 => ?_) (fun E207 S207 h207 => ?_)
  · obtain ⟨z, rfl⟩ := hv _ _ h207
    refine z_callS 1 [zi (bI z)] C (L_told hl0 _) rfl (zgoodS LWl_good wq158 wq159 wq4 wq160) rfl rfl rfl (by decide +kernel) rfl (by rw [hR]; exact ⟨Nat.le_of_ble_eq_true rfl, Nat.le_of_ble_eq_true rfl⟩) (by rw [hR]; exact ⟨Nat.le_of_ble_eq_true rfl, Nat.le_of_ble_eq_true rfl⟩) (Nat.le_of_ble_eq_true rfl) dL_asked_210 (fun v210 S210 h210 => ?_) (fun E210 S210 h210 => ?_)
    · obtain ⟨rfl, q9⟩ := h210
      subst q9
      refine z_int (tlI_b z) ?_
      refine z_ireturn C F (Nat.le_of_ble_eq_true rfl) (Nat.le_of_ble_eq_true rfl) dL_asked_213 ?_
      exact h207
    · exact h210.elim
  · exact z_out C F N (Nat.le_of_ble_eq_true rfl) (Nat.le_of_ble_eq_true rfl) h207
set_option maxRecDepth 100000 in
set_option maxHeartbeats 4000000 in
theorem asked_17 {l : Launch} (hl0 : l.stackTraces = false) {P : zP} {S : ZM} {x : Nat} (a b : Int32) (hx : mK S x = 6) (hc : zMet l yX4_secondsOf (Cond.code yX4_secondsOf cX4_secondsOf 2 (some .int) :: LWc) ({ frames := 7, cells := 1, slots := 6, locals := 108 } : Room) 1 6 [zr (some x), zi a] S P) (hv : ∀ (v : Option ZV) (S1 : ZM), P (.inl v) S1 → ∃ z : Int32, v = some (zi (z))) : zMet l yL_asked (Cond.code yL_asked cL_asked 4 (some .int) :: LWl) ({ frames := 46, cells := 2, slots := 12, locals := 1040 } : Room) 2 12 [zr (some x), zi 17, zi a, zi b] S P := by
  refine zMet.of' [some (zr (some x)), some (zi 17), some (zi a), some (zi b)] hl0 (by decide) rfl (Nat.le_of_ble_eq_true rfl) rfl ?_
  intro X C N hR hN0 hX F
  subst hX
  have hRc : (xR X).cells = 2 := by rw [hR]
  have hRs : (xR X).slots = 12 := by rw [hR]
  refine z_iload_n C rfl dL_asked_0 ?_
  refine z_tableIn 214 C dL_asked_1 (by decide) (by decide) rfl (by decide) ?_
  refine z_aload_n C rfl dL_asked_214 ?_
  refine z_iload_n C rfl dL_asked_215 ?_
  refine z_callC 1 [zi a] C rfl (hc) rfl (zgoodV2 LWl_good (fun w h => ul_c h) wq181 wq182 wq183 (ul_c wc58) wq184) rfl rfl rfl (by decide +kernel) rfl (by rw [hR]; exact ⟨Nat.le_of_ble_eq_true rfl, Nat.le_of_ble_eq_true rfl⟩) hx (by rw [hR]; exact ⟨Nat.le_of_ble_eq_true rfl, Nat.le_of_ble_eq_true rfl⟩) (Nat.le_of_ble_eq_true rfl) dL_asked_216 (fun v216 S216 h216 => ?_) (fun E216 S216 h216 => ?_)
  · obtain ⟨z, rfl⟩ := hv _ _ h216
    refine z_ireturn C F (Nat.le_of_ble_eq_true rfl) (Nat.le_of_ble_eq_true rfl) dL_asked_219 ?_
    exact h216
  · exact z_out C F N (Nat.le_of_ble_eq_true rfl) (Nat.le_of_ble_eq_true rfl) h216
set_option maxRecDepth 100000 in
set_option maxHeartbeats 4000000 in
theorem asked_18 {l : Launch} (hl0 : l.stackTraces = false) {P : zP} {S : ZM} {x : Nat} (a b : Int32) (hx : mK S x = 6) (hc : zMet l yX4_common (Cond.code yX4_common cX4_common 3 (some .int) :: LWc) ({ frames := 7, cells := 2, slots := 12, locals := 108 } : Room) 2 12 [zr (some x), zi a, zi b] S P) (hv : ∀ (v : Option ZV) (S1 : ZM), P (.inl v) S1 → ∃ z : Int32, v = some (zi (z))) : zMet l yL_asked (Cond.code yL_asked cL_asked 4 (some .int) :: LWl) ({ frames := 46, cells := 2, slots := 12, locals := 1040 } : Room) 2 12 [zr (some x), zi 18, zi a, zi b] S P := by
  refine zMet.of' [some (zr (some x)), some (zi 18), some (zi a), some (zi b)] hl0 (by decide) rfl (Nat.le_of_ble_eq_true rfl) rfl ?_
  intro X C N hR hN0 hX F
  subst hX
  have hRc : (xR X).cells = 2 := by rw [hR]
  have hRs : (xR X).slots = 12 := by rw [hR]
  refine z_iload_n C rfl dL_asked_0 ?_
  refine z_tableIn 220 C dL_asked_1 (by decide) (by decide) rfl (by decide) ?_
  refine z_aload_n C rfl dL_asked_220 ?_
  refine z_iload_n C rfl dL_asked_221 ?_
  refine z_iload_n C rfl dL_asked_222 ?_
  refine z_callC 2 [zi a, zi b] C rfl (hc) rfl (zgoodV2 LWl_good (fun w h => ul_c h) wq185 wq186 wq187 (ul_c wc58) wq188) rfl rfl rfl (by decide +kernel) rfl (by rw [hR]; exact ⟨Nat.le_of_ble_eq_true rfl, Nat.le_of_ble_eq_true rfl⟩) hx (by rw [hR]; exact ⟨Nat.le_of_ble_eq_true rfl, Nat.le_of_ble_eq_true rfl⟩) (Nat.le_of_ble_eq_true rfl) dL_asked_223 (fun v223 S223 h223 => ?_) (fun E223 S223 h223 => ?_)
  · obtain ⟨z, rfl⟩ := hv _ _ h223
    refine z_ireturn C F (Nat.le_of_ble_eq_true rfl) (Nat.le_of_ble_eq_true rfl) dL_asked_226 ?_
    exact h223
  · exact z_out C F N (Nat.le_of_ble_eq_true rfl) (Nat.le_of_ble_eq_true rfl) h223
set_option maxRecDepth 100000 in
set_option maxHeartbeats 4000000 in
theorem asked_19 {l : Launch} (hl0 : l.stackTraces = false) {P : zP} {S : ZM} {x : Nat} (a b : Int32) (hx : mK S x = 6) (hc : zMet l yX4_dependsOn (Cond.code yX4_dependsOn cX4_dependsOn 4 (some .boolean) :: LWc) ({ frames := 7, cells := 2, slots := 12, locals := 108 } : Room) 2 12 [zr (some x), zi a, zi b] S P) (hv : ∀ (v : Option ZV) (S1 : ZM), P (.inl v) S1 → ∃ z : Bool, v = some (zi (bI z))) : zMet l yL_asked (Cond.code yL_asked cL_asked 4 (some .int) :: LWl) ({ frames := 46, cells := 2, slots := 12, locals := 1040 } : Room) 2 12 [zr (some x), zi 19, zi a, zi b] S P := by
  refine zMet.of' [some (zr (some x)), some (zi 19), some (zi a), some (zi b)] hl0 (by decide) rfl (Nat.le_of_ble_eq_true rfl) rfl ?_
  intro X C N hR hN0 hX F
  subst hX
  have hRc : (xR X).cells = 2 := by rw [hR]
  have hRs : (xR X).slots = 12 := by rw [hR]
  refine z_iload_n C rfl dL_asked_0 ?_
  refine z_tableIn 227 C dL_asked_1 (by decide) (by decide) rfl (by decide) ?_
  refine z_aload_n C rfl dL_asked_227 ?_
  refine z_iload_n C rfl dL_asked_228 ?_
  refine z_iload_n C rfl dL_asked_229 ?_
  refine z_callC 2 [zi a, zi b] C rfl (hc) rfl (zgoodV2 LWl_good (fun w h => ul_c h) wq189 wq190 wq191 (ul_c wc58) wq192) rfl rfl rfl (by decide +kernel) rfl (by rw [hR]; exact ⟨Nat.le_of_ble_eq_true rfl, Nat.le_of_ble_eq_true rfl⟩) hx (by rw [hR]; exact ⟨Nat.le_of_ble_eq_true rfl, Nat.le_of_ble_eq_true rfl⟩) (Nat.le_of_ble_eq_true rfl) dL_asked_230 (fun v230 S230 h230 => ?_) (fun E230 S230 h230 => ?_)
  · obtain ⟨z, rfl⟩ := hv _ _ h230
    refine z_callS 1 [zi (bI z)] C (L_told hl0 _) rfl (zgoodS LWl_good wq158 wq159 wq4 wq160) rfl rfl rfl (by decide +kernel) rfl (by rw [hR]; exact ⟨Nat.le_of_ble_eq_true rfl, Nat.le_of_ble_eq_true rfl⟩) (by rw [hR]; exact ⟨Nat.le_of_ble_eq_true rfl, Nat.le_of_ble_eq_true rfl⟩) (Nat.le_of_ble_eq_true rfl) dL_asked_233 (fun v233 S233 h233 => ?_) (fun E233 S233 h233 => ?_)
    · obtain ⟨rfl, q9⟩ := h233
      subst q9
      refine z_int (tlI_b z) ?_
      refine z_ireturn C F (Nat.le_of_ble_eq_true rfl) (Nat.le_of_ble_eq_true rfl) dL_asked_236 ?_
      exact h230
    · exact h233.elim
  · exact z_out C F N (Nat.le_of_ble_eq_true rfl) (Nat.le_of_ble_eq_true rfl) h230
set_option maxRecDepth 100000 in
set_option maxHeartbeats 4000000 in
theorem asked_20 {l : Launch} (hl0 : l.stackTraces = false) {P : zP} {S : ZM} {x : Nat} (a b : Int32) (hx : mK S x = 6) (hc : zMet l yX4_mixes (Cond.code yX4_mixes cX4_mixes 6 (some .int) :: LWc) ({ frames := 7, cells := 2, slots := 12, locals := 108 } : Room) 2 12 [zr (some x), zi a] S P) (hv : ∀ (v : Option ZV) (S1 : ZM), P (.inl v) S1 → ∃ z : Int32, v = some (zi (z))) : zMet l yL_asked (Cond.code yL_asked cL_asked 4 (some .int) :: LWl) ({ frames := 46, cells := 2, slots := 12, locals := 1040 } : Room) 2 12 [zr (some x), zi 20, zi a, zi b] S P := by
  refine zMet.of' [some (zr (some x)), some (zi 20), some (zi a), some (zi b)] hl0 (by decide) rfl (Nat.le_of_ble_eq_true rfl) rfl ?_
  intro X C N hR hN0 hX F
  subst hX
  have hRc : (xR X).cells = 2 := by rw [hR]
  have hRs : (xR X).slots = 12 := by rw [hR]
  refine z_iload_n C rfl dL_asked_0 ?_
  refine z_tableOut 237 C dL_asked_1 (by decide) (by decide) ?_
  refine z_aload_n C rfl dL_asked_237 ?_
  refine z_iload_n C rfl dL_asked_238 ?_
  refine z_callC 1 [zi a] C rfl (hc) rfl (zgoodV2 LWl_good (fun w h => ul_c h) wq193 wq194 wq195 (ul_c wc58) wq196) rfl rfl rfl (by decide +kernel) rfl (by rw [hR]; exact ⟨Nat.le_of_ble_eq_true rfl, Nat.le_of_ble_eq_true rfl⟩) hx (by rw [hR]; exact ⟨Nat.le_of_ble_eq_true rfl, Nat.le_of_ble_eq_true rfl⟩) (Nat.le_of_ble_eq_true rfl) dL_asked_239 (fun v239 S239 h239 => ?_) (fun E239 S239 h239 => ?_)
  · obtain ⟨z, rfl⟩ := hv _ _ h239
    refine z_ireturn C F (Nat.le_of_ble_eq_true rfl) (Nat.le_of_ble_eq_true rfl) dL_asked_242 ?_
    exact h239
  · exact z_out C F N (Nat.le_of_ble_eq_true rfl) (Nat.le_of_ble_eq_true rfl) h239
def esDeed : List (String × Int32) := [("java/lang/IndexOutOfBoundsException", -2001), ("java/lang/IllegalArgumentException", -2002), ("java/lang/IllegalStateException", -2003), ("java/lang/UnsupportedOperationException", -2004), ("java/util/NoSuchElementException", -2005)]
def esAsk : List (String × Int32) := [("java/lang/IndexOutOfBoundsException", -2001), ("java/lang/IllegalStateException", -2003), ("java/util/NoSuchElementException", -2005), ("java/lang/ArithmeticException", -2006)]
set_option maxRecDepth 100000 in
set_option maxHeartbeats 4000000 in
theorem L_deed {l : Launch} {sc : zSQ} (hl0 : l.stackTraces = false) {P : zP} {S : ZM} {x : Nat} (w a b c : Int32) (hc : zMet l yL_plain (Cond.code yL_plain cL_plain 5 (some .int) :: LWl) ({ frames := 47, cells := 5, slots := 42, locals := 1050 } : Room) 5 42 [zr (some x), zi w, zi a, zi b, zi c] S P) (hv : ∀ (v : Option ZV) (S1 : ZM), P (.inl v) S1 → ∃ z : Int32, v = some (zi z)) (he : ∀ (E : String) (S1 : ZM), P (.inr E) S1 → E = "java/lang/IndexOutOfBoundsException" ∨ E = "java/lang/IllegalArgumentException" ∨ E = "java/lang/IllegalStateException" ∨ E = "java/lang/UnsupportedOperationException" ∨ E = "java/util/NoSuchElementException") : zMetL l sc yL_deed (Cond.codeWith yL_deed cL_deed 6 (some .int) [(0, 9, 10, 99), (0, 9, 16, 101), (0, 9, 22, 103), (0, 9, 28, 105), (0, 9, 34, 107)] :: LWl) ({ frames := 48, cells := 5, slots := 42, locals := 1080 } : Room) 5 42 [zr (some x), zi w, zi a, zi b, zi c] S (WA P esDeed) := by
  refine zMetL.ofH [some (zr (some x)), some (zi w), some (zi a), some (zi b), some (zi c), none] hl0 (by decide) rfl (Nat.le_of_ble_eq_true rfl) rfl ?_
  intro X C N Nc Sc hR hX F
  subst hX
  have hRc : (xR X).cells = 5 := by rw [hR]
  have hRs : (xR X).slots = 42 := by rw [hR]
  refine z_aload_n C rfl dL_deed_0 ?_
  refine z_iload_n C rfl dL_deed_1 ?_
  refine z_iload_n C rfl dL_deed_2 ?_
  refine z_iload_n C rfl dL_deed_3 ?_
  refine z_iload C rfl dL_deed_4 ?_
  refine z_callS 5 [zr (some x), zi w, zi a, zi b, zi c] C (hc) rfl (zgoodS LWl_good wq107 wq108 wq4 wq109) rfl rfl rfl (by decide +kernel) rfl (by rw [hR]; exact ⟨Nat.le_of_ble_eq_true rfl, Nat.le_of_ble_eq_true rfl⟩) (by rw [hR]; exact ⟨Nat.le_of_ble_eq_true rfl, Nat.le_of_ble_eq_true rfl⟩) (Nat.le_of_ble_eq_true rfl) dL_deed_6 (fun v6 S6 h6 => ?_) (fun E6 S6 h6 => ?_)
  · obtain ⟨z, rfl⟩ := hv _ _ h6
    refine z_ireturn C F (Nat.le_of_ble_eq_true rfl) (Nat.le_of_ble_eq_true rfl) dL_deed_9 ?_
    exact Or.inl ⟨z, h6, rfl⟩
  · rcases he _ _ h6 with rfl | rfl | rfl | rfl | rfl
    · refine z_catch 0 (q := (0, 9, 10, 99)) C N Nc rfl (by decide) (fun z hz => nomatch hz) ⟨by decide, by decide⟩ (by decide) (List.mem_cons_of_mem _ wq102) (fun r => ?_)
      refine z_astore [_, _, _, _, _, _] C (by decide) rfl dL_deed_10 ?_
      refine z_sipush (-2001) (by decide) C dL_deed_12 ?_
      refine z_ireturn C F (Nat.le_of_ble_eq_true rfl) (Nat.le_of_ble_eq_true rfl) dL_deed_15 ?_
      exact Or.inr ⟨_, -2001, h6, List.mem_cons_self, rfl⟩
    · refine z_catch 1 (q := (0, 9, 16, 101)) C N Nc rfl (by decide) (fun z => (fun hz => by obtain rfl := List.mem_singleton.mp hz; exact ⟨by decide, "java/lang/IndexOutOfBoundsException", List.mem_cons_of_mem _ wq102, by decide, by decide⟩)) ⟨by decide, by decide⟩ (by decide) (List.mem_cons_of_mem _ wq103) (fun r => ?_)
      refine z_astore [_, _, _, _, _, _] C (by decide) rfl dL_deed_16 ?_
      refine z_sipush (-2002) (by decide) C dL_deed_18 ?_
      refine z_ireturn C F (Nat.le_of_ble_eq_true rfl) (Nat.le_of_ble_eq_true rfl) dL_deed_21 ?_
      exact Or.inr ⟨_, -2002, h6, List.mem_cons_of_mem _ (List.mem_cons_self), rfl⟩
    · refine z_catch 2 (q := (0, 9, 22, 103)) C N Nc rfl (by decide) (fun z => (fun hz => (List.mem_cons.mp hz).elim (fun e => by subst e; exact ⟨by decide, "java/lang/IndexOutOfBoundsException", List.mem_cons_of_mem _ wq102, by decide, by decide⟩) (fun hz => by obtain rfl := List.mem_singleton.mp hz; exact ⟨by decide, "java/lang/IllegalArgumentException", List.mem_cons_of_mem _ wq103, by decide, by decide⟩))) ⟨by decide, by decide⟩ (by decide) (List.mem_cons_of_mem _ wq104) (fun r => ?_)
      refine z_astore [_, _, _, _, _, _] C (by decide) rfl dL_deed_22 ?_
      refine z_sipush (-2003) (by decide) C dL_deed_24 ?_
      refine z_ireturn C F (Nat.le_of_ble_eq_true rfl) (Nat.le_of_ble_eq_true rfl) dL_deed_27 ?_
      exact Or.inr ⟨_, -2003, h6, List.mem_cons_of_mem _ (List.mem_cons_of_mem _ (List.mem_cons_self)), rfl⟩
    · refine z_catch 3 (q := (0, 9, 28, 105)) C N Nc rfl (by decide) (fun z => (fun hz => (List.mem_cons.mp hz).elim (fun e => by subst e; exact ⟨by decide, "java/lang/IndexOutOfBoundsException", List.mem_cons_of_mem _ wq102, by decide, by decide⟩) (fun hz => (List.mem_cons.mp hz).elim (fun e => by subst e; exact ⟨by decide, "java/lang/IllegalArgumentException", List.mem_cons_of_mem _ wq103, by decide, by decide⟩) (fun hz => by obtain rfl := List.mem_singleton.mp hz; exact ⟨by decide, "java/lang/IllegalStateException", List.mem_cons_of_mem _ wq104, by decide, by decide⟩)))) ⟨by decide, by decide⟩ (by decide) (List.mem_cons_of_mem _ wq105) (fun r => ?_)
      refine z_astore [_, _, _, _, _, _] C (by decide) rfl dL_deed_28 ?_
      refine z_sipush (-2004) (by decide) C dL_deed_30 ?_
      refine z_ireturn C F (Nat.le_of_ble_eq_true rfl) (Nat.le_of_ble_eq_true rfl) dL_deed_33 ?_
      exact Or.inr ⟨_, -2004, h6, List.mem_cons_of_mem _ (List.mem_cons_of_mem _ (List.mem_cons_of_mem _ (List.mem_cons_self))), rfl⟩
    · refine z_catch 4 (q := (0, 9, 34, 107)) C N Nc rfl (by decide) (fun z => (fun hz => (List.mem_cons.mp hz).elim (fun e => by subst e; exact ⟨by decide, "java/lang/IndexOutOfBoundsException", List.mem_cons_of_mem _ wq102, by decide, by decide⟩) (fun hz => (List.mem_cons.mp hz).elim (fun e => by subst e; exact ⟨by decide, "java/lang/IllegalArgumentException", List.mem_cons_of_mem _ wq103, by decide, by decide⟩) (fun hz => (List.mem_cons.mp hz).elim (fun e => by subst e; exact ⟨by decide, "java/lang/IllegalStateException", List.mem_cons_of_mem _ wq104, by decide, by decide⟩) (fun hz => by obtain rfl := List.mem_singleton.mp hz; exact ⟨by decide, "java/lang/UnsupportedOperationException", List.mem_cons_of_mem _ wq105, by decide, by decide⟩))))) ⟨by decide, by decide⟩ (by decide) (List.mem_cons_of_mem _ wq106) (fun r => ?_)
      refine z_astore [_, _, _, _, _, _] C (by decide) rfl dL_deed_34 ?_
      refine z_sipush (-2005) (by decide) C dL_deed_36 ?_
      refine z_ireturn C F (Nat.le_of_ble_eq_true rfl) (Nat.le_of_ble_eq_true rfl) dL_deed_39 ?_
      exact Or.inr ⟨_, -2005, h6, List.mem_cons_of_mem _ (List.mem_cons_of_mem _ (List.mem_cons_of_mem _ (List.mem_cons_of_mem _ (List.mem_cons_self)))), rfl⟩
set_option maxRecDepth 100000 in
set_option maxHeartbeats 4000000 in
theorem L_ask {l : Launch} {sc : zSQ} (hl0 : l.stackTraces = false) {P : zP} {S : ZM} {x : Nat} (w a b : Int32) (hc : zMet l yL_asked (Cond.code yL_asked cL_asked 4 (some .int) :: LWl) ({ frames := 46, cells := 2, slots := 12, locals := 1040 } : Room) 2 12 [zr (some x), zi w, zi a, zi b] S P) (hv : ∀ (v : Option ZV) (S1 : ZM), P (.inl v) S1 → ∃ z : Int32, v = some (zi z)) (he : ∀ (E : String) (S1 : ZM), P (.inr E) S1 → E = "java/lang/IndexOutOfBoundsException" ∨ E = "java/lang/IllegalStateException" ∨ E = "java/util/NoSuchElementException" ∨ E = "java/lang/ArithmeticException") : zMetL l sc yL_ask (Cond.codeWith yL_ask cL_ask 5 (some .int) [(0, 7, 8, 99), (0, 7, 14, 103), (0, 7, 20, 107), (0, 7, 26, 182)] :: LWl) ({ frames := 47, cells := 2, slots := 12, locals := 1070 } : Room) 2 12 [zr (some x), zi w, zi a, zi b] S (WA P esAsk) := by
  refine zMetL.ofH [some (zr (some x)), some (zi w), some (zi a), some (zi b), none] hl0 (by decide) rfl (Nat.le_of_ble_eq_true rfl) rfl ?_
  intro X C N Nc Sc hR hX F
  subst hX
  have hRc : (xR X).cells = 2 := by rw [hR]
  have hRs : (xR X).slots = 12 := by rw [hR]
  refine z_aload_n C rfl dL_ask_0 ?_
  refine z_iload_n C rfl dL_ask_1 ?_
  refine z_iload_n C rfl dL_ask_2 ?_
  refine z_iload_n C rfl dL_ask_3 ?_
  refine z_callS 4 [zr (some x), zi w, zi a, zi b] C (hc) rfl (zgoodS LWl_good wq198 wq199 wq4 wq200) rfl rfl rfl (by decide +kernel) rfl (by rw [hR]; exact ⟨Nat.le_of_ble_eq_true rfl, Nat.le_of_ble_eq_true rfl⟩) (by rw [hR]; exact ⟨Nat.le_of_ble_eq_true rfl, Nat.le_of_ble_eq_true rfl⟩) (Nat.le_of_ble_eq_true rfl) dL_ask_4 (fun v4 S4 h4 => ?_) (fun E4 S4 h4 => ?_)
  · obtain ⟨z, rfl⟩ := hv _ _ h4
    refine z_ireturn C F (Nat.le_of_ble_eq_true rfl) (Nat.le_of_ble_eq_true rfl) dL_ask_7 ?_
    exact Or.inl ⟨z, h4, rfl⟩
  · rcases he _ _ h4 with rfl | rfl | rfl | rfl
    · refine z_catch 0 (q := (0, 7, 8, 99)) C N Nc rfl (by decide) (fun z hz => nomatch hz) ⟨by decide, by decide⟩ (by decide) (List.mem_cons_of_mem _ wq102) (fun r => ?_)
      refine z_astore [_, _, _, _, _] C (by decide) rfl dL_ask_8 ?_
      refine z_sipush (-2001) (by decide) C dL_ask_10 ?_
      refine z_ireturn C F (Nat.le_of_ble_eq_true rfl) (Nat.le_of_ble_eq_true rfl) dL_ask_13 ?_
      exact Or.inr ⟨_, -2001, h4, List.mem_cons_self, rfl⟩
    · refine z_catch 1 (q := (0, 7, 14, 103)) C N Nc rfl (by decide) (fun z => (fun hz => by obtain rfl := List.mem_singleton.mp hz; exact ⟨by decide, "java/lang/IndexOutOfBoundsException", List.mem_cons_of_mem _ wq102, by decide, by decide⟩)) ⟨by decide, by decide⟩ (by decide) (List.mem_cons_of_mem _ wq104) (fun r => ?_)
      refine z_astore [_, _, _, _, _] C (by decide) rfl dL_ask_14 ?_
      refine z_sipush (-2003) (by decide) C dL_ask_16 ?_
      refine z_ireturn C F (Nat.le_of_ble_eq_true rfl) (Nat.le_of_ble_eq_true rfl) dL_ask_19 ?_
      exact Or.inr ⟨_, -2003, h4, List.mem_cons_of_mem _ (List.mem_cons_self), rfl⟩
    · refine z_catch 2 (q := (0, 7, 20, 107)) C N Nc rfl (by decide) (fun z => (fun hz => (List.mem_cons.mp hz).elim (fun e => by subst e; exact ⟨by decide, "java/lang/IndexOutOfBoundsException", List.mem_cons_of_mem _ wq102, by decide, by decide⟩) (fun hz => by obtain rfl := List.mem_singleton.mp hz; exact ⟨by decide, "java/lang/IllegalStateException", List.mem_cons_of_mem _ wq104, by decide, by decide⟩))) ⟨by decide, by decide⟩ (by decide) (List.mem_cons_of_mem _ wq106) (fun r => ?_)
      refine z_astore [_, _, _, _, _] C (by decide) rfl dL_ask_20 ?_
      refine z_sipush (-2005) (by decide) C dL_ask_22 ?_
      refine z_ireturn C F (Nat.le_of_ble_eq_true rfl) (Nat.le_of_ble_eq_true rfl) dL_ask_25 ?_
      exact Or.inr ⟨_, -2005, h4, List.mem_cons_of_mem _ (List.mem_cons_of_mem _ (List.mem_cons_self)), rfl⟩
    · refine z_catch 3 (q := (0, 7, 26, 182)) C N Nc rfl (by decide) (fun z => (fun hz => (List.mem_cons.mp hz).elim (fun e => by subst e; exact ⟨by decide, "java/lang/IndexOutOfBoundsException", List.mem_cons_of_mem _ wq102, by decide, by decide⟩) (fun hz => (List.mem_cons.mp hz).elim (fun e => by subst e; exact ⟨by decide, "java/lang/IllegalStateException", List.mem_cons_of_mem _ wq104, by decide, by decide⟩) (fun hz => by obtain rfl := List.mem_singleton.mp hz; exact ⟨by decide, "java/util/NoSuchElementException", List.mem_cons_of_mem _ wq106, by decide, by decide⟩)))) ⟨by decide, by decide⟩ (by decide) (List.mem_cons_of_mem _ wq197) (fun r => ?_)
      refine z_astore [_, _, _, _, _] C (by decide) rfl dL_ask_26 ?_
      refine z_sipush (-2006) (by decide) C dL_ask_28 ?_
      refine z_ireturn C F (Nat.le_of_ble_eq_true rfl) (Nat.le_of_ble_eq_true rfl) dL_ask_31 ?_
      exact Or.inr ⟨_, -2006, h4, List.mem_cons_of_mem _ (List.mem_cons_of_mem _ (List.mem_cons_of_mem _ (List.mem_cons_self))), rfl⟩
