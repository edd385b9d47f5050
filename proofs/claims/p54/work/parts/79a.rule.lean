/-! the law's deeds in a row (laid by wip/p54/m79.py) -/
theorem mx_one {r : Nat} (h : r ≤ 40) : ∃ R : Nat, 0 < R ∧ R ≤ 40 ∧ (if (1 : Int32) < nI r then nI r else 1) = nI R := by
  by_cases q : (1 : Int32) < nI r
  · have : 1 < r := (nI_ltI (a := 1) (by decide) (by omega)).mp q
    exact ⟨r, by omega, h, if_pos q⟩
  · exact ⟨1, by decide, by decide, if_neg q⟩
theorem orI_any (x : Int32) : orI x = 115 ∨ orI x = 114 ∨ orI x = 112 ∨ orI x = 110 := by
  unfold orI
  split
  · exact Or.inl rfl
  · split
    · exact Or.inr (Or.inl rfl)
    · split
      · exact Or.inr (Or.inr (Or.inl rfl))
      · exact Or.inr (Or.inr (Or.inr rfl))
theorem up1_same {f : Nat → Int32} {i : Nat} {v : Int32} (h : v = f i) : up1 f i v = f := by
  funext j
  by_cases e : j = i
  · subst e; rw [up1_self, h]
  · rw [up1_ne e]
set_option maxRecDepth 100000 in
set_option maxHeartbeats 4000000 in
theorem L_rule {l : Launch} {sc : zSQ} (hl0 : l.stackTraces = false) {n : Nat} {D : ZD} {x m : Nat} {Fw : Nat → Bool} {S : ZM} (hX : lX n D x m Fw S) (kd a b w : Int32) (hw : 11 + kd = w) (hd : zMetL l sc yL_deed (Cond.codeWith yL_deed cL_deed 6 (some .int) [(0, 9, 10, 99), (0, 9, 16, 101), (0, 9, 22, 103), (0, 9, 28, 105), (0, 9, 34, 107)] :: LWl) ({ frames := 48, cells := 5, slots := 42, locals := 1080 } : Room) 5 42 [zr (some x), zi w, zi a, zi b, zi 0] S (DQ (RR D kd a b) x Fw S)) : zMetL l sc yL_rule (Cond.code yL_rule cL_rule 6 (some .int) :: LWl) ({ frames := 49, cells := 5, slots := 42, locals := 1110 } : Room) 5 42 [zr (some x), zr (some m), zi kd, zi a, zi b] S (zPo (fun v S' => ∃ (z : Int32) (D' : ZD), v = some (zi z) ∧ z < 40 ∧ lX n D' x m Fw S') (fun _ _ => False)) := by
  refine zMetL.of [some (zr (some x)), some (zr (some m)), some (zi kd), some (zi a), some (zi b), none] hl0 (by decide) rfl (Nat.le_of_ble_eq_true rfl) rfl ?_
  intro X C N Nc Sc hR hX F
  subst hX
  have hRc : (xR X).cells = 5 := by rw [hR]
  have hRs : (xR X).slots = 42 := by rw [hR]
  obtain ⟨f, hS, hM, hV⟩ := hX
  have ho := hS.1.ok
  obtain ⟨hm0, hm2, hm3, ⟨j1, hj1, hm1⟩, hmr, hml⟩ := id hM
  have hT24 := ho.t
  have hR40 := ho.r
  have hL8 := ho.l
  refine z_aload_n C rfl dL_rule_0 ?_
  refine z_bipush 11 (by decide) C dL_rule_1 ?_
  refine z_iload_n C rfl dL_rule_3 ?_
  refine z_iadd C dL_rule_4 ?_
  refine z_int hw ?_
  refine z_iload_n C rfl dL_rule_5 ?_
  refine z_iload C rfl dL_rule_6 ?_
  refine z_iconst 0 (by decide) C dL_rule_8 ?_
  refine z_callLH 5 [zr (some x), zi w, zi a, zi b, zi 0] C Nc Sc (hd) rfl (zgoodS LWl_good wq201 wq202 wq4 wq203) rfl rfl rfl (by decide +kernel) rfl (by rw [hR]; exact ⟨Nat.le_of_ble_eq_true rfl, Nat.le_of_ble_eq_true rfl⟩) (by rw [hR]; exact ⟨Nat.le_of_ble_eq_true rfl, Nat.le_of_ble_eq_true rfl⟩) (Nat.le_of_ble_eq_true rfl) dL_rule_9 (fun v9 S9 h9 => ?_) (fun E9 S9 h9 => ?_)
  · obtain ⟨z, D1, rfl, hr, hY, hkp⟩ := h9
    replace hS := hS.kp hY hkp
    refine z_istore [_, _, _, _, _, _] C (by decide) rfl dL_rule_12 ?_
    refine z_iload C rfl dL_rule_14 ?_
    refine z_if_lt 60 C dL_rule_16 (by decide) (fun c16 => ?_) (fun c16 => ?_)
    · refine z_iload C rfl dL_rule_60 ?_
      refine z_ireturn C F (Nat.le_of_ble_eq_true rfl) (Nat.le_of_ble_eq_true rfl) dL_rule_62 ?_
      rcases hr with ⟨_, _, hr40, rfl, rfl, -⟩ | ⟨hz, rfl⟩
      · exact absurd c16 (nI_pos (by omega))
      · exact ⟨_, _, rfl, Int32.lt_of_lt_of_le hz (by decide), _, hS, hM, hV⟩
    · rcases hr with ⟨b9, sz, hr40, rfl, rfl, h67, hsz, ha9, hb9⟩ | ⟨hz, -⟩
      rotate_left
      · exact absurd hz c16
      refine z_aload_n C rfl dL_rule_19 ?_
      refine z_bipush 10 (by decide) C dL_rule_20 ?_
      refine z_iconst 3 (by decide) C dL_rule_22 ?_
      refine z_aload_n C rfl dL_rule_23 ?_
      refine z_iconst 2 (by decide) C dL_rule_24 ?_
      refine z_mld C hS (show (2 : Int32) = nI 2 from rfl) (by decide) hm2 dL_rule_25 ?_
      refine z_imul C dL_rule_26 ?_
      refine z_iadd C dL_rule_27 ?_
      refine z_iload_n C rfl dL_rule_28 ?_
      refine z_mst C hS (ix3 (c' := 10) rfl _) (by omega) dL_rule_29 ?_
      intro S29 hS
      refine z_aload_n C rfl dL_rule_30 ?_
      refine z_bipush 11 (by decide) C dL_rule_31 ?_
      refine z_iconst 3 (by decide) C dL_rule_33 ?_
      refine z_aload_n C rfl dL_rule_34 ?_
      refine z_iconst 2 (by decide) C dL_rule_35 ?_
      refine z_mld C hS (show (2 : Int32) = nI 2 from rfl) (by decide) ((up1_ne (by omega)).trans hm2) dL_rule_36 ?_
      refine z_imul C dL_rule_37 ?_
      refine z_iadd C dL_rule_38 ?_
      refine z_iload_n C rfl dL_rule_39 ?_
      refine z_mst C hS (ix3 (c' := 11) rfl _) (by omega) dL_rule_40 ?_
      intro S40 hS
      refine z_aload_n C rfl dL_rule_41 ?_
      refine z_bipush 12 (by decide) C dL_rule_42 ?_
      refine z_iconst 3 (by decide) C dL_rule_44 ?_
      refine z_aload_n C rfl dL_rule_45 ?_
      refine z_iconst 2 (by decide) C dL_rule_46 ?_
      refine z_mld C hS (show (2 : Int32) = nI 2 from rfl) (by decide) ((up1_ne (by omega)).trans ((up1_ne (by omega)).trans hm2)) dL_rule_47 ?_
      refine z_imul C dL_rule_48 ?_
      refine z_iadd C dL_rule_49 ?_
      refine z_iload C rfl dL_rule_50 ?_
      refine z_mst C hS (ix3 (c' := 12) rfl _) (by omega) dL_rule_52 ?_
      intro S52 hS
      refine z_aload_n C rfl dL_rule_53 ?_
      refine z_iconst 2 (by decide) C dL_rule_54 ?_
      refine z_dup2 rfl rfl C dL_rule_55 ?_
      refine z_mld C hS (show (2 : Int32) = nI 2 from rfl) (by decide) ((up1_ne (by omega)).trans ((up1_ne (by omega)).trans ((up1_ne (by omega)).trans hm2))) dL_rule_56 ?_
      refine z_iconst 1 (by decide) C dL_rule_57 ?_
      refine z_iadd C dL_rule_58 ?_
      refine z_mst C hS (show (2 : Int32) = nI 2 from rfl) (by decide) dL_rule_59 ?_
      intro S59 hS
      refine z_iload C rfl dL_rule_60 ?_
      refine z_ireturn C F (Nat.le_of_ble_eq_true rfl) (Nat.le_of_ble_eq_true rfl) dL_rule_62 ?_
      exact ⟨_, _, rfl, nI_lt (b := 40) hr40 (by decide), _, hS, see_rule ho hr40 h67 hsz ha9 hb9 hM hV⟩
  · exact h9.elim
