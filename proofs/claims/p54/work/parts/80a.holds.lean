/-! rules: what holds, and that it is as it is told -/
theorem one_ev {b : Bool} (h : b = true) : (some (zi 1) : Option ZV) = some (zi (bI b)) := by rw [h]; rfl
theorem zero_ev {b : Bool} (h : ¬ b = true) : (some (zi 0) : Option ZV) = some (zi (bI b)) := by
  cases b with
  | false => rfl
  | true => exact absurd rfl h
theorem bI_1 {b : Bool} : bI b = 1 ↔ b = true := by cases b <;> decide
theorem lY.askM {l : Launch} {y : MethodName} {ws : List Cond} {rm : Room} {mc ms : Nat} {vs : List ZV} {D : ZD} {x : Nat} {F : Nat → Bool} {S : ZM} {w : ZV} (h : lY D x F S) (hc : zMet l y ws rm mc ms vs (rsOff F S) (zPo (fun v S' => v = some w ∧ lS D x S') (fun _ _ => False))) : zMet l y ws rm mc ms vs S (zPo (fun v S' => v = some w ∧ lY D x F S' ∧ kp F S S') (fun _ _ => False)) := by
  refine (hc.off F).mono (fun o S' h9 => ?_)
  obtain ⟨S1, hp, rfl, hof⟩ := h9
  cases o with
  | inr E => exact hp.elim
  | inl v =>
    obtain ⟨rfl, hs⟩ := hp
    exact ⟨rfl, h.mrg hs hof⟩
theorem T_today {l : Launch} (hl0 : l.stackTraces = false) {D : ZD} {x : Nat} {F : Nat → Bool} {S : ZM} (h : lY D x F S) : zMet l yX4_today (Cond.code yX4_today cX4_today 1 (some .int) :: LWc) ({ frames := 0, cells := 0, slots := 0, locals := 0 } : Room) 0 0 [zr (some x)] S (zPo (fun v S' => v = some (zi (D 40 0)) ∧ lY D x F S' ∧ kp F S S') (fun _ _ => False)) := by
  refine h.askM ?_
  obtain ⟨⟨J, lk, as, L, T, rfl, hR⟩, -⟩ := h
  refine (C_today hl0 hR).mono (fun o S' h9 => ?_)
  cases o with
  | inr E => exact h9.elim
  | inl v => obtain ⟨rfl, rfl⟩ := h9; exact ⟨rfl, J, lk, as, L, T, rfl, hR⟩
theorem T_tracks {l : Launch} (hl0 : l.stackTraces = false) {D : ZD} {x : Nat} {F : Nat → Bool} {S : ZM} (h : lY D x F S) : zMet l yX4_tracks (Cond.code yX4_tracks cX4_tracks 1 (some .int) :: LWc) ({ frames := 0, cells := 0, slots := 0, locals := 0 } : Room) 0 0 [zr (some x)] S (zPo (fun v S' => v = some (zi (nI (cnF (prD D) 24))) ∧ lY D x F S' ∧ kp F S S') (fun _ _ => False)) := by
  refine h.askM ?_
  obtain ⟨⟨J, lk, as, L, T, rfl, hR⟩, -⟩ := h
  refine (C_tracks hl0 hR).mono (fun o S' h9 => ?_)
  cases o with
  | inr E => exact h9.elim
  | inl v => obtain ⟨rfl, rfl⟩ := h9; exact ⟨rfl, J, lk, as, L, T, rfl, hR⟩
theorem T_share {l : Launch} (hl0 : l.stackTraces = false) {D : ZD} {x : Nat} {F : Nat → Bool} {S : ZM} (h : lY D x F S) (h0 : ¬ nI (cnF (prD D) 24) = 0) : zMet l yX4_listedShare (Cond.code yX4_listedShare cX4_listedShare 3 (some .float) :: LWc) ({ frames := 6, cells := 1, slots := 6, locals := 86 } : Room) 1 6 [zr (some x)] S (zPo (fun v S' => v = some (zf (FP.fdiv (FP.i2f (nI (pcB (unD (D 61) 8)))) (FP.i2f (nI (cnF (prD D) 24))))) ∧ lY D x F S' ∧ kp F S S') (fun _ _ => False)) := by
  refine h.askM ?_
  obtain ⟨⟨J, lk, as, L, T, rfl, hR⟩, -⟩ := h
  refine (C_listedShare hl0 hR).mono (fun o S' h9 => ?_)
  cases o with
  | inr E => obtain ⟨-, e, -⟩ := h9; exact absurd e h0
  | inl v => obtain ⟨-, rfl, rfl⟩ := h9; exact ⟨by rw [bcJ_pc], J, lk, as, L, T, rfl, hR⟩
theorem T_mean {l : Launch} (hl0 : l.stackTraces = false) {D : ZD} {x : Nat} {F : Nat → Bool} {S : ZM} (h : lY D x F S) {i : Nat} (hi : i < dL D) (h0 : ¬ nI (pcB (D 61 i)) = 0) : zMet l yX4_meanLength (Cond.code yX4_meanLength cX4_meanLength 3 (some .double) :: LWc) ({ frames := 7, cells := 2, slots := 12, locals := 108 } : Room) 2 12 [zr (some x), zi (nI i)] S (zPo (fun v S' => v = some (zd (FP.ddiv (FP.i2d (smF (fun t => prD D t && hasB (D 61 i) (nI t)) (fun t => D 42 t) 24)) (FP.i2d (nI (pcB (D 61 i)))))) ∧ lY D x F S' ∧ kp F S S') (fun _ _ => False)) := by
  have ho := h.ok
  refine h.askM ?_
  obtain ⟨⟨J, lk, as, L, T, rfl, hR⟩, -⟩ := h
  have h8 := ho.l
  refine (C_meanLength hl0 hR (nI i)).mono (fun o S' h9 => ?_)
  cases o with
  | inr E =>
    obtain ⟨-, ⟨hn, -⟩ | ⟨i9, g0, g1, e, g2, -⟩⟩ := h9
    · exact absurd ((hasLs_iff ho (by omega)).mpr hi) hn
    · obtain rfl := (nI_eq (by omega) (by omega)).1 e
      rw [bcJ_pc] at g2
      exact absurd g2 h0
  | inl v =>
    obtain ⟨i9, g0, g1, e, g2, rfl, rfl⟩ := h9
    obtain rfl := (nI_eq (by omega) (by omega)).1 e
    exact ⟨by rw [bcJ_pc], J, lk, as, L, T, rfl, hR⟩
/-! what a rule of each kind asks -/
theorem hv_0 {D : ZD} {r t : Nat} (ho : okD D) (hr : r < dR D) (h : D 53 r = 0) : ev D (D 61) r t = true ↔ (D 46 t >>> (D 54 r &&& 31)) &&& 1 = 1 := by
  obtain ⟨g, hg, e⟩ := (ho.2.1 r hr).2.1 h
  have := ho.1.2.1.2
  rw [ev_0 h, e, shr_bit (by omega)]
theorem hv_1 {D : ZD} {r t : Nat} (h : D 53 r = 1) : ev D (D 61) r t = true ↔ D 54 r ≤ D 43 t := by
  rw [ev, evR, if_neg (by rw [h]; decide), if_pos h, decide_eq_true_eq]
theorem hv_2 {D : ZD} {r t : Nat} (h : D 53 r = 2) : ev D (D 61) r t = true ↔ D 44 t ≤ D 54 r := by
  rw [ev, evR, if_neg (by rw [h]; decide), if_neg (by rw [h]; decide), if_pos h, decide_eq_true_eq]
theorem hv_3 {D : ZD} {r t : Nat} (h : D 53 r = 3) : ev D (D 61) r t = true ↔ D 42 t ≤ D 54 r := by
  rw [ev, evR, if_neg (by rw [h]; decide), if_neg (by rw [h]; decide), if_neg (by rw [h]; decide), if_pos h, decide_eq_true_eq]
theorem hv_4 {D : ZD} {r t : Nat} {V : Int32} (ho : okD D) (ht : prD D t = true) (h45 : ∀ t, 0 ≤ D 45 t) (h : D 53 r = 4) (hV : V = if D 44 t = 0 then -2003 else D 45 t) : ev D (D 61) r t = true ↔ ¬ V < 0 ∧ D 40 0 - V ≤ D 54 r := by
  rw [ev, evR, if_neg (by rw [h]; decide), if_neg (by rw [h]; decide), if_neg (by rw [h]; decide), if_neg (by rw [h]; decide), if_pos h, Bool.and_eq_true, decide_eq_true_eq, decide_eq_true_eq, hV]
  obtain ⟨n, e, hn⟩ := ((ho.2.2.2.2.2.1 t (ho.pr ht)).1 (prD_lt ht)).2.2
  by_cases h0 : D 44 t = 0
  · rw [if_pos h0, h0]
    exact ⟨fun q => absurd q.1 (by decide), fun q => absurd (by decide) q.1⟩
  · rw [if_neg h0]
    have hp : 0 < D 44 t := by
      rw [e] at h0 ⊢
      have : 0 < n := Nat.pos_of_ne_zero (fun q => h0 (by rw [q]; rfl))
      exact nI_lt (a := 0) this (by omega)
    exact ⟨fun q => ⟨Int32.not_lt.mpr (h45 t), q.2⟩, fun q => ⟨hp, q.2⟩⟩
theorem hv_5 {D : ZD} {r t i : Nat} (hi : i < 2 ^ 31) (h : D 53 r = 5) (e : D 54 r = nI i) : ev D (D 61) r t = true ↔ bI (hasB (D 61 i) (nI t)) = 1 := by
  rw [ev_5 h, e, show ix (nI i) = i from nI_clamp hi, bI_1]
theorem hv_6 {D : ZD} {r t p q : Nat} (ho : okD D) (hr : r < dR D) (hp : p < r) (hq : q < r) (h : D 53 r = 6) (e1 : D 54 r = nI p) (e2 : D 55 r = nI q) : ev D (D 61) r t = true ↔ bI (ev D (D 61) p t) = 1 ∧ bI (ev D (D 61) q t) = 1 := by
  obtain ⟨a, b⟩ := ev_two (K := D 61) ho.2.1 ho.r hr hp hq e1 e2 t
  rw [ev_6 h, a, b, Bool.and_eq_true, bI_1, bI_1]
theorem hv_7 {D : ZD} {r t p q : Nat} (ho : okD D) (hr : r < dR D) (hp : p < r) (hq : q < r) (h : D 53 r = 7) (e1 : D 54 r = nI p) (e2 : D 55 r = nI q) : ev D (D 61) r t = true ↔ bI (ev D (D 61) p t) = 1 ∨ bI (ev D (D 61) q t) = 1 := by
  obtain ⟨a, b⟩ := ev_two (K := D 61) ho.2.1 ho.r hr hp hq e1 e2 t
  rw [ev_7 h, a, b, Bool.or_eq_true, bI_1, bI_1]
theorem hv_8 {D : ZD} {r t p q : Nat} (ho : okD D) (hr : r < dR D) (hp : p < r) (hq : q < r) (h : D 53 r = 8) (e1 : D 54 r = nI p) (e2 : D 55 r = nI q) : ev D (D 61) r t = true ↔ bI (ev D (D 61) p t) = 0 := by
  obtain ⟨a, b⟩ := ev_two (K := D 61) ho.2.1 ho.r hr hp hq e1 e2 t
  rw [ev_8 h, a, bI_eq, Bool.not_eq_true']

set_option maxRecDepth 100000 in
set_option maxHeartbeats 4000000 in
theorem L_holds {l : Launch} {sc : zSQ} (hl0 : l.stackTraces = false) {n : Nat} {D : ZD} {x m : Nat} {Fw : Nat → Bool} {f : Nat → Int32} {S : ZM} (hS : mS D x m Fw f S) (hM : rM D f) (hV : LV n D) (r t : Nat) (hr : r < dR D) (ht : prD D t = true) : zMetL l sc yL_holds (Cond.code yL_holds cL_holds 6 (some .boolean) :: LWl) ({ frames := 48, cells := 4, slots := 24, locals := 1100 } : Room) 4 24 [zr (some x), zr (some m), zi (nI r), zi (nI t)] S (zPo (fun v S' => v = some (zi (bI (ev D (D 61) r t))) ∧ mS D x m Fw f S') (fun _ _ => False)) := by
  refine zMetL.of [some (zr (some x)), some (zr (some m)), some (zi (nI r)), some (zi (nI t)), none, none] hl0 (by decide) rfl (Nat.le_of_ble_eq_true rfl) rfl ?_
  intro X C N Nc Sc hR hX F
  subst hX
  have hRc : (xR X).cells = 4 := by rw [hR]
  have hRs : (xR X).slots = 24 := by rw [hR]
  have ho := hS.1.ok
  obtain ⟨hm0, hm2, hm3, ⟨j1, hj1, hm1⟩, hmr, hml⟩ := id hM
  have hT24 := ho.t
  have hR40 := ho.r
  have hL8 := ho.l
  obtain ⟨⟨kd, hkd, ek⟩, hr0, hr5, hr68⟩ := ho.2.1 r hr
  have ht24 := ho.pr ht
  have hAT : ∀ z, aT D t z = z := fun z => if_pos ht
  have hAR : ∀ p z, p < dR D → aR D p z = z := fun p z h => if_pos h
  have hAL : ∀ p z, p < dL D → aL D p z = z := fun p z h => if_pos h
  refine z_aload_n C rfl dL_holds_0 ?_
  refine z_bipush 11 (by decide) C dL_holds_1 ?_
  refine z_iconst 3 (by decide) C dL_holds_3 ?_
  refine z_iload_n C rfl dL_holds_4 ?_
  refine z_imul C dL_holds_5 ?_
  refine z_iadd C dL_holds_6 ?_
  refine z_mld C hS (ix3 (c' := 11) rfl _) (by omega) (hmr r hr).2.1 dL_holds_7 ?_
  refine z_istore [_, _, _, _, _, _] C (by decide) rfl dL_holds_8 ?_
  refine z_aload_n C rfl dL_holds_10 ?_
  refine z_bipush 12 (by decide) C dL_holds_11 ?_
  refine z_iconst 3 (by decide) C dL_holds_13 ?_
  refine z_iload_n C rfl dL_holds_14 ?_
  refine z_imul C dL_holds_15 ?_
  refine z_iadd C dL_holds_16 ?_
  refine z_mld C hS (ix3 (c' := 12) rfl _) (by omega) rfl dL_holds_17 ?_
  refine z_istore [_, _, _, _, _, _] C (by decide) rfl dL_holds_18 ?_
  refine z_aload_n C rfl dL_holds_20 ?_
  refine z_bipush 10 (by decide) C dL_holds_21 ?_
  refine z_iconst 3 (by decide) C dL_holds_23 ?_
  refine z_iload_n C rfl dL_holds_24 ?_
  refine z_imul C dL_holds_25 ?_
  refine z_iadd C dL_holds_26 ?_
  refine z_mld C hS (ix3 (c' := 10) rfl _) (by omega) ((hmr r hr).1.trans ek) dL_holds_27 ?_
  rcases (show kd = 0 ∨ kd = 1 ∨ kd = 2 ∨ kd = 3 ∨ kd = 4 ∨ kd = 5 ∨ kd = 6 ∨ kd = 7 ∨ kd = 8 by omega) with rfl | rfl | rfl | rfl | rfl | rfl | rfl | rfl | rfl
  · refine z_tableIn 76 C dL_holds_28 (by decide) (by decide) rfl (by decide) ?_
    have ek9 : D 53 r = 0 := ek
    have hev := hv_0 (t := t) ho hr ek9
    refine z_aload_n C rfl dL_holds_76 ?_
    refine z_iconst 4 (by decide) C dL_holds_77 ?_
    refine z_iload_n C rfl dL_holds_78 ?_
    refine z_iconst 0 (by decide) C dL_holds_79 ?_
    refine z_callLH 4 [zr (some x), zi 4, zi (nI t), zi 0] C Nc Sc (Q_4 hl0 hS.1 t (by omega) 0) rfl (zgoodS LWl_good wq222 wq223 wq4 wq224) rfl rfl rfl (by decide +kernel) rfl (by rw [hR]; exact ⟨Nat.le_of_ble_eq_true rfl, Nat.le_of_ble_eq_true rfl⟩) (by rw [hR]; exact ⟨Nat.le_of_ble_eq_true rfl, Nat.le_of_ble_eq_true rfl⟩) (Nat.le_of_ble_eq_true rfl) dL_holds_80 (fun v80 S80 h80 => ?_) (fun E80 S80 h80 => ?_)
    · obtain ⟨rfl, hY, hkp⟩ := h80
      replace hS := hS.kp hY hkp
      refine z_int (hAT _) ?_
      refine z_iload C rfl dL_holds_83 ?_
      refine z_ishr C dL_holds_85 ?_
      refine z_iconst 1 (by decide) C dL_holds_86 ?_
      refine z_iand C dL_holds_87 ?_
      refine z_iconst 1 (by decide) C dL_holds_88 ?_
      refine z_icmp_ne 96 C dL_holds_89 (by decide) (fun c89 => ?_) (fun c89 => ?_)
      · refine z_iconst 0 (by decide) C dL_holds_96 ?_
        refine z_zreturn C F (Nat.le_of_ble_eq_true rfl) (Nat.le_of_ble_eq_true rfl) (by decide) dL_holds_97 ?_
        first | exact ⟨one_ev (hev.mpr c89), hS⟩ | exact ⟨zero_ev (fun q => c89 (hev.mp q)), hS⟩
      · refine z_iconst 1 (by decide) C dL_holds_92 ?_
        refine z_goto 97 C dL_holds_93 (by decide) ?_
        refine z_zreturn C F (Nat.le_of_ble_eq_true rfl) (Nat.le_of_ble_eq_true rfl) (by decide) dL_holds_97 ?_
        first | exact ⟨one_ev (hev.mpr c89), hS⟩ | exact ⟨zero_ev (fun q => c89 (hev.mp q)), hS⟩
    · exact h80.elim
  · refine z_tableIn 98 C dL_holds_28 (by decide) (by decide) rfl (by decide) ?_
    have ek9 : D 53 r = 1 := ek
    have hev := hv_1 (t := t) ek9
    refine z_aload_n C rfl dL_holds_98 ?_
    refine z_iconst 1 (by decide) C dL_holds_99 ?_
    refine z_iload_n C rfl dL_holds_100 ?_
    refine z_iconst 0 (by decide) C dL_holds_101 ?_
    refine z_callLH 4 [zr (some x), zi 1, zi (nI t), zi 0] C Nc Sc (Q_1 hl0 hS.1 t (by omega) 0) rfl (zgoodS LWl_good wq222 wq223 wq4 wq224) rfl rfl rfl (by decide +kernel) rfl (by rw [hR]; exact ⟨Nat.le_of_ble_eq_true rfl, Nat.le_of_ble_eq_true rfl⟩) (by rw [hR]; exact ⟨Nat.le_of_ble_eq_true rfl, Nat.le_of_ble_eq_true rfl⟩) (Nat.le_of_ble_eq_true rfl) dL_holds_102 (fun v102 S102 h102 => ?_) (fun E102 S102 h102 => ?_)
    · obtain ⟨rfl, hY, hkp⟩ := h102
      replace hS := hS.kp hY hkp
      refine z_int (hAT _) ?_
      refine z_iload C rfl dL_holds_105 ?_
      refine z_icmp_lt 114 C dL_holds_107 (by decide) (fun c107 => ?_) (fun c107 => ?_)
      · refine z_iconst 0 (by decide) C dL_holds_114 ?_
        refine z_zreturn C F (Nat.le_of_ble_eq_true rfl) (Nat.le_of_ble_eq_true rfl) (by decide) dL_holds_115 ?_
        first | exact ⟨one_ev (hev.mpr (Int32.not_lt.mp c107)), hS⟩ | exact ⟨zero_ev (fun q => absurd c107 (Int32.not_lt.mpr (hev.mp q))), hS⟩
      · refine z_iconst 1 (by decide) C dL_holds_110 ?_
        refine z_goto 115 C dL_holds_111 (by decide) ?_
        refine z_zreturn C F (Nat.le_of_ble_eq_true rfl) (Nat.le_of_ble_eq_true rfl) (by decide) dL_holds_115 ?_
        first | exact ⟨one_ev (hev.mpr (Int32.not_lt.mp c107)), hS⟩ | exact ⟨zero_ev (fun q => absurd c107 (Int32.not_lt.mpr (hev.mp q))), hS⟩
    · exact h102.elim
  · refine z_tableIn 116 C dL_holds_28 (by decide) (by decide) rfl (by decide) ?_
    have ek9 : D 53 r = 2 := ek
    have hev := hv_2 (t := t) ek9
    refine z_aload_n C rfl dL_holds_116 ?_
    refine z_iconst 2 (by decide) C dL_holds_117 ?_
    refine z_iload_n C rfl dL_holds_118 ?_
    refine z_iconst 0 (by decide) C dL_holds_119 ?_
    refine z_callLH 4 [zr (some x), zi 2, zi (nI t), zi 0] C Nc Sc (Q_2 hl0 hS.1 t (by omega) 0) rfl (zgoodS LWl_good wq222 wq223 wq4 wq224) rfl rfl rfl (by decide +kernel) rfl (by rw [hR]; exact ⟨Nat.le_of_ble_eq_true rfl, Nat.le_of_ble_eq_true rfl⟩) (by rw [hR]; exact ⟨Nat.le_of_ble_eq_true rfl, Nat.le_of_ble_eq_true rfl⟩) (Nat.le_of_ble_eq_true rfl) dL_holds_120 (fun v120 S120 h120 => ?_) (fun E120 S120 h120 => ?_)
    · obtain ⟨rfl, hY, hkp⟩ := h120
      replace hS := hS.kp hY hkp
      refine z_int (hAT _) ?_
      refine z_iload C rfl dL_holds_123 ?_
      refine z_icmp_gt 132 C dL_holds_125 (by decide) (fun c125 => ?_) (fun c125 => ?_)
      · refine z_iconst 0 (by decide) C dL_holds_132 ?_
        refine z_zreturn C F (Nat.le_of_ble_eq_true rfl) (Nat.le_of_ble_eq_true rfl) (by decide) dL_holds_133 ?_
        first | exact ⟨one_ev (hev.mpr (Int32.not_lt.mp c125)), hS⟩ | exact ⟨zero_ev (fun q => absurd c125 (Int32.not_lt.mpr (hev.mp q))), hS⟩
      · refine z_iconst 1 (by decide) C dL_holds_128 ?_
        refine z_goto 133 C dL_holds_129 (by decide) ?_
        refine z_zreturn C F (Nat.le_of_ble_eq_true rfl) (Nat.le_of_ble_eq_true rfl) (by decide) dL_holds_133 ?_
        first | exact ⟨one_ev (hev.mpr (Int32.not_lt.mp c125)), hS⟩ | exact ⟨zero_ev (fun q => absurd c125 (Int32.not_lt.mpr (hev.mp q))), hS⟩
    · exact h120.elim
  · refine z_tableIn 134 C dL_holds_28 (by decide) (by decide) rfl (by decide) ?_
    have ek9 : D 53 r = 3 := ek
    have hev := hv_3 (t := t) ek9
    refine z_aload_n C rfl dL_holds_134 ?_
    refine z_iconst 0 (by decide) C dL_holds_135 ?_
    refine z_iload_n C rfl dL_holds_136 ?_
    refine z_iconst 0 (by decide) C dL_holds_137 ?_
    refine z_callLH 4 [zr (some x), zi 0, zi (nI t), zi 0] C Nc Sc (Q_0 hl0 hS.1 t (by omega) 0) rfl (zgoodS LWl_good wq222 wq223 wq4 wq224) rfl rfl rfl (by decide +kernel) rfl (by rw [hR]; exact ⟨Nat.le_of_ble_eq_true rfl, Nat.le_of_ble_eq_true rfl⟩) (by rw [hR]; exact ⟨Nat.le_of_ble_eq_true rfl, Nat.le_of_ble_eq_true rfl⟩) (Nat.le_of_ble_eq_true rfl) dL_holds_138 (fun v138 S138 h138 => ?_) (fun E138 S138 h138 => ?_)
    · obtain ⟨rfl, hY, hkp⟩ := h138
      replace hS := hS.kp hY hkp
      refine z_int (hAT _) ?_
      refine z_iload C rfl dL_holds_141 ?_
      refine z_icmp_gt 150 C dL_holds_143 (by decide) (fun c143 => ?_) (fun c143 => ?_)
      · refine z_iconst 0 (by decide) C dL_holds_150 ?_
        refine z_zreturn C F (Nat.le_of_ble_eq_true rfl) (Nat.le_of_ble_eq_true rfl) (by decide) dL_holds_151 ?_
        first | exact ⟨one_ev (hev.mpr (Int32.not_lt.mp c143)), hS⟩ | exact ⟨zero_ev (fun q => absurd c143 (Int32.not_lt.mpr (hev.mp q))), hS⟩
      · refine z_iconst 1 (by decide) C dL_holds_146 ?_
        refine z_goto 151 C dL_holds_147 (by decide) ?_
        refine z_zreturn C F (Nat.le_of_ble_eq_true rfl) (Nat.le_of_ble_eq_true rfl) (by decide) dL_holds_151 ?_
        first | exact ⟨one_ev (hev.mpr (Int32.not_lt.mp c143)), hS⟩ | exact ⟨zero_ev (fun q => absurd c143 (Int32.not_lt.mpr (hev.mp q))), hS⟩
    · exact h138.elim
  · refine z_tableIn 152 C dL_holds_28 (by decide) (by decide) rfl (by decide) ?_
    have ek9 : D 53 r = 4 := ek
    obtain ⟨V, eV⟩ : ∃ V : Int32, V = if D 44 t = 0 then -2003 else D 45 t := ⟨_, rfl⟩
    have hev := hv_4 (t := t) ho ht hV.2.1 ek9 eV
    refine z_aload_n C rfl dL_holds_152 ?_
    refine z_iconst 3 (by decide) C dL_holds_153 ?_
    refine z_iload_n C rfl dL_holds_154 ?_
    refine z_iconst 0 (by decide) C dL_holds_155 ?_
    refine z_callLH 4 [zr (some x), zi 3, zi (nI t), zi 0] C Nc Sc (Q_3 hl0 hS.1 t (by omega) 0) rfl (zgoodS LWl_good wq222 wq223 wq4 wq224) rfl rfl rfl (by decide +kernel) rfl (by rw [hR]; exact ⟨Nat.le_of_ble_eq_true rfl, Nat.le_of_ble_eq_true rfl⟩) (by rw [hR]; exact ⟨Nat.le_of_ble_eq_true rfl, Nat.le_of_ble_eq_true rfl⟩) (Nat.le_of_ble_eq_true rfl) dL_holds_156 (fun v156 S156 h156 => ?_) (fun E156 S156 h156 => ?_)
    · obtain ⟨rfl, hY, hkp⟩ := h156
      replace hS := hS.kp hY hkp
      refine z_int ((hAT _).trans eV.symm) ?_
      refine z_if_lt 183 C dL_holds_159 (by decide) (fun c159 => ?_) (fun c159 => ?_)
      · refine z_iconst 0 (by decide) C dL_holds_183 ?_
        refine z_zreturn C F (Nat.le_of_ble_eq_true rfl) (Nat.le_of_ble_eq_true rfl) (by decide) dL_holds_184 ?_
        first | exact ⟨one_ev (hev.mpr ⟨c159, Int32.not_lt.mp c176⟩), hS⟩ | exact ⟨zero_ev (fun q => (hev.mp q).1 c159), hS⟩ | exact ⟨zero_ev (fun q => absurd c176 (Int32.not_lt.mpr (hev.mp q).2)), hS⟩
      · refine z_aload_n C rfl dL_holds_162 ?_
        refine z_callC 0 [] C rfl (T_today hl0 hS.1) rfl (zgoodV2 LWl_good (fun w h => ul_c h) wq225 wq226 wq227 (ul_c wc58) wq228) rfl rfl rfl (by decide +kernel) rfl (by rw [hR]; exact ⟨Nat.le_of_ble_eq_true rfl, Nat.le_of_ble_eq_true rfl⟩) hS.1.k.1 (by rw [hR]; exact ⟨Nat.le_of_ble_eq_true rfl, Nat.le_of_ble_eq_true rfl⟩) (Nat.le_of_ble_eq_true rfl) dL_holds_163 (fun v163 S163 h163 => ?_) (fun E163 S163 h163 => ?_)
        · obtain ⟨rfl, hY, hkp⟩ := h163
          replace hS := hS.kp hY hkp
          refine z_aload_n C rfl dL_holds_166 ?_
          refine z_iconst 3 (by decide) C dL_holds_167 ?_
          refine z_iload_n C rfl dL_holds_168 ?_
          refine z_iconst 0 (by decide) C dL_holds_169 ?_
          refine z_callLH 4 [zr (some x), zi 3, zi (nI t), zi 0] C Nc Sc (Q_3 hl0 hS.1 t (by omega) 0) rfl (zgoodS LWl_good wq222 wq223 wq4 wq224) rfl rfl rfl (by decide +kernel) rfl (by rw [hR]; exact ⟨Nat.le_of_ble_eq_true rfl, Nat.le_of_ble_eq_true rfl⟩) (by rw [hR]; exact ⟨Nat.le_of_ble_eq_true rfl, Nat.le_of_ble_eq_true rfl⟩) (Nat.le_of_ble_eq_true rfl) dL_holds_170 (fun v170 S170 h170 => ?_) (fun E170 S170 h170 => ?_)
          · obtain ⟨rfl, hY, hkp⟩ := h170
            replace hS := hS.kp hY hkp
            refine z_int ((hAT _).trans eV.symm) ?_
            refine z_isub C dL_holds_173 ?_
            refine z_iload C rfl dL_holds_174 ?_
            refine z_icmp_gt 183 C dL_holds_176 (by decide) (fun c176 => ?_) (fun c176 => ?_)
            · refine z_iconst 0 (by decide) C dL_holds_183 ?_
              refine z_zreturn C F (Nat.le_of_ble_eq_true rfl) (Nat.le_of_ble_eq_true rfl) (by decide) dL_holds_184 ?_
              first | exact ⟨one_ev (hev.mpr ⟨c159, Int32.not_lt.mp c176⟩), hS⟩ | exact ⟨zero_ev (fun q => (hev.mp q).1 c159), hS⟩ | exact ⟨zero_ev (fun q => absurd c176 (Int32.not_lt.mpr (hev.mp q).2)), hS⟩
            · refine z_iconst 1 (by decide) C dL_holds_179 ?_
              refine z_goto 184 C dL_holds_180 (by decide) ?_
              refine z_zreturn C F (Nat.le_of_ble_eq_true rfl) (Nat.le_of_ble_eq_true rfl) (by decide) dL_holds_184 ?_
              first | exact ⟨one_ev (hev.mpr ⟨c159, Int32.not_lt.mp c176⟩), hS⟩ | exact ⟨zero_ev (fun q => (hev.mp q).1 c159), hS⟩ | exact ⟨zero_ev (fun q => absurd c176 (Int32.not_lt.mpr (hev.mp q).2)), hS⟩
          · exact h170.elim
        · exact h163.elim
    · exact h156.elim
  · refine z_tableIn 185 C dL_holds_28 (by decide) (by decide) rfl (by decide) ?_
    have ek9 : D 53 r = 5 := ek
    obtain ⟨i9, hi9, e1⟩ := hr5 ek9
    have hev := hv_5 (t := t) (show i9 < 2 ^ 31 by omega) ek9 e1
    rw [e1]
    refine z_aload_n C rfl dL_holds_185 ?_
    refine z_bipush 15 (by decide) C dL_holds_186 ?_
    refine z_iload C rfl dL_holds_188 ?_
    refine z_iload_n C rfl dL_holds_190 ?_
    refine z_callLH 4 [zr (some x), zi 15, zi (nI i9), zi (nI t)] C Nc Sc (Q_15 hl0 hS.1 i9 t (by omega) (by omega)) rfl (zgoodS LWl_good wq222 wq223 wq4 wq224) rfl rfl rfl (by decide +kernel) rfl (by rw [hR]; exact ⟨Nat.le_of_ble_eq_true rfl, Nat.le_of_ble_eq_true rfl⟩) (by rw [hR]; exact ⟨Nat.le_of_ble_eq_true rfl, Nat.le_of_ble_eq_true rfl⟩) (Nat.le_of_ble_eq_true rfl) dL_holds_191 (fun v191 S191 h191 => ?_) (fun E191 S191 h191 => ?_)
    · obtain ⟨rfl, hY, hkp⟩ := h191
      replace hS := hS.kp hY hkp
      refine z_int ((hAL _ _ hi9).trans (hAT _)) ?_
      refine z_iconst 1 (by decide) C dL_holds_194 ?_
      refine z_icmp_ne 202 C dL_holds_195 (by decide) (fun c195 => ?_) (fun c195 => ?_)
      · refine z_iconst 0 (by decide) C dL_holds_202 ?_
        refine z_zreturn C F (Nat.le_of_ble_eq_true rfl) (Nat.le_of_ble_eq_true rfl) (by decide) dL_holds_203 ?_
        first | exact ⟨one_ev (hev.mpr c195), hS⟩ | exact ⟨zero_ev (fun q => c195 (hev.mp q)), hS⟩
      · refine z_iconst 1 (by decide) C dL_holds_198 ?_
        refine z_goto 203 C dL_holds_199 (by decide) ?_
        refine z_zreturn C F (Nat.le_of_ble_eq_true rfl) (Nat.le_of_ble_eq_true rfl) (by decide) dL_holds_203 ?_
        first | exact ⟨one_ev (hev.mpr c195), hS⟩ | exact ⟨zero_ev (fun q => c195 (hev.mp q)), hS⟩
    · exact h191.elim
  · refine z_tableIn 204 C dL_holds_28 (by decide) (by decide) rfl (by decide) ?_
    have ek9 : D 53 r = 6 := ek
    obtain ⟨p9, q9, hp9, hq9, e1, e2⟩ := hr68 (Or.inl ek9)
    have e3 : f (12 + 3 * r) = nI q9 := ((hmr r hr).2.2 (Or.inl ek9)).trans e2
    rw [e1, e3]
    have hev := hv_6 (t := t) ho hr hp9 hq9 ek9 e1 e2
    refine z_aload_n C rfl dL_holds_204 ?_
    refine z_bipush 11 (by decide) C dL_holds_205 ?_
    refine z_iload C rfl dL_holds_207 ?_
    refine z_iload_n C rfl dL_holds_209 ?_
    refine z_callLH 4 [zr (some x), zi 11, zi (nI p9), zi (nI t)] C Nc Sc (Q_11 hl0 hS.1 p9 t (by omega) (by omega)) rfl (zgoodS LWl_good wq222 wq223 wq4 wq224) rfl rfl rfl (by decide +kernel) rfl (by rw [hR]; exact ⟨Nat.le_of_ble_eq_true rfl, Nat.le_of_ble_eq_true rfl⟩) (by rw [hR]; exact ⟨Nat.le_of_ble_eq_true rfl, Nat.le_of_ble_eq_true rfl⟩) (Nat.le_of_ble_eq_true rfl) dL_holds_210 (fun v210 S210 h210 => ?_) (fun E210 S210 h210 => ?_)
    · obtain ⟨rfl, hY, hkp⟩ := h210
      replace hS := hS.kp hY hkp
      refine z_int ((hAR _ _ (by omega)).trans (hAT _)) ?_
      refine z_iconst 1 (by decide) C dL_holds_213 ?_
      refine z_icmp_ne 234 C dL_holds_214 (by decide) (fun c214 => ?_) (fun c214 => ?_)
      · refine z_iconst 0 (by decide) C dL_holds_234 ?_
        refine z_zreturn C F (Nat.le_of_ble_eq_true rfl) (Nat.le_of_ble_eq_true rfl) (by decide) dL_holds_235 ?_
        first | exact ⟨one_ev (hev.mpr ⟨c214, c227⟩), hS⟩ | exact ⟨zero_ev (fun q => c214 (hev.mp q).1), hS⟩ | exact ⟨zero_ev (fun q => c227 (hev.mp q).2), hS⟩
      · refine z_aload_n C rfl dL_holds_217 ?_
        refine z_bipush 11 (by decide) C dL_holds_218 ?_
        refine z_iload C rfl dL_holds_220 ?_
        refine z_iload_n C rfl dL_holds_222 ?_
        refine z_callLH 4 [zr (some x), zi 11, zi (nI q9), zi (nI t)] C Nc Sc (Q_11 hl0 hS.1 q9 t (by omega) (by omega)) rfl (zgoodS LWl_good wq222 wq223 wq4 wq224) rfl rfl rfl (by decide +kernel) rfl (by rw [hR]; exact ⟨Nat.le_of_ble_eq_true rfl, Nat.le_of_ble_eq_true rfl⟩) (by rw [hR]; exact ⟨Nat.le_of_ble_eq_true rfl, Nat.le_of_ble_eq_true rfl⟩) (Nat.le_of_ble_eq_true rfl) dL_holds_223 (fun v223 S223 h223 => ?_) (fun E223 S223 h223 => ?_)
        · obtain ⟨rfl, hY, hkp⟩ := h223
          replace hS := hS.kp hY hkp
          refine z_int ((hAR _ _ (by omega)).trans (hAT _)) ?_
          refine z_iconst 1 (by decide) C dL_holds_226 ?_
          refine z_icmp_ne 234 C dL_holds_227 (by decide) (fun c227 => ?_) (fun c227 => ?_)
          · refine z_iconst 0 (by decide) C dL_holds_234 ?_
            refine z_zreturn C F (Nat.le_of_ble_eq_true rfl) (Nat.le_of_ble_eq_true rfl) (by decide) dL_holds_235 ?_
            first | exact ⟨one_ev (hev.mpr ⟨c214, c227⟩), hS⟩ | exact ⟨zero_ev (fun q => c214 (hev.mp q).1), hS⟩ | exact ⟨zero_ev (fun q => c227 (hev.mp q).2), hS⟩
          · refine z_iconst 1 (by decide) C dL_holds_230 ?_
            refine z_goto 235 C dL_holds_231 (by decide) ?_
            refine z_zreturn C F (Nat.le_of_ble_eq_true rfl) (Nat.le_of_ble_eq_true rfl) (by decide) dL_holds_235 ?_
            first | exact ⟨one_ev (hev.mpr ⟨c214, c227⟩), hS⟩ | exact ⟨zero_ev (fun q => c214 (hev.mp q).1), hS⟩ | exact ⟨zero_ev (fun q => c227 (hev.mp q).2), hS⟩
        · exact h223.elim
    · exact h210.elim
  · refine z_tableIn 236 C dL_holds_28 (by decide) (by decide) rfl (by decide) ?_
    have ek9 : D 53 r = 7 := ek
    obtain ⟨p9, q9, hp9, hq9, e1, e2⟩ := hr68 (Or.inr (Or.inl ek9))
    have e3 : f (12 + 3 * r) = nI q9 := ((hmr r hr).2.2 (Or.inr ek9)).trans e2
    rw [e1, e3]
    have hev := hv_7 (t := t) ho hr hp9 hq9 ek9 e1 e2
    refine z_aload_n C rfl dL_holds_236 ?_
    refine z_bipush 11 (by decide) C dL_holds_237 ?_
    refine z_iload C rfl dL_holds_239 ?_
    refine z_iload_n C rfl dL_holds_241 ?_
    refine z_callLH 4 [zr (some x), zi 11, zi (nI p9), zi (nI t)] C Nc Sc (Q_11 hl0 hS.1 p9 t (by omega) (by omega)) rfl (zgoodS LWl_good wq222 wq223 wq4 wq224) rfl rfl rfl (by decide +kernel) rfl (by rw [hR]; exact ⟨Nat.le_of_ble_eq_true rfl, Nat.le_of_ble_eq_true rfl⟩) (by rw [hR]; exact ⟨Nat.le_of_ble_eq_true rfl, Nat.le_of_ble_eq_true rfl⟩) (Nat.le_of_ble_eq_true rfl) dL_holds_242 (fun v242 S242 h242 => ?_) (fun E242 S242 h242 => ?_)
    · obtain ⟨rfl, hY, hkp⟩ := h242
      replace hS := hS.kp hY hkp
      refine z_int ((hAR _ _ (by omega)).trans (hAT _)) ?_
      refine z_iconst 1 (by decide) C dL_holds_245 ?_
      refine z_icmp_eq 262 C dL_holds_246 (by decide) (fun c246 => ?_) (fun c246 => ?_)
      · refine z_iconst 1 (by decide) C dL_holds_262 ?_
        refine z_goto 267 C dL_holds_263 (by decide) ?_
        refine z_zreturn C F (Nat.le_of_ble_eq_true rfl) (Nat.le_of_ble_eq_true rfl) (by decide) dL_holds_267 ?_
        first | exact ⟨one_ev (hev.mpr (Or.inl c246)), hS⟩ | exact ⟨one_ev (hev.mpr (Or.inr c259)), hS⟩ | exact ⟨zero_ev (fun q => (hev.mp q).elim c246 c259), hS⟩
      · refine z_aload_n C rfl dL_holds_249 ?_
        refine z_bipush 11 (by decide) C dL_holds_250 ?_
        refine z_iload C rfl dL_holds_252 ?_
        refine z_iload_n C rfl dL_holds_254 ?_
        refine z_callLH 4 [zr (some x), zi 11, zi (nI q9), zi (nI t)] C Nc Sc (Q_11 hl0 hS.1 q9 t (by omega) (by omega)) rfl (zgoodS LWl_good wq222 wq223 wq4 wq224) rfl rfl rfl (by decide +kernel) rfl (by rw [hR]; exact ⟨Nat.le_of_ble_eq_true rfl, Nat.le_of_ble_eq_true rfl⟩) (by rw [hR]; exact ⟨Nat.le_of_ble_eq_true rfl, Nat.le_of_ble_eq_true rfl⟩) (Nat.le_of_ble_eq_true rfl) dL_holds_255 (fun v255 S255 h255 => ?_) (fun E255 S255 h255 => ?_)
        · obtain ⟨rfl, hY, hkp⟩ := h255
          replace hS := hS.kp hY hkp
          refine z_int ((hAR _ _ (by omega)).trans (hAT _)) ?_
          refine z_iconst 1 (by decide) C dL_holds_258 ?_
          refine z_icmp_ne 266 C dL_holds_259 (by decide) (fun c259 => ?_) (fun c259 => ?_)
          · refine z_iconst 0 (by decide) C dL_holds_266 ?_
            refine z_zreturn C F (Nat.le_of_ble_eq_true rfl) (Nat.le_of_ble_eq_true rfl) (by decide) dL_holds_267 ?_
            first | exact ⟨one_ev (hev.mpr (Or.inl c246)), hS⟩ | exact ⟨one_ev (hev.mpr (Or.inr c259)), hS⟩ | exact ⟨zero_ev (fun q => (hev.mp q).elim c246 c259), hS⟩
          · refine z_iconst 1 (by decide) C dL_holds_262 ?_
            refine z_goto 267 C dL_holds_263 (by decide) ?_
            refine z_zreturn C F (Nat.le_of_ble_eq_true rfl) (Nat.le_of_ble_eq_true rfl) (by decide) dL_holds_267 ?_
            first | exact ⟨one_ev (hev.mpr (Or.inl c246)), hS⟩ | exact ⟨one_ev (hev.mpr (Or.inr c259)), hS⟩ | exact ⟨zero_ev (fun q => (hev.mp q).elim c246 c259), hS⟩
        · exact h255.elim
    · exact h242.elim
  · refine z_tableOut 268 C dL_holds_28 (by decide) (by decide) ?_
    have ek9 : D 53 r = 8 := ek
    obtain ⟨p9, q9, hp9, hq9, e1, e2⟩ := hr68 (Or.inr (Or.inr ek9))
    rw [e1]
    have hev := hv_8 (t := t) ho hr hp9 hq9 ek9 e1 e2
    refine z_aload_n C rfl dL_holds_268 ?_
    refine z_bipush 11 (by decide) C dL_holds_269 ?_
    refine z_iload C rfl dL_holds_271 ?_
    refine z_iload_n C rfl dL_holds_273 ?_
    refine z_callLH 4 [zr (some x), zi 11, zi (nI p9), zi (nI t)] C Nc Sc (Q_11 hl0 hS.1 p9 t (by omega) (by omega)) rfl (zgoodS LWl_good wq222 wq223 wq4 wq224) rfl rfl rfl (by decide +kernel) rfl (by rw [hR]; exact ⟨Nat.le_of_ble_eq_true rfl, Nat.le_of_ble_eq_true rfl⟩) (by rw [hR]; exact ⟨Nat.le_of_ble_eq_true rfl, Nat.le_of_ble_eq_true rfl⟩) (Nat.le_of_ble_eq_true rfl) dL_holds_274 (fun v274 S274 h274 => ?_) (fun E274 S274 h274 => ?_)
    · obtain ⟨rfl, hY, hkp⟩ := h274
      replace hS := hS.kp hY hkp
      refine z_int ((hAR _ _ (by omega)).trans (hAT _)) ?_
      refine z_if_ne 284 C dL_holds_277 (by decide) (fun c277 => ?_) (fun c277 => ?_)
      · refine z_iconst 0 (by decide) C dL_holds_284 ?_
        refine z_zreturn C F (Nat.le_of_ble_eq_true rfl) (Nat.le_of_ble_eq_true rfl) (by decide) dL_holds_285 ?_
        first | exact ⟨one_ev (hev.mpr c277), hS⟩ | exact ⟨zero_ev (fun q => c277 (hev.mp q)), hS⟩
      · refine z_iconst 1 (by decide) C dL_holds_280 ?_
        refine z_goto 285 C dL_holds_281 (by decide) ?_
        refine z_zreturn C F (Nat.le_of_ble_eq_true rfl) (Nat.le_of_ble_eq_true rfl) (by decide) dL_holds_285 ?_
        first | exact ⟨one_ev (hev.mpr c277), hS⟩ | exact ⟨zero_ev (fun q => c277 (hev.mp q)), hS⟩
    · exact h274.elim
