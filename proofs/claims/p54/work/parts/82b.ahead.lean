/-! one track ahead of another one -/
theorem pl_s (D : ZD) (t : Nat) : D 42 t = plD D 115 t := by unfold plD plO; rw [if_pos rfl]
theorem pl_r (D : ZD) (t : Nat) : - D 43 t = plD D 114 t := by unfold plD plO; rw [if_neg (by decide), if_pos rfl]
theorem pl_p (D : ZD) (t : Nat) : D 44 t = plD D 112 t := by unfold plD plO; rw [if_neg (by decide), if_neg (by decide), if_pos rfl]
theorem pl_n (D : ZD) (t : Nat) : - nI t = plD D 110 t := by unfold plD plO; rw [if_neg (by decide), if_neg (by decide), if_neg (by decide)]
set_option maxRecDepth 100000 in
set_option maxHeartbeats 4000000 in
theorem L_isAhead_s {l : Launch} {sc : zSQ} (hl0 : l.stackTraces = false) {D : ZD} {x : Nat} {Fw : Nat → Bool} {S : ZM} (hY : lY D x Fw S) (t u : Nat) (ht : prD D t = true) (hu : prD D u = true) : zMetL l sc yL_isAhead (Cond.code yL_isAhead cL_isAhead 7 (some .boolean) :: LWl) ({ frames := 48, cells := 4, slots := 24, locals := 1100 } : Room) 4 24 [zr (some x), zi 115, zi (nI t), zi (nI u)] S (zPo (fun v S' => v = some (zi (bI (ltB (plD D 115) t u))) ∧ lY D x Fw S' ∧ kp Fw S S') (fun _ _ => False)) := by
  refine zMetL.of [some (zr (some x)), some (zi 115), some (zi (nI t)), some (zi (nI u)), none, none, none] hl0 (by decide) rfl (Nat.le_of_ble_eq_true rfl) rfl ?_
  intro X C N Nc Sc hR hX F
  subst hX
  have hRc : (xR X).cells = 4 := by rw [hR]
  have hRs : (xR X).slots = 24 := by rw [hR]
  have ht24 := hY.ok.pr ht
  have hu24 := hY.ok.pr hu
  have hK := kp.refl Fw S
  refine z_iload_n C rfl dL_isAhead_0 ?_
  refine z_bipush 115 (by decide) C dL_isAhead_1 ?_
  refine z_icmp_ne 10 C dL_isAhead_3 (by decide) (fun c3 => absurd rfl c3) (fun c3 => ?_)
  refine z_iconst 0 (by decide) C dL_isAhead_6 ?_
  refine z_goto 21 C dL_isAhead_7 (by decide) ?_
  refine z_istore [_, _, _, _, _, _, _] C (by decide) rfl dL_isAhead_21 ?_
  refine z_iload_n C rfl dL_isAhead_23 ?_
  refine z_bipush 110 (by decide) C dL_isAhead_24 ?_
  refine z_icmp_ne 34 C dL_isAhead_26 (by decide) (fun c26 => ?_) (fun c26 => absurd c26 (by decide))
  refine z_iload_n C rfl dL_isAhead_34 ?_
  refine z_bipush 114 (by decide) C dL_isAhead_35 ?_
  refine z_icmp_ne 52 C dL_isAhead_37 (by decide) (fun c37 => ?_) (fun c37 => absurd c37 (by decide))
  refine z_aload_n C rfl dL_isAhead_52 ?_
  refine z_iload C rfl dL_isAhead_53 ?_
  refine z_iload_n C rfl dL_isAhead_55 ?_
  refine z_iconst 0 (by decide) C dL_isAhead_56 ?_
  refine z_callLH 4 [zr (some x), zi 0, zi (nI t), zi 0] C Nc Sc (Q_0 hl0 hY t (by omega) 0) rfl (zgoodS LWl_good wq222 wq223 wq4 wq224) rfl rfl rfl (by decide +kernel) rfl (by rw [hR]; exact ⟨Nat.le_of_ble_eq_true rfl, Nat.le_of_ble_eq_true rfl⟩) (by rw [hR]; exact ⟨Nat.le_of_ble_eq_true rfl, Nat.le_of_ble_eq_true rfl⟩) (Nat.le_of_ble_eq_true rfl) dL_isAhead_57 (fun v57 S57 h57 => ?_) (fun E57 S57 h57 => ?_)
  · obtain ⟨rfl, hY, hk57⟩ := h57
    replace hK := hK.trans hk57
    refine z_int ((if_pos ht).trans (pl_s D t)) ?_
    refine z_istore [_, _, _, _, _, _, _] C (by decide) rfl dL_isAhead_60 ?_
    refine z_iload_n C rfl dL_isAhead_62 ?_
    refine z_bipush 110 (by decide) C dL_isAhead_63 ?_
    refine z_icmp_ne 73 C dL_isAhead_65 (by decide) (fun c65 => ?_) (fun c65 => absurd c65 (by decide))
    refine z_iload_n C rfl dL_isAhead_73 ?_
    refine z_bipush 114 (by decide) C dL_isAhead_74 ?_
    refine z_icmp_ne 91 C dL_isAhead_76 (by decide) (fun c76 => ?_) (fun c76 => absurd c76 (by decide))
    refine z_aload_n C rfl dL_isAhead_91 ?_
    refine z_iload C rfl dL_isAhead_92 ?_
    refine z_iload_n C rfl dL_isAhead_94 ?_
    refine z_iconst 0 (by decide) C dL_isAhead_95 ?_
    refine z_callLH 4 [zr (some x), zi 0, zi (nI u), zi 0] C Nc Sc (Q_0 hl0 hY u (by omega) 0) rfl (zgoodS LWl_good wq222 wq223 wq4 wq224) rfl rfl rfl (by decide +kernel) rfl (by rw [hR]; exact ⟨Nat.le_of_ble_eq_true rfl, Nat.le_of_ble_eq_true rfl⟩) (by rw [hR]; exact ⟨Nat.le_of_ble_eq_true rfl, Nat.le_of_ble_eq_true rfl⟩) (Nat.le_of_ble_eq_true rfl) dL_isAhead_96 (fun v96 S96 h96 => ?_) (fun E96 S96 h96 => ?_)
    · obtain ⟨rfl, hY, hk96⟩ := h96
      replace hK := hK.trans hk96
      refine z_int ((if_pos hu).trans (pl_s D u)) ?_
      refine z_istore [_, _, _, _, _, _, _] C (by decide) rfl dL_isAhead_99 ?_
      refine z_iload C rfl dL_isAhead_101 ?_
      refine z_iload C rfl dL_isAhead_103 ?_
      refine z_icmp_lt 120 C dL_isAhead_105 (by decide) (fun c105 => ?_) (fun c105 => ?_)
      · refine z_iconst 1 (by decide) C dL_isAhead_120 ?_
        refine z_goto 125 C dL_isAhead_121 (by decide) ?_
        refine z_zreturn C F (Nat.le_of_ble_eq_true rfl) (Nat.le_of_ble_eq_true rfl) (by decide) dL_isAhead_125 ?_
        first | exact ⟨one_ev (ltB_iff.mpr (Or.inl c105)), hY, hK⟩ | exact ⟨one_ev (ltB_iff.mpr (Or.inr ⟨c112, (nI_ltI (by omega) (by omega)).mp (Int32.not_le.mp c117)⟩)), hY, hK⟩ | exact ⟨zero_ev (fun q => (ltB_iff.mp q).elim c105 (fun z => c112 z.1)), hY, hK⟩ | exact ⟨zero_ev (fun q => (ltB_iff.mp q).elim c105 (fun z => absurd (nI_lt z.2 (by omega)) (Int32.not_lt.mpr c117))), hY, hK⟩
      · refine z_iload C rfl dL_isAhead_108 ?_
        refine z_iload C rfl dL_isAhead_110 ?_
        refine z_icmp_ne 124 C dL_isAhead_112 (by decide) (fun c112 => ?_) (fun c112 => ?_)
        · refine z_iconst 0 (by decide) C dL_isAhead_124 ?_
          refine z_zreturn C F (Nat.le_of_ble_eq_true rfl) (Nat.le_of_ble_eq_true rfl) (by decide) dL_isAhead_125 ?_
          first | exact ⟨one_ev (ltB_iff.mpr (Or.inl c105)), hY, hK⟩ | exact ⟨one_ev (ltB_iff.mpr (Or.inr ⟨c112, (nI_ltI (by omega) (by omega)).mp (Int32.not_le.mp c117)⟩)), hY, hK⟩ | exact ⟨zero_ev (fun q => (ltB_iff.mp q).elim c105 (fun z => c112 z.1)), hY, hK⟩ | exact ⟨zero_ev (fun q => (ltB_iff.mp q).elim c105 (fun z => absurd (nI_lt z.2 (by omega)) (Int32.not_lt.mpr c117))), hY, hK⟩
        · refine z_iload_n C rfl dL_isAhead_115 ?_
          refine z_iload_n C rfl dL_isAhead_116 ?_
          refine z_icmp_ge 124 C dL_isAhead_117 (by decide) (fun c117 => ?_) (fun c117 => ?_)
          · refine z_iconst 0 (by decide) C dL_isAhead_124 ?_
            refine z_zreturn C F (Nat.le_of_ble_eq_true rfl) (Nat.le_of_ble_eq_true rfl) (by decide) dL_isAhead_125 ?_
            first | exact ⟨one_ev (ltB_iff.mpr (Or.inl c105)), hY, hK⟩ | exact ⟨one_ev (ltB_iff.mpr (Or.inr ⟨c112, (nI_ltI (by omega) (by omega)).mp (Int32.not_le.mp c117)⟩)), hY, hK⟩ | exact ⟨zero_ev (fun q => (ltB_iff.mp q).elim c105 (fun z => c112 z.1)), hY, hK⟩ | exact ⟨zero_ev (fun q => (ltB_iff.mp q).elim c105 (fun z => absurd (nI_lt z.2 (by omega)) (Int32.not_lt.mpr c117))), hY, hK⟩
          · refine z_iconst 1 (by decide) C dL_isAhead_120 ?_
            refine z_goto 125 C dL_isAhead_121 (by decide) ?_
            refine z_zreturn C F (Nat.le_of_ble_eq_true rfl) (Nat.le_of_ble_eq_true rfl) (by decide) dL_isAhead_125 ?_
            first | exact ⟨one_ev (ltB_iff.mpr (Or.inl c105)), hY, hK⟩ | exact ⟨one_ev (ltB_iff.mpr (Or.inr ⟨c112, (nI_ltI (by omega) (by omega)).mp (Int32.not_le.mp c117)⟩)), hY, hK⟩ | exact ⟨zero_ev (fun q => (ltB_iff.mp q).elim c105 (fun z => c112 z.1)), hY, hK⟩ | exact ⟨zero_ev (fun q => (ltB_iff.mp q).elim c105 (fun z => absurd (nI_lt z.2 (by omega)) (Int32.not_lt.mpr c117))), hY, hK⟩
    · exact h96.elim
  · exact h57.elim
set_option maxRecDepth 100000 in
set_option maxHeartbeats 4000000 in
theorem L_isAhead_r {l : Launch} {sc : zSQ} (hl0 : l.stackTraces = false) {D : ZD} {x : Nat} {Fw : Nat → Bool} {S : ZM} (hY : lY D x Fw S) (t u : Nat) (ht : prD D t = true) (hu : prD D u = true) : zMetL l sc yL_isAhead (Cond.code yL_isAhead cL_isAhead 7 (some .boolean) :: LWl) ({ frames := 48, cells := 4, slots := 24, locals := 1100 } : Room) 4 24 [zr (some x), zi 114, zi (nI t), zi (nI u)] S (zPo (fun v S' => v = some (zi (bI (ltB (plD D 114) t u))) ∧ lY D x Fw S' ∧ kp Fw S S') (fun _ _ => False)) := by
  refine zMetL.of [some (zr (some x)), some (zi 114), some (zi (nI t)), some (zi (nI u)), none, none, none] hl0 (by decide) rfl (Nat.le_of_ble_eq_true rfl) rfl ?_
  intro X C N Nc Sc hR hX F
  subst hX
  have hRc : (xR X).cells = 4 := by rw [hR]
  have hRs : (xR X).slots = 24 := by rw [hR]
  have ht24 := hY.ok.pr ht
  have hu24 := hY.ok.pr hu
  have hK := kp.refl Fw S
  refine z_iload_n C rfl dL_isAhead_0 ?_
  refine z_bipush 115 (by decide) C dL_isAhead_1 ?_
  refine z_icmp_ne 10 C dL_isAhead_3 (by decide) (fun c3 => ?_) (fun c3 => absurd c3 (by decide))
  refine z_iload_n C rfl dL_isAhead_10 ?_
  refine z_bipush 114 (by decide) C dL_isAhead_11 ?_
  refine z_icmp_ne 20 C dL_isAhead_13 (by decide) (fun c13 => absurd rfl c13) (fun c13 => ?_)
  refine z_iconst 1 (by decide) C dL_isAhead_16 ?_
  refine z_goto 21 C dL_isAhead_17 (by decide) ?_
  refine z_istore [_, _, _, _, _, _, _] C (by decide) rfl dL_isAhead_21 ?_
  refine z_iload_n C rfl dL_isAhead_23 ?_
  refine z_bipush 110 (by decide) C dL_isAhead_24 ?_
  refine z_icmp_ne 34 C dL_isAhead_26 (by decide) (fun c26 => ?_) (fun c26 => absurd c26 (by decide))
  refine z_iload_n C rfl dL_isAhead_34 ?_
  refine z_bipush 114 (by decide) C dL_isAhead_35 ?_
  refine z_icmp_ne 52 C dL_isAhead_37 (by decide) (fun c37 => absurd rfl c37) (fun c37 => ?_)
  refine z_aload_n C rfl dL_isAhead_40 ?_
  refine z_iload C rfl dL_isAhead_41 ?_
  refine z_iload_n C rfl dL_isAhead_43 ?_
  refine z_iconst 0 (by decide) C dL_isAhead_44 ?_
  refine z_callLH 4 [zr (some x), zi 1, zi (nI t), zi 0] C Nc Sc (Q_1 hl0 hY t (by omega) 0) rfl (zgoodS LWl_good wq222 wq223 wq4 wq224) rfl rfl rfl (by decide +kernel) rfl (by rw [hR]; exact ⟨Nat.le_of_ble_eq_true rfl, Nat.le_of_ble_eq_true rfl⟩) (by rw [hR]; exact ⟨Nat.le_of_ble_eq_true rfl, Nat.le_of_ble_eq_true rfl⟩) (Nat.le_of_ble_eq_true rfl) dL_isAhead_45 (fun v45 S45 h45 => ?_) (fun E45 S45 h45 => ?_)
  · obtain ⟨rfl, hY, hk45⟩ := h45
    replace hK := hK.trans hk45
    refine z_int (if_pos ht) ?_
    refine z_ineg C dL_isAhead_48 ?_
    refine z_int (pl_r D t) ?_
    refine z_goto 60 C dL_isAhead_49 (by decide) ?_
    refine z_istore [_, _, _, _, _, _, _] C (by decide) rfl dL_isAhead_60 ?_
    refine z_iload_n C rfl dL_isAhead_62 ?_
    refine z_bipush 110 (by decide) C dL_isAhead_63 ?_
    refine z_icmp_ne 73 C dL_isAhead_65 (by decide) (fun c65 => ?_) (fun c65 => absurd c65 (by decide))
    refine z_iload_n C rfl dL_isAhead_73 ?_
    refine z_bipush 114 (by decide) C dL_isAhead_74 ?_
    refine z_icmp_ne 91 C dL_isAhead_76 (by decide) (fun c76 => absurd rfl c76) (fun c76 => ?_)
    refine z_aload_n C rfl dL_isAhead_79 ?_
    refine z_iload C rfl dL_isAhead_80 ?_
    refine z_iload_n C rfl dL_isAhead_82 ?_
    refine z_iconst 0 (by decide) C dL_isAhead_83 ?_
    refine z_callLH 4 [zr (some x), zi 1, zi (nI u), zi 0] C Nc Sc (Q_1 hl0 hY u (by omega) 0) rfl (zgoodS LWl_good wq222 wq223 wq4 wq224) rfl rfl rfl (by decide +kernel) rfl (by rw [hR]; exact ⟨Nat.le_of_ble_eq_true rfl, Nat.le_of_ble_eq_true rfl⟩) (by rw [hR]; exact ⟨Nat.le_of_ble_eq_true rfl, Nat.le_of_ble_eq_true rfl⟩) (Nat.le_of_ble_eq_true rfl) dL_isAhead_84 (fun v84 S84 h84 => ?_) (fun E84 S84 h84 => ?_)
    · obtain ⟨rfl, hY, hk84⟩ := h84
      replace hK := hK.trans hk84
      refine z_int (if_pos hu) ?_
      refine z_ineg C dL_isAhead_87 ?_
      refine z_int (pl_r D u) ?_
      refine z_goto 99 C dL_isAhead_88 (by decide) ?_
      refine z_istore [_, _, _, _, _, _, _] C (by decide) rfl dL_isAhead_99 ?_
      refine z_iload C rfl dL_isAhead_101 ?_
      refine z_iload C rfl dL_isAhead_103 ?_
      refine z_icmp_lt 120 C dL_isAhead_105 (by decide) (fun c105 => ?_) (fun c105 => ?_)
      · refine z_iconst 1 (by decide) C dL_isAhead_120 ?_
        refine z_goto 125 C dL_isAhead_121 (by decide) ?_
        refine z_zreturn C F (Nat.le_of_ble_eq_true rfl) (Nat.le_of_ble_eq_true rfl) (by decide) dL_isAhead_125 ?_
        first | exact ⟨one_ev (ltB_iff.mpr (Or.inl c105)), hY, hK⟩ | exact ⟨one_ev (ltB_iff.mpr (Or.inr ⟨c112, (nI_ltI (by omega) (by omega)).mp (Int32.not_le.mp c117)⟩)), hY, hK⟩ | exact ⟨zero_ev (fun q => (ltB_iff.mp q).elim c105 (fun z => c112 z.1)), hY, hK⟩ | exact ⟨zero_ev (fun q => (ltB_iff.mp q).elim c105 (fun z => absurd (nI_lt z.2 (by omega)) (Int32.not_lt.mpr c117))), hY, hK⟩
      · refine z_iload C rfl dL_isAhead_108 ?_
        refine z_iload C rfl dL_isAhead_110 ?_
        refine z_icmp_ne 124 C dL_isAhead_112 (by decide) (fun c112 => ?_) (fun c112 => ?_)
        · refine z_iconst 0 (by decide) C dL_isAhead_124 ?_
          refine z_zreturn C F (Nat.le_of_ble_eq_true rfl) (Nat.le_of_ble_eq_true rfl) (by decide) dL_isAhead_125 ?_
          first | exact ⟨one_ev (ltB_iff.mpr (Or.inl c105)), hY, hK⟩ | exact ⟨one_ev (ltB_iff.mpr (Or.inr ⟨c112, (nI_ltI (by omega) (by omega)).mp (Int32.not_le.mp c117)⟩)), hY, hK⟩ | exact ⟨zero_ev (fun q => (ltB_iff.mp q).elim c105 (fun z => c112 z.1)), hY, hK⟩ | exact ⟨zero_ev (fun q => (ltB_iff.mp q).elim c105 (fun z => absurd (nI_lt z.2 (by omega)) (Int32.not_lt.mpr c117))), hY, hK⟩
        · refine z_iload_n C rfl dL_isAhead_115 ?_
          refine z_iload_n C rfl dL_isAhead_116 ?_
          refine z_icmp_ge 124 C dL_isAhead_117 (by decide) (fun c117 => ?_) (fun c117 => ?_)
          · refine z_iconst 0 (by decide) C dL_isAhead_124 ?_
            refine z_zreturn C F (Nat.le_of_ble_eq_true rfl) (Nat.le_of_ble_eq_true rfl) (by decide) dL_isAhead_125 ?_
            first | exact ⟨one_ev (ltB_iff.mpr (Or.inl c105)), hY, hK⟩ | exact ⟨one_ev (ltB_iff.mpr (Or.inr ⟨c112, (nI_ltI (by omega) (by omega)).mp (Int32.not_le.mp c117)⟩)), hY, hK⟩ | exact ⟨zero_ev (fun q => (ltB_iff.mp q).elim c105 (fun z => c112 z.1)), hY, hK⟩ | exact ⟨zero_ev (fun q => (ltB_iff.mp q).elim c105 (fun z => absurd (nI_lt z.2 (by omega)) (Int32.not_lt.mpr c117))), hY, hK⟩
          · refine z_iconst 1 (by decide) C dL_isAhead_120 ?_
            refine z_goto 125 C dL_isAhead_121 (by decide) ?_
            refine z_zreturn C F (Nat.le_of_ble_eq_true rfl) (Nat.le_of_ble_eq_true rfl) (by decide) dL_isAhead_125 ?_
            first | exact ⟨one_ev (ltB_iff.mpr (Or.inl c105)), hY, hK⟩ | exact ⟨one_ev (ltB_iff.mpr (Or.inr ⟨c112, (nI_ltI (by omega) (by omega)).mp (Int32.not_le.mp c117)⟩)), hY, hK⟩ | exact ⟨zero_ev (fun q => (ltB_iff.mp q).elim c105 (fun z => c112 z.1)), hY, hK⟩ | exact ⟨zero_ev (fun q => (ltB_iff.mp q).elim c105 (fun z => absurd (nI_lt z.2 (by omega)) (Int32.not_lt.mpr c117))), hY, hK⟩
    · exact h84.elim
  · exact h45.elim
set_option maxRecDepth 100000 in
set_option maxHeartbeats 4000000 in
theorem L_isAhead_p {l : Launch} {sc : zSQ} (hl0 : l.stackTraces = false) {D : ZD} {x : Nat} {Fw : Nat → Bool} {S : ZM} (hY : lY D x Fw S) (t u : Nat) (ht : prD D t = true) (hu : prD D u = true) : zMetL l sc yL_isAhead (Cond.code yL_isAhead cL_isAhead 7 (some .boolean) :: LWl) ({ frames := 48, cells := 4, slots := 24, locals := 1100 } : Room) 4 24 [zr (some x), zi 112, zi (nI t), zi (nI u)] S (zPo (fun v S' => v = some (zi (bI (ltB (plD D 112) t u))) ∧ lY D x Fw S' ∧ kp Fw S S') (fun _ _ => False)) := by
  refine zMetL.of [some (zr (some x)), some (zi 112), some (zi (nI t)), some (zi (nI u)), none, none, none] hl0 (by decide) rfl (Nat.le_of_ble_eq_true rfl) rfl ?_
  intro X C N Nc Sc hR hX F
  subst hX
  have hRc : (xR X).cells = 4 := by rw [hR]
  have hRs : (xR X).slots = 24 := by rw [hR]
  have ht24 := hY.ok.pr ht
  have hu24 := hY.ok.pr hu
  have hK := kp.refl Fw S
  refine z_iload_n C rfl dL_isAhead_0 ?_
  refine z_bipush 115 (by decide) C dL_isAhead_1 ?_
  refine z_icmp_ne 10 C dL_isAhead_3 (by decide) (fun c3 => ?_) (fun c3 => absurd c3 (by decide))
  refine z_iload_n C rfl dL_isAhead_10 ?_
  refine z_bipush 114 (by decide) C dL_isAhead_11 ?_
  refine z_icmp_ne 20 C dL_isAhead_13 (by decide) (fun c13 => ?_) (fun c13 => absurd c13 (by decide))
  refine z_iconst 2 (by decide) C dL_isAhead_20 ?_
  refine z_istore [_, _, _, _, _, _, _] C (by decide) rfl dL_isAhead_21 ?_
  refine z_iload_n C rfl dL_isAhead_23 ?_
  refine z_bipush 110 (by decide) C dL_isAhead_24 ?_
  refine z_icmp_ne 34 C dL_isAhead_26 (by decide) (fun c26 => ?_) (fun c26 => absurd c26 (by decide))
  refine z_iload_n C rfl dL_isAhead_34 ?_
  refine z_bipush 114 (by decide) C dL_isAhead_35 ?_
  refine z_icmp_ne 52 C dL_isAhead_37 (by decide) (fun c37 => ?_) (fun c37 => absurd c37 (by decide))
  refine z_aload_n C rfl dL_isAhead_52 ?_
  refine z_iload C rfl dL_isAhead_53 ?_
  refine z_iload_n C rfl dL_isAhead_55 ?_
  refine z_iconst 0 (by decide) C dL_isAhead_56 ?_
  refine z_callLH 4 [zr (some x), zi 2, zi (nI t), zi 0] C Nc Sc (Q_2 hl0 hY t (by omega) 0) rfl (zgoodS LWl_good wq222 wq223 wq4 wq224) rfl rfl rfl (by decide +kernel) rfl (by rw [hR]; exact ⟨Nat.le_of_ble_eq_true rfl, Nat.le_of_ble_eq_true rfl⟩) (by rw [hR]; exact ⟨Nat.le_of_ble_eq_true rfl, Nat.le_of_ble_eq_true rfl⟩) (Nat.le_of_ble_eq_true rfl) dL_isAhead_57 (fun v57 S57 h57 => ?_) (fun E57 S57 h57 => ?_)
  · obtain ⟨rfl, hY, hk57⟩ := h57
    replace hK := hK.trans hk57
    refine z_int ((if_pos ht).trans (pl_p D t)) ?_
    refine z_istore [_, _, _, _, _, _, _] C (by decide) rfl dL_isAhead_60 ?_
    refine z_iload_n C rfl dL_isAhead_62 ?_
    refine z_bipush 110 (by decide) C dL_isAhead_63 ?_
    refine z_icmp_ne 73 C dL_isAhead_65 (by decide) (fun c65 => ?_) (fun c65 => absurd c65 (by decide))
    refine z_iload_n C rfl dL_isAhead_73 ?_
    refine z_bipush 114 (by decide) C dL_isAhead_74 ?_
    refine z_icmp_ne 91 C dL_isAhead_76 (by decide) (fun c76 => ?_) (fun c76 => absurd c76 (by decide))
    refine z_aload_n C rfl dL_isAhead_91 ?_
    refine z_iload C rfl dL_isAhead_92 ?_
    refine z_iload_n C rfl dL_isAhead_94 ?_
    refine z_iconst 0 (by decide) C dL_isAhead_95 ?_
    refine z_callLH 4 [zr (some x), zi 2, zi (nI u), zi 0] C Nc Sc (Q_2 hl0 hY u (by omega) 0) rfl (zgoodS LWl_good wq222 wq223 wq4 wq224) rfl rfl rfl (by decide +kernel) rfl (by rw [hR]; exact ⟨Nat.le_of_ble_eq_true rfl, Nat.le_of_ble_eq_true rfl⟩) (by rw [hR]; exact ⟨Nat.le_of_ble_eq_true rfl, Nat.le_of_ble_eq_true rfl⟩) (Nat.le_of_ble_eq_true rfl) dL_isAhead_96 (fun v96 S96 h96 => ?_) (fun E96 S96 h96 => ?_)
    · obtain ⟨rfl, hY, hk96⟩ := h96
      replace hK := hK.trans hk96
      refine z_int ((if_pos hu).trans (pl_p D u)) ?_
      refine z_istore [_, _, _, _, _, _, _] C (by decide) rfl dL_isAhead_99 ?_
      refine z_iload C rfl dL_isAhead_101 ?_
      refine z_iload C rfl dL_isAhead_103 ?_
      refine z_icmp_lt 120 C dL_isAhead_105 (by decide) (fun c105 => ?_) (fun c105 => ?_)
      · refine z_iconst 1 (by decide) C dL_isAhead_120 ?_
        refine z_goto 125 C dL_isAhead_121 (by decide) ?_
        refine z_zreturn C F (Nat.le_of_ble_eq_true rfl) (Nat.le_of_ble_eq_true rfl) (by decide) dL_isAhead_125 ?_
        first | exact ⟨one_ev (ltB_iff.mpr (Or.inl c105)), hY, hK⟩ | exact ⟨one_ev (ltB_iff.mpr (Or.inr ⟨c112, (nI_ltI (by omega) (by omega)).mp (Int32.not_le.mp c117)⟩)), hY, hK⟩ | exact ⟨zero_ev (fun q => (ltB_iff.mp q).elim c105 (fun z => c112 z.1)), hY, hK⟩ | exact ⟨zero_ev (fun q => (ltB_iff.mp q).elim c105 (fun z => absurd (nI_lt z.2 (by omega)) (Int32.not_lt.mpr c117))), hY, hK⟩
      · refine z_iload C rfl dL_isAhead_108 ?_
        refine z_iload C rfl dL_isAhead_110 ?_
        refine z_icmp_ne 124 C dL_isAhead_112 (by decide) (fun c112 => ?_) (fun c112 => ?_)
        · refine z_iconst 0 (by decide) C dL_isAhead_124 ?_
          refine z_zreturn C F (Nat.le_of_ble_eq_true rfl) (Nat.le_of_ble_eq_true rfl) (by decide) dL_isAhead_125 ?_
          first | exact ⟨one_ev (ltB_iff.mpr (Or.inl c105)), hY, hK⟩ | exact ⟨one_ev (ltB_iff.mpr (Or.inr ⟨c112, (nI_ltI (by omega) (by omega)).mp (Int32.not_le.mp c117)⟩)), hY, hK⟩ | exact ⟨zero_ev (fun q => (ltB_iff.mp q).elim c105 (fun z => c112 z.1)), hY, hK⟩ | exact ⟨zero_ev (fun q => (ltB_iff.mp q).elim c105 (fun z => absurd (nI_lt z.2 (by omega)) (Int32.not_lt.mpr c117))), hY, hK⟩
        · refine z_iload_n C rfl dL_isAhead_115 ?_
          refine z_iload_n C rfl dL_isAhead_116 ?_
          refine z_icmp_ge 124 C dL_isAhead_117 (by decide) (fun c117 => ?_) (fun c117 => ?_)
          · refine z_iconst 0 (by decide) C dL_isAhead_124 ?_
            refine z_zreturn C F (Nat.le_of_ble_eq_true rfl) (Nat.le_of_ble_eq_true rfl) (by decide) dL_isAhead_125 ?_
            first | exact ⟨one_ev (ltB_iff.mpr (Or.inl c105)), hY, hK⟩ | exact ⟨one_ev (ltB_iff.mpr (Or.inr ⟨c112, (nI_ltI (by omega) (by omega)).mp (Int32.not_le.mp c117)⟩)), hY, hK⟩ | exact ⟨zero_ev (fun q => (ltB_iff.mp q).elim c105 (fun z => c112 z.1)), hY, hK⟩ | exact ⟨zero_ev (fun q => (ltB_iff.mp q).elim c105 (fun z => absurd (nI_lt z.2 (by omega)) (Int32.not_lt.mpr c117))), hY, hK⟩
          · refine z_iconst 1 (by decide) C dL_isAhead_120 ?_
            refine z_goto 125 C dL_isAhead_121 (by decide) ?_
            refine z_zreturn C F (Nat.le_of_ble_eq_true rfl) (Nat.le_of_ble_eq_true rfl) (by decide) dL_isAhead_125 ?_
            first | exact ⟨one_ev (ltB_iff.mpr (Or.inl c105)), hY, hK⟩ | exact ⟨one_ev (ltB_iff.mpr (Or.inr ⟨c112, (nI_ltI (by omega) (by omega)).mp (Int32.not_le.mp c117)⟩)), hY, hK⟩ | exact ⟨zero_ev (fun q => (ltB_iff.mp q).elim c105 (fun z => c112 z.1)), hY, hK⟩ | exact ⟨zero_ev (fun q => (ltB_iff.mp q).elim c105 (fun z => absurd (nI_lt z.2 (by omega)) (Int32.not_lt.mpr c117))), hY, hK⟩
    · exact h96.elim
  · exact h57.elim
set_option maxRecDepth 100000 in
set_option maxHeartbeats 4000000 in
theorem L_isAhead_n {l : Launch} {sc : zSQ} (hl0 : l.stackTraces = false) {D : ZD} {x : Nat} {Fw : Nat → Bool} {S : ZM} (hY : lY D x Fw S) (t u : Nat) (ht : prD D t = true) (hu : prD D u = true) : zMetL l sc yL_isAhead (Cond.code yL_isAhead cL_isAhead 7 (some .boolean) :: LWl) ({ frames := 48, cells := 4, slots := 24, locals := 1100 } : Room) 4 24 [zr (some x), zi 110, zi (nI t), zi (nI u)] S (zPo (fun v S' => v = some (zi (bI (ltB (plD D 110) t u))) ∧ lY D x Fw S' ∧ kp Fw S S') (fun _ _ => False)) := by
  refine zMetL.of [some (zr (some x)), some (zi 110), some (zi (nI t)), some (zi (nI u)), none, none, none] hl0 (by decide) rfl (Nat.le_of_ble_eq_true rfl) rfl ?_
  intro X C N Nc Sc hR hX F
  subst hX
  have hRc : (xR X).cells = 4 := by rw [hR]
  have hRs : (xR X).slots = 24 := by rw [hR]
  have ht24 := hY.ok.pr ht
  have hu24 := hY.ok.pr hu
  have hK := kp.refl Fw S
  refine z_iload_n C rfl dL_isAhead_0 ?_
  refine z_bipush 115 (by decide) C dL_isAhead_1 ?_
  refine z_icmp_ne 10 C dL_isAhead_3 (by decide) (fun c3 => ?_) (fun c3 => absurd c3 (by decide))
  refine z_iload_n C rfl dL_isAhead_10 ?_
  refine z_bipush 114 (by decide) C dL_isAhead_11 ?_
  refine z_icmp_ne 20 C dL_isAhead_13 (by decide) (fun c13 => ?_) (fun c13 => absurd c13 (by decide))
  refine z_iconst 2 (by decide) C dL_isAhead_20 ?_
  refine z_istore [_, _, _, _, _, _, _] C (by decide) rfl dL_isAhead_21 ?_
  refine z_iload_n C rfl dL_isAhead_23 ?_
  refine z_bipush 110 (by decide) C dL_isAhead_24 ?_
  refine z_icmp_ne 34 C dL_isAhead_26 (by decide) (fun c26 => absurd rfl c26) (fun c26 => ?_)
  refine z_iload_n C rfl dL_isAhead_29 ?_
  refine z_ineg C dL_isAhead_30 ?_
  refine z_int (pl_n D t) ?_
  refine z_goto 60 C dL_isAhead_31 (by decide) ?_
  refine z_istore [_, _, _, _, _, _, _] C (by decide) rfl dL_isAhead_60 ?_
  refine z_iload_n C rfl dL_isAhead_62 ?_
  refine z_bipush 110 (by decide) C dL_isAhead_63 ?_
  refine z_icmp_ne 73 C dL_isAhead_65 (by decide) (fun c65 => absurd rfl c65) (fun c65 => ?_)
  refine z_iload_n C rfl dL_isAhead_68 ?_
  refine z_ineg C dL_isAhead_69 ?_
  refine z_int (pl_n D u) ?_
  refine z_goto 99 C dL_isAhead_70 (by decide) ?_
  refine z_istore [_, _, _, _, _, _, _] C (by decide) rfl dL_isAhead_99 ?_
  refine z_iload C rfl dL_isAhead_101 ?_
  refine z_iload C rfl dL_isAhead_103 ?_
  refine z_icmp_lt 120 C dL_isAhead_105 (by decide) (fun c105 => ?_) (fun c105 => ?_)
  · refine z_iconst 1 (by decide) C dL_isAhead_120 ?_
    refine z_goto 125 C dL_isAhead_121 (by decide) ?_
    refine z_zreturn C F (Nat.le_of_ble_eq_true rfl) (Nat.le_of_ble_eq_true rfl) (by decide) dL_isAhead_125 ?_
    first | exact ⟨one_ev (ltB_iff.mpr (Or.inl c105)), hY, hK⟩ | exact ⟨one_ev (ltB_iff.mpr (Or.inr ⟨c112, (nI_ltI (by omega) (by omega)).mp (Int32.not_le.mp c117)⟩)), hY, hK⟩ | exact ⟨zero_ev (fun q => (ltB_iff.mp q).elim c105 (fun z => c112 z.1)), hY, hK⟩ | exact ⟨zero_ev (fun q => (ltB_iff.mp q).elim c105 (fun z => absurd (nI_lt z.2 (by omega)) (Int32.not_lt.mpr c117))), hY, hK⟩
  · refine z_iload C rfl dL_isAhead_108 ?_
    refine z_iload C rfl dL_isAhead_110 ?_
    refine z_icmp_ne 124 C dL_isAhead_112 (by decide) (fun c112 => ?_) (fun c112 => ?_)
    · refine z_iconst 0 (by decide) C dL_isAhead_124 ?_
      refine z_zreturn C F (Nat.le_of_ble_eq_true rfl) (Nat.le_of_ble_eq_true rfl) (by decide) dL_isAhead_125 ?_
      first | exact ⟨one_ev (ltB_iff.mpr (Or.inl c105)), hY, hK⟩ | exact ⟨one_ev (ltB_iff.mpr (Or.inr ⟨c112, (nI_ltI (by omega) (by omega)).mp (Int32.not_le.mp c117)⟩)), hY, hK⟩ | exact ⟨zero_ev (fun q => (ltB_iff.mp q).elim c105 (fun z => c112 z.1)), hY, hK⟩ | exact ⟨zero_ev (fun q => (ltB_iff.mp q).elim c105 (fun z => absurd (nI_lt z.2 (by omega)) (Int32.not_lt.mpr c117))), hY, hK⟩
    · refine z_iload_n C rfl dL_isAhead_115 ?_
      refine z_iload_n C rfl dL_isAhead_116 ?_
      refine z_icmp_ge 124 C dL_isAhead_117 (by decide) (fun c117 => ?_) (fun c117 => ?_)
      · refine z_iconst 0 (by decide) C dL_isAhead_124 ?_
        refine z_zreturn C F (Nat.le_of_ble_eq_true rfl) (Nat.le_of_ble_eq_true rfl) (by decide) dL_isAhead_125 ?_
        first | exact ⟨one_ev (ltB_iff.mpr (Or.inl c105)), hY, hK⟩ | exact ⟨one_ev (ltB_iff.mpr (Or.inr ⟨c112, (nI_ltI (by omega) (by omega)).mp (Int32.not_le.mp c117)⟩)), hY, hK⟩ | exact ⟨zero_ev (fun q => (ltB_iff.mp q).elim c105 (fun z => c112 z.1)), hY, hK⟩ | exact ⟨zero_ev (fun q => (ltB_iff.mp q).elim c105 (fun z => absurd (nI_lt z.2 (by omega)) (Int32.not_lt.mpr c117))), hY, hK⟩
      · refine z_iconst 1 (by decide) C dL_isAhead_120 ?_
        refine z_goto 125 C dL_isAhead_121 (by decide) ?_
        refine z_zreturn C F (Nat.le_of_ble_eq_true rfl) (Nat.le_of_ble_eq_true rfl) (by decide) dL_isAhead_125 ?_
        first | exact ⟨one_ev (ltB_iff.mpr (Or.inl c105)), hY, hK⟩ | exact ⟨one_ev (ltB_iff.mpr (Or.inr ⟨c112, (nI_ltI (by omega) (by omega)).mp (Int32.not_le.mp c117)⟩)), hY, hK⟩ | exact ⟨zero_ev (fun q => (ltB_iff.mp q).elim c105 (fun z => c112 z.1)), hY, hK⟩ | exact ⟨zero_ev (fun q => (ltB_iff.mp q).elim c105 (fun z => absurd (nI_lt z.2 (by omega)) (Int32.not_lt.mpr c117))), hY, hK⟩
theorem L_isAhead {l : Launch} {sc : zSQ} (hl0 : l.stackTraces = false) {D : ZD} {x : Nat} {Fw : Nat → Bool} {S : ZM} (hY : lY D x Fw S) {by9 : Int32} (hb : (by9 = 115 ∨ by9 = 114 ∨ by9 = 112 ∨ by9 = 110)) (t u : Nat) (ht : prD D t = true) (hu : prD D u = true) : zMetL l sc yL_isAhead (Cond.code yL_isAhead cL_isAhead 7 (some .boolean) :: LWl) ({ frames := 48, cells := 4, slots := 24, locals := 1100 } : Room) 4 24 [zr (some x), zi by9, zi (nI t), zi (nI u)] S (zPo (fun v S' => v = some (zi (bI (ltB (plD D by9) t u))) ∧ lY D x Fw S' ∧ kp Fw S S') (fun _ _ => False)) := by
  rcases hb with rfl | rfl | rfl | rfl
  · exact L_isAhead_s hl0 hY t u ht hu
  · exact L_isAhead_r hl0 hY t u ht hu
  · exact L_isAhead_p hl0 hY t u ht hu
  · exact L_isAhead_n hl0 hY t u ht hu
