/-! the reference: its constructor -/
def imm (S : ZM) (M : Nat) (r : Nat → Nat) (n : Nat) : Prop := mK S M = 7 ∧ (∀ k : Nat, mI S k M = 0) ∧ (∀ k : Nat, mka k = true → k < n → mQ S k M = some (r k) ∧ mK S (r k) = mkκ k ∧ mN S (r k) = mkn k ∧ tI S (r k) = (fun _ => 0) ∧ tJ S (r k) = (fun _ => 0)) ∧ ∀ k k' : Nat, mka k = true → mka k' = true → k < n → k' < n → r k = r k' → k = k'
theorem mkκ_kn0 : ∀ k : Nat, k < 73 → mka k = true → zkn (mkκ k) = true := by decide
theorem mka_73 {k : Nat} (h : mka k = true) : k < 73 := by
  rcases Nat.lt_or_ge k 73 with q | q
  · exact q
  · unfold mka at h
    simp only [Bool.or_eq_true, Bool.and_eq_true] at h
    rcases h with (((⟨a, b⟩ | ⟨a, b⟩) | ⟨a, b⟩) | ⟨a, b⟩) | ⟨a, b⟩
    all_goals (have := Nat.le_of_ble_eq_true b; omega)
theorem imm.kn {S : ZM} {M : Nat} {r : Nat → Nat} {n b κ N : Nat} (h : imm S M r n) (hb : zkn (mK S b) = false) : mK (nA S b κ N) M = 7 := (up1_ne (fun q => by rw [← q, h.1] at hb; cases hb)).trans h.1
theorem imm.arr {S : ZM} {M : Nat} {r : Nat → Nat} {n : Nat} (k : Nat) (h : imm S M r n) (hk : mka k = true) (hn : ∀ j : Nat, n ≤ j → j < k → mka j = false) {b : Nat} (hb : zkn (mK S b) = false) : imm (sQ (nA S b (mkκ k) (mkn k)) k M (some b)) M (up1 r k b) (k + 1) := by
  obtain ⟨h1, h2, h3, h4⟩ := h
  have lt : ∀ j : Nat, mka j = true → j < k + 1 → j ≠ k → j < n := fun j a c d => by
    rcases Nat.lt_or_ge j n with q | q
    · exact q
    · rw [hn j q (by omega)] at a; cases a
  have ne : ∀ j : Nat, mka j = true → j < n → r j ≠ b := fun j a c q => by
    have w := (h3 j a c).2.1
    have z := mkκ_kn0 j (mka_73 a) a
    rw [← w, q, hb] at z; cases z
  refine ⟨(up1_ne (fun q => by rw [← q, h1] at hb; cases hb)).trans h1, h2, fun j a c => ?_, fun j j' a a' c c' q => ?_⟩
  · show up2 S.2.2.1 k M (some b) j M = _ ∧ up1 S.1 b (mkκ k) (up1 r k b j) = _ ∧ up1 S.2.2.2.2.1 b (mkn k) (up1 r k b j) = _ ∧ up1 S.2.2.2.2.2.1 b (fun _ => 0) (up1 r k b j) = _ ∧ up1 S.2.2.2.2.2.2.2.1 b (fun _ => 0) (up1 r k b j) = _
    by_cases e : j = k
    · subst e
      rw [up2_self, up1_self, up1_self, up1_self, up1_self, up1_self]; exact ⟨rfl, rfl, rfl, rfl, rfl⟩
    · have hj := lt j a c e
      rw [up2_k e, up1_ne e, up1_ne (ne j a hj), up1_ne (ne j a hj), up1_ne (ne j a hj), up1_ne (ne j a hj)]
      exact h3 j a hj
  · by_cases e : j = k <;> by_cases e' : j' = k
    · rw [e, e']
    · rw [e, up1_self, up1_ne e'] at q; exact absurd q.symm (ne j' a' (lt j' a' c' e'))
    · rw [e', up1_self, up1_ne e] at q; exact absurd q (ne j a (lt j a c e))
    · rw [up1_ne e, up1_ne e'] at q; exact h4 j j' a a' (lt j a c e) (lt j' a' c' e') q
theorem imm.end {S : ZM} {M : Nat} {r : Nat → Nat} (h : imm S M r 73) : mR D0 J0 S M r := by
  obtain ⟨h1, h2, h3, h4⟩ := h
  refine ⟨h1, fun k _ => h2 k, fun k a => ?_, (h3 71 rfl (by decide)).2.2.2.2, fun k k' a a' q => h4 k k' a a' (mka_73 a) (mka_73 a') q⟩
  obtain ⟨a1, a2, a3, a4, a5⟩ := h3 k a (mka_73 a)
  exact ⟨a1, a2, a3, fun _ => a4⟩
theorem wC.zero : wC D0 := ⟨⟨⟨rfl, Nat.zero_le _⟩, ⟨rfl, Nat.zero_le _⟩, ⟨rfl, Nat.zero_le _⟩, ⟨rfl, Nat.zero_le _⟩⟩, fun i hi => absurd hi (Nat.not_lt_zero i), fun i hi => absurd hi (Nat.not_lt_zero i), ⟨fun _ => 0, fun i hi => absurd hi (Nat.not_lt_zero i), fun i _ hi => absurd hi (Nat.not_lt_zero i)⟩⟩
theorem wfM.zero : wfM D0 := fun l hl => absurd hl (Nat.not_lt_zero l)

set_option maxRecDepth 100000 in
set_option maxHeartbeats 4000000 in
theorem M_init {l : Launch} (hl0 : l.stackTraces = false) {S : ZM} {M : Nat} {r0 : Nat → Nat} (hI : imm S M r0 42) : zMet l yX5_init (Cond.code yX5_init cX5_init 1 none :: LWm) ({ frames := 1, cells := 26, slots := 1161, locals := 40 } : Room) 26 1161 [zr (some M)] S (zPo (fun v S' => v = none ∧ ∃ r : Nat → Nat, mR D0 J0 S' M r) (fun _ _ => False)) := by
  refine zMet.of' [some (zr (some M))] hl0 (by decide) rfl (Nat.le_of_ble_eq_true rfl) rfl ?_
  intro X C N hR hN0 hX F
  subst hX
  have hk := hI.1
  refine z_aload_n C rfl dX5_init_0 ?_
  refine z_objInit C (List.mem_cons_of_mem _ wm0) (List.mem_cons_of_mem _ wm1) (List.mem_cons_of_mem _ wm2) (by rw [hR]; exact Nat.le_of_ble_eq_true rfl) (by rw [hR]; exact Nat.le_of_ble_eq_true rfl) dX5_init_1 ?_
  refine z_aload_n C rfl dX5_init_4 ?_
  refine z_bipush 24 (by decide) C dX5_init_5 ?_
  refine z_newarr_int 24 C (List.mem_cons_of_mem _ wm3) (by decide) rfl (by decide) (by rw [hR]; exact Nat.le_of_ble_eq_true rfl) (by rw [hR]; exact Nat.le_of_ble_eq_true rfl) dX5_init_7 (fun a7 f7 => ?_)
  have hk := hI.kn (κ := mkκ 42) (N := mkn 42) f7
  refine zp5_length C (fun w h => List.mem_cons_of_mem _ (um_wsX50 w h)) hk (hN0 rfl) rfl (List.mem_cons_of_mem _ wm4) dX5_init_9 ?_
  have hI := hI.arr 42 rfl (fun j a c => by omega) f7
  have hk := hI.1
  refine z_aload_n C rfl dX5_init_12 ?_
  refine z_bipush 24 (by decide) C dX5_init_13 ?_
  refine z_newarr_int 24 C (List.mem_cons_of_mem _ wm3) (by decide) rfl (by decide) (by rw [hR]; exact Nat.le_of_ble_eq_true rfl) (by rw [hR]; exact Nat.le_of_ble_eq_true rfl) dX5_init_15 (fun a15 f15 => ?_)
  have hk := hI.kn (κ := mkκ 43) (N := mkn 43) f15
  refine zp5_rating C (fun w h => List.mem_cons_of_mem _ (um_wsX50 w h)) hk (hN0 rfl) rfl (List.mem_cons_of_mem _ wm5) dX5_init_17 ?_
  have hI := hI.arr 43 rfl (fun j a c => by omega) f15
  have hk := hI.1
  refine z_aload_n C rfl dX5_init_20 ?_
  refine z_bipush 24 (by decide) C dX5_init_21 ?_
  refine z_newarr_int 24 C (List.mem_cons_of_mem _ wm3) (by decide) rfl (by decide) (by rw [hR]; exact Nat.le_of_ble_eq_true rfl) (by rw [hR]; exact Nat.le_of_ble_eq_true rfl) dX5_init_23 (fun a23 f23 => ?_)
  have hk := hI.kn (κ := mkκ 44) (N := mkn 44) f23
  refine zp5_plays C (fun w h => List.mem_cons_of_mem _ (um_wsX50 w h)) hk (hN0 rfl) rfl (List.mem_cons_of_mem _ wm6) dX5_init_25 ?_
  have hI := hI.arr 44 rfl (fun j a c => by omega) f23
  have hk := hI.1
  refine z_aload_n C rfl dX5_init_28 ?_
  refine z_bipush 24 (by decide) C dX5_init_29 ?_
  refine z_newarr_int 24 C (List.mem_cons_of_mem _ wm3) (by decide) rfl (by decide) (by rw [hR]; exact Nat.le_of_ble_eq_true rfl) (by rw [hR]; exact Nat.le_of_ble_eq_true rfl) dX5_init_31 (fun a31 f31 => ?_)
  have hk := hI.kn (κ := mkκ 45) (N := mkn 45) f31
  refine zp5_last C (fun w h => List.mem_cons_of_mem _ (um_wsX50 w h)) hk (hN0 rfl) rfl (List.mem_cons_of_mem _ wm7) dX5_init_33 ?_
  have hI := hI.arr 45 rfl (fun j a c => by omega) f31
  have hk := hI.1
  refine z_aload_n C rfl dX5_init_36 ?_
  refine z_bipush 24 (by decide) C dX5_init_37 ?_
  refine z_newarr_int 24 C (List.mem_cons_of_mem _ wm3) (by decide) rfl (by decide) (by rw [hR]; exact Nat.le_of_ble_eq_true rfl) (by rw [hR]; exact Nat.le_of_ble_eq_true rfl) dX5_init_39 (fun a39 f39 => ?_)
  have hk := hI.kn (κ := mkκ 46) (N := mkn 46) f39
  refine zp5_bits C (fun w h => List.mem_cons_of_mem _ (um_wsX50 w h)) hk (hN0 rfl) rfl (List.mem_cons_of_mem _ wm8) dX5_init_41 ?_
  have hI := hI.arr 46 rfl (fun j a c => by omega) f39
  have hk := hI.1
  refine z_aload_n C rfl dX5_init_44 ?_
  refine z_bipush 24 (by decide) C dX5_init_45 ?_
  refine z_newarr_boolean 24 C (List.mem_cons_of_mem _ wm9) (by decide) rfl (by decide) (by rw [hR]; exact Nat.le_of_ble_eq_true rfl) (by rw [hR]; exact Nat.le_of_ble_eq_true rfl) dX5_init_47 (fun a47 f47 => ?_)
  have hk := hI.kn (κ := mkκ 47) (N := mkn 47) f47
  refine zp5_isRemoved C (fun w h => List.mem_cons_of_mem _ (um_wsX50 w h)) hk (hN0 rfl) rfl (List.mem_cons_of_mem _ wm10) dX5_init_49 ?_
  have hI := hI.arr 47 rfl (fun j a c => by omega) f47
  have hk := hI.1
  refine z_aload_n C rfl dX5_init_52 ?_
  refine z_bipush 16 (by decide) C dX5_init_53 ?_
  refine z_newarr_int 16 C (List.mem_cons_of_mem _ wm3) (by decide) rfl (by decide) (by rw [hR]; exact Nat.le_of_ble_eq_true rfl) (by rw [hR]; exact Nat.le_of_ble_eq_true rfl) dX5_init_55 (fun a55 f55 => ?_)
  have hk := hI.kn (κ := mkκ 49) (N := mkn 49) f55
  refine zp5_nameSize C (fun w h => List.mem_cons_of_mem _ (um_wsX50 w h)) hk (hN0 rfl) rfl (List.mem_cons_of_mem _ wm11) dX5_init_57 ?_
  have hI := hI.arr 49 rfl (fun j a c => by rcases (show j = 48 by omega) with rfl <;> rfl) f55
  have hk := hI.1
  refine z_aload_n C rfl dX5_init_60 ?_
  refine z_bipush 96 (by decide) C dX5_init_61 ?_
  refine z_newarr_char 96 C (List.mem_cons_of_mem _ wm12) (by decide) rfl (by decide) (by rw [hR]; exact Nat.le_of_ble_eq_true rfl) (by rw [hR]; exact Nat.le_of_ble_eq_true rfl) dX5_init_63 (fun a63 f63 => ?_)
  have hk := hI.kn (κ := mkκ 50) (N := mkn 50) f63
  refine zp5_names C (fun w h => List.mem_cons_of_mem _ (um_wsX50 w h)) hk (hN0 rfl) rfl (List.mem_cons_of_mem _ wm13) dX5_init_65 ?_
  have hI := hI.arr 50 rfl (fun j a c => by omega) f63
  have hk := hI.1
  refine z_aload_n C rfl dX5_init_68 ?_
  refine z_bipush 16 (by decide) C dX5_init_69 ?_
  refine z_newarr_boolean 16 C (List.mem_cons_of_mem _ wm9) (by decide) rfl (by decide) (by rw [hR]; exact Nat.le_of_ble_eq_true rfl) (by rw [hR]; exact Nat.le_of_ble_eq_true rfl) dX5_init_71 (fun a71 f71 => ?_)
  have hk := hI.kn (κ := mkκ 51) (N := mkn 51) f71
  refine zp5_isGone C (fun w h => List.mem_cons_of_mem _ (um_wsX50 w h)) hk (hN0 rfl) rfl (List.mem_cons_of_mem _ wm14) dX5_init_73 ?_
  have hI := hI.arr 51 rfl (fun j a c => by omega) f71
  have hk := hI.1
  refine z_aload_n C rfl dX5_init_76 ?_
  refine z_bipush 40 (by decide) C dX5_init_77 ?_
  refine z_newarr_int 40 C (List.mem_cons_of_mem _ wm3) (by decide) rfl (by decide) (by rw [hR]; exact Nat.le_of_ble_eq_true rfl) (by rw [hR]; exact Nat.le_of_ble_eq_true rfl) dX5_init_79 (fun a79 f79 => ?_)
  have hk := hI.kn (κ := mkκ 53) (N := mkn 53) f79
  refine zp5_kind C (fun w h => List.mem_cons_of_mem _ (um_wsX50 w h)) hk (hN0 rfl) rfl (List.mem_cons_of_mem _ wm15) dX5_init_81 ?_
  have hI := hI.arr 53 rfl (fun j a c => by rcases (show j = 52 by omega) with rfl <;> rfl) f79
  have hk := hI.1
  refine z_aload_n C rfl dX5_init_84 ?_
  refine z_bipush 40 (by decide) C dX5_init_85 ?_
  refine z_newarr_int 40 C (List.mem_cons_of_mem _ wm3) (by decide) rfl (by decide) (by rw [hR]; exact Nat.le_of_ble_eq_true rfl) (by rw [hR]; exact Nat.le_of_ble_eq_true rfl) dX5_init_87 (fun a87 f87 => ?_)
  have hk := hI.kn (κ := mkκ 54) (N := mkn 54) f87
  refine zp5_one C (fun w h => List.mem_cons_of_mem _ (um_wsX50 w h)) hk (hN0 rfl) rfl (List.mem_cons_of_mem _ wm16) dX5_init_89 ?_
  have hI := hI.arr 54 rfl (fun j a c => by omega) f87
  have hk := hI.1
  refine z_aload_n C rfl dX5_init_92 ?_
  refine z_bipush 40 (by decide) C dX5_init_93 ?_
  refine z_newarr_int 40 C (List.mem_cons_of_mem _ wm3) (by decide) rfl (by decide) (by rw [hR]; exact Nat.le_of_ble_eq_true rfl) (by rw [hR]; exact Nat.le_of_ble_eq_true rfl) dX5_init_95 (fun a95 f95 => ?_)
  have hk := hI.kn (κ := mkκ 55) (N := mkn 55) f95
  refine zp5_two C (fun w h => List.mem_cons_of_mem _ (um_wsX50 w h)) hk (hN0 rfl) rfl (List.mem_cons_of_mem _ wm17) dX5_init_97 ?_
  have hI := hI.arr 55 rfl (fun j a c => by omega) f95
  have hk := hI.1
  refine z_aload_n C rfl dX5_init_100 ?_
  refine z_bipush 40 (by decide) C dX5_init_101 ?_
  refine z_newarr_int 40 C (List.mem_cons_of_mem _ wm3) (by decide) rfl (by decide) (by rw [hR]; exact Nat.le_of_ble_eq_true rfl) (by rw [hR]; exact Nat.le_of_ble_eq_true rfl) dX5_init_103 (fun a103 f103 => ?_)
  have hk := hI.kn (κ := mkκ 56) (N := mkn 56) f103
  refine zp5_sizes C (fun w h => List.mem_cons_of_mem _ (um_wsX50 w h)) hk (hN0 rfl) rfl (List.mem_cons_of_mem _ wm18) dX5_init_105 ?_
  have hI := hI.arr 56 rfl (fun j a c => by omega) f103
  have hk := hI.1
  refine z_aload_n C rfl dX5_init_108 ?_
  refine z_bipush 8 (by decide) C dX5_init_109 ?_
  refine z_newarr_int 8 C (List.mem_cons_of_mem _ wm3) (by decide) rfl (by decide) (by rw [hR]; exact Nat.le_of_ble_eq_true rfl) (by rw [hR]; exact Nat.le_of_ble_eq_true rfl) dX5_init_111 (fun a111 f111 => ?_)
  have hk := hI.kn (κ := mkκ 58) (N := mkn 58) f111
  refine zp5_rule C (fun w h => List.mem_cons_of_mem _ (um_wsX50 w h)) hk (hN0 rfl) rfl (List.mem_cons_of_mem _ wm19) dX5_init_113 ?_
  have hI := hI.arr 58 rfl (fun j a c => by rcases (show j = 57 by omega) with rfl <;> rfl) f111
  have hk := hI.1
  refine z_aload_n C rfl dX5_init_116 ?_
  refine z_bipush 8 (by decide) C dX5_init_117 ?_
  refine z_newarr_char 8 C (List.mem_cons_of_mem _ wm12) (by decide) rfl (by decide) (by rw [hR]; exact Nat.le_of_ble_eq_true rfl) (by rw [hR]; exact Nat.le_of_ble_eq_true rfl) dX5_init_119 (fun a119 f119 => ?_)
  have hk := hI.kn (κ := mkκ 59) (N := mkn 59) f119
  refine zp5_order C (fun w h => List.mem_cons_of_mem _ (um_wsX50 w h)) hk (hN0 rfl) rfl (List.mem_cons_of_mem _ wm20) dX5_init_121 ?_
  have hI := hI.arr 59 rfl (fun j a c => by omega) f119
  have hk := hI.1
  refine z_aload_n C rfl dX5_init_124 ?_
  refine z_bipush 8 (by decide) C dX5_init_125 ?_
  refine z_newarr_int 8 C (List.mem_cons_of_mem _ wm3) (by decide) rfl (by decide) (by rw [hR]; exact Nat.le_of_ble_eq_true rfl) (by rw [hR]; exact Nat.le_of_ble_eq_true rfl) dX5_init_127 (fun a127 f127 => ?_)
  have hk := hI.kn (κ := mkκ 60) (N := mkn 60) f127
  refine zp5_limit C (fun w h => List.mem_cons_of_mem _ (um_wsX50 w h)) hk (hN0 rfl) rfl (List.mem_cons_of_mem _ wm21) dX5_init_129 ?_
  have hI := hI.arr 60 rfl (fun j a c => by omega) f127
  have hk := hI.1
  refine z_aload_n C rfl dX5_init_132 ?_
  refine z_bipush 8 (by decide) C dX5_init_133 ?_
  refine z_newarr_int 8 C (List.mem_cons_of_mem _ wm3) (by decide) rfl (by decide) (by rw [hR]; exact Nat.le_of_ble_eq_true rfl) (by rw [hR]; exact Nat.le_of_ble_eq_true rfl) dX5_init_135 (fun a135 f135 => ?_)
  have hk := hI.kn (κ := mkκ 61) (N := mkn 61) f135
  refine zp5_kept C (fun w h => List.mem_cons_of_mem _ (um_wsX50 w h)) hk (hN0 rfl) rfl (List.mem_cons_of_mem _ wm22) dX5_init_137 ?_
  have hI := hI.arr 61 rfl (fun j a c => by omega) f135
  have hk := hI.1
  refine z_aload_n C rfl dX5_init_140 ?_
  refine z_bipush 8 (by decide) C dX5_init_141 ?_
  refine z_newarr_int 8 C (List.mem_cons_of_mem _ wm3) (by decide) rfl (by decide) (by rw [hR]; exact Nat.le_of_ble_eq_true rfl) (by rw [hR]; exact Nat.le_of_ble_eq_true rfl) dX5_init_143 (fun a143 f143 => ?_)
  have hk := hI.kn (κ := mkκ 62) (N := mkn 62) f143
  refine zp5_ahead C (fun w h => List.mem_cons_of_mem _ (um_wsX50 w h)) hk (hN0 rfl) rfl (List.mem_cons_of_mem _ wm23) dX5_init_145 ?_
  have hI := hI.arr 62 rfl (fun j a c => by omega) f143
  have hk := hI.1
  refine z_aload_n C rfl dX5_init_148 ?_
  refine z_sipush 192 (by decide) C dX5_init_149 ?_
  refine z_newarr_int 192 C (List.mem_cons_of_mem _ wm3) (by decide) rfl (by decide) (by rw [hR]; exact Nat.le_of_ble_eq_true rfl) (by rw [hR]; exact Nat.le_of_ble_eq_true rfl) dX5_init_152 (fun a152 f152 => ?_)
  have hk := hI.kn (κ := mkκ 63) (N := mkn 63) f152
  refine zp5_ranked C (fun w h => List.mem_cons_of_mem _ (um_wsX50 w h)) hk (hN0 rfl) rfl (List.mem_cons_of_mem _ wm24) dX5_init_154 ?_
  have hI := hI.arr 63 rfl (fun j a c => by omega) f152
  have hk := hI.1
  refine z_aload_n C rfl dX5_init_157 ?_
  refine z_bipush 8 (by decide) C dX5_init_158 ?_
  refine z_newarr_int 8 C (List.mem_cons_of_mem _ wm3) (by decide) rfl (by decide) (by rw [hR]; exact Nat.le_of_ble_eq_true rfl) (by rw [hR]; exact Nat.le_of_ble_eq_true rfl) dX5_init_160 (fun a160 f160 => ?_)
  have hk := hI.kn (κ := mkκ 64) (N := mkn 64) f160
  refine zp5_many C (fun w h => List.mem_cons_of_mem _ (um_wsX50 w h)) hk (hN0 rfl) rfl (List.mem_cons_of_mem _ wm25) dX5_init_162 ?_
  have hI := hI.arr 64 rfl (fun j a c => by omega) f160
  have hk := hI.1
  refine z_aload_n C rfl dX5_init_165 ?_
  refine z_bipush 8 (by decide) C dX5_init_166 ?_
  refine z_newarr_boolean 8 C (List.mem_cons_of_mem _ wm9) (by decide) rfl (by decide) (by rw [hR]; exact Nat.le_of_ble_eq_true rfl) (by rw [hR]; exact Nat.le_of_ble_eq_true rfl) dX5_init_168 (fun a168 f168 => ?_)
  have hk := hI.kn (κ := mkκ 65) (N := mkn 65) f168
  refine zp5_isFilled C (fun w h => List.mem_cons_of_mem _ (um_wsX50 w h)) hk (hN0 rfl) rfl (List.mem_cons_of_mem _ wm26) dX5_init_170 ?_
  have hI := hI.arr 65 rfl (fun j a c => by omega) f168
  have hk := hI.1
  refine z_aload_n C rfl dX5_init_173 ?_
  refine z_bipush 16 (by decide) C dX5_init_174 ?_
  refine z_newarr_int 16 C (List.mem_cons_of_mem _ wm3) (by decide) rfl (by decide) (by rw [hR]; exact Nat.le_of_ble_eq_true rfl) (by rw [hR]; exact Nat.le_of_ble_eq_true rfl) dX5_init_176 (fun a176 f176 => ?_)
  have hk := hI.kn (κ := mkκ 68) (N := mkn 68) f176
  refine zp5_tidyTag C (fun w h => List.mem_cons_of_mem _ (um_wsX50 w h)) hk (hN0 rfl) rfl (List.mem_cons_of_mem _ wm27) dX5_init_178 ?_
  have hI := hI.arr 68 rfl (fun j a c => by rcases (show j = 66 ∨ j = 67 by omega) with rfl | rfl <;> rfl) f176
  have hk := hI.1
  refine z_aload_n C rfl dX5_init_181 ?_
  refine z_bipush 16 (by decide) C dX5_init_182 ?_
  refine z_newarr_int 16 C (List.mem_cons_of_mem _ wm3) (by decide) rfl (by decide) (by rw [hR]; exact Nat.le_of_ble_eq_true rfl) (by rw [hR]; exact Nat.le_of_ble_eq_true rfl) dX5_init_184 (fun a184 f184 => ?_)
  have hk := hI.kn (κ := mkκ 69) (N := mkn 69) f184
  refine zp5_tidyOther C (fun w h => List.mem_cons_of_mem _ (um_wsX50 w h)) hk (hN0 rfl) rfl (List.mem_cons_of_mem _ wm28) dX5_init_186 ?_
  have hI := hI.arr 69 rfl (fun j a c => by omega) f184
  have hk := hI.1
  refine z_aload_n C rfl dX5_init_189 ?_
  refine z_sipush 384 (by decide) C dX5_init_190 ?_
  refine z_newarr_int 384 C (List.mem_cons_of_mem _ wm3) (by decide) rfl (by decide) (by rw [hR]; exact Nat.le_of_ble_eq_true rfl) (by rw [hR]; exact Nat.le_of_ble_eq_true rfl) dX5_init_193 (fun a193 f193 => ?_)
  have hk := hI.kn (κ := mkκ 70) (N := mkn 70) f193
  refine zp5_tidyBits C (fun w h => List.mem_cons_of_mem _ (um_wsX50 w h)) hk (hN0 rfl) rfl (List.mem_cons_of_mem _ wm29) dX5_init_195 ?_
  have hI := hI.arr 70 rfl (fun j a c => by omega) f193
  have hk := hI.1
  refine z_aload_n C rfl dX5_init_198 ?_
  refine z_bipush 16 (by decide) C dX5_init_199 ?_
  refine z_newarr_long 16 C (List.mem_cons_of_mem _ wm30) (by decide) rfl (by decide) (by rw [hR]; exact Nat.le_of_ble_eq_true rfl) (by rw [hR]; exact Nat.le_of_ble_eq_true rfl) dX5_init_201 (fun a201 f201 => ?_)
  have hk := hI.kn (κ := mkκ 71) (N := mkn 71) f201
  refine zp5_tidyRules C (fun w h => List.mem_cons_of_mem _ (um_wsX50 w h)) hk (hN0 rfl) rfl (List.mem_cons_of_mem _ wm31) dX5_init_203 ?_
  have hI := hI.arr 71 rfl (fun j a c => by omega) f201
  have hk := hI.1
  refine z_aload_n C rfl dX5_init_206 ?_
  refine z_bipush 49 (by decide) C dX5_init_207 ?_
  refine z_newarr_int 49 C (List.mem_cons_of_mem _ wm3) (by decide) rfl (by decide) (by rw [hR]; exact Nat.le_of_ble_eq_true rfl) (by rw [hR]; exact Nat.le_of_ble_eq_true rfl) dX5_init_209 (fun a209 f209 => ?_)
  have hk := hI.kn (κ := mkκ 72) (N := mkn 72) f209
  refine zp5_table C (fun w h => List.mem_cons_of_mem _ (um_wsX50 w h)) hk (hN0 rfl) rfl (List.mem_cons_of_mem _ wm32) dX5_init_211 ?_
  have hI := hI.arr 72 rfl (fun j a c => by omega) f209
  have hk := hI.1
  refine z_return C F (Nat.le_of_ble_eq_true rfl) (Nat.le_of_ble_eq_true rfl) dX5_init_214 ?_
  exact ⟨rfl, _, hI.end⟩
