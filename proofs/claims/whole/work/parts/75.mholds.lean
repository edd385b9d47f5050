/-! the reference: whether a rule holds -/
/-- the contract of fill on list l -/
def filP (L0 : Launch) (D : ZD) (J : Nat → Int64) (M : Nat) (r rk : Nat → Nat) (i : Nat) : Prop := ∀ (E : ZD) (S : ZM), mR E J S M r → eqF E D → inv D rk (rk i + 1) E → zMet L0 yX5_fill (Cond.code yX5_fill cX5_fill 7 none :: LWm) ({ frames := 43 * (rk i + 1), cells := 0, slots := 0, locals := 1100 * (rk i + 1) } : Room) 0 0 [zr (some M), zi (nI i)] S (zPo (fun v S' => v = none ∧ ∃ E' : ZD, mR E' J S' M r ∧ eqF E' D ∧ stp D rk (rk i + 1) E E' ∧ ¬ E' 65 i = 0 ∧ good D E' i) (fun _ _ => False))

set_option maxRecDepth 100000 in
set_option maxHeartbeats 4000000 in
theorem M_holdsFor {l : Launch} (hl0 : l.stackTraces = false) {D : ZD} {J : Nat → Int64} {M : Nat} {r rk : Nat → Nat} (hw : wfR D) (h40 : dR D ≤ 40) (h16 : dG D ≤ 16) (h8 : dL D ≤ 8) {n : Nat} (hF : ∀ i : Nat, i < dL D → rk i < n → filP l D J M r rk i) : ∀ (f ru t : Nat) (E : ZD) (S : ZM), ru < f → ru < dR D → t < 24 → mR E J S M r → eqF E D → inv D rk n E → (∀ i : Nat, i < 8 → hasB (lsR D f ru) (nI i) = true → i < dL D ∧ rk i < n) → zMet l yX5_holdsFor (Cond.code yX5_holdsFor cX5_holdsFor 4 (some .boolean) :: LWm) ({ frames := 43 * n + ru + 1, cells := 0, slots := 0, locals := 1100 * n + 26 + 23 * ru } : Room) 0 0 [zr (some M), zi (nI ru), zi (nI t)] S (zPo (fun v S' => ∃ b : Bool, v = some (zi (bI b)) ∧ b = evR D (fixD D) f ru t ∧ ∃ E' : ZD, mR E' J S' M r ∧ eqF E' D ∧ stp D rk n E E') (fun _ _ => False)) := by
  intro f
  induction f with
  | zero => intro ru t E S hf; exact absurd hf (Nat.not_lt_zero ru)
  | succ f ih =>
    intro ru t E S hf hr ht hM hE hI hls
    have hru40 : ru < 40 := by omega
    refine zMet.of' [some (zr (some M)), some (zi (nI ru)), some (zi (nI t)), none] hl0 (by decide) rfl (Nat.le_of_ble_eq_true rfl) rfl ?_
    intro X C N hR hN0 hX F
    subst hX
    refine z_aload_n C rfl dX5_holdsFor_0 ?_
    refine zg5_one C (fun w h => List.mem_cons_of_mem _ (um_wsX50 w h)) hM.1 (List.mem_cons_of_mem _ wm16) dX5_holdsFor_1 ?_
    refine z_ref (hM.q 54 rfl) ?_
    refine z_iload_n C rfl dX5_holdsFor_4 ?_
    refine z_iaload C (hM.k 54 rfl) (hM.b' 54 rfl (⟨ru, rfl, hru40⟩) (by decide)) dX5_holdsFor_5 ?_
    refine z_int (hM.t 54 rfl (by decide) _) ?_
    refine z_int (x' := D 54 ru) ((congrFun (hE 54 rfl) _).trans (congrArg _ (nI_clamp (by omega)))) ?_
    refine z_istore_n [_, _, _, _] C (by decide) rfl dX5_holdsFor_6 ?_
    refine z_aload_n C rfl dX5_holdsFor_7 ?_
    refine zg5_kind C (fun w h => List.mem_cons_of_mem _ (um_wsX50 w h)) hM.1 (List.mem_cons_of_mem _ wm15) dX5_holdsFor_8 ?_
    refine z_ref (hM.q 53 rfl) ?_
    refine z_iload_n C rfl dX5_holdsFor_11 ?_
    refine z_iaload C (hM.k 53 rfl) (hM.b' 53 rfl (⟨ru, rfl, hru40⟩) (by decide)) dX5_holdsFor_12 ?_
    refine z_int (hM.t 53 rfl (by decide) _) ?_
    refine z_int (x' := D 53 ru) ((congrFun (hE 53 rfl) _).trans (congrArg _ (nI_clamp (by omega)))) ?_
    by_cases q0 : D 53 ru = 0
    · refine z_tableIn 60 C dX5_holdsFor_13 (by rw [q0]; decide) (by rw [q0]; decide) (by rw [q0]; rfl) (by decide) ?_
      have hev : evR D (fixD D) (f + 1) ru t = (hasB (D 46 t) (D 54 ru)) := by simp only [evR]; rw [if_pos q0]
      obtain ⟨g, hg, eg⟩ := (hw ru hr).2.1 q0
      rw [eg] at hev ⊢
      refine z_aload_n C rfl dX5_holdsFor_60 ?_
      refine zg5_bits C (fun w h => List.mem_cons_of_mem _ (um_wsX50 w h)) hM.1 (List.mem_cons_of_mem _ wm8) dX5_holdsFor_61 ?_
      refine z_ref (hM.q 46 rfl) ?_
      refine z_iload_n C rfl dX5_holdsFor_64 ?_
      refine z_iaload C (hM.k 46 rfl) (hM.b' 46 rfl (⟨t, rfl, ht⟩) (by decide)) dX5_holdsFor_65 ?_
      refine z_int (hM.t 46 rfl (by decide) _) ?_
      refine z_int (x' := D 46 t) ((congrFun (hE 46 rfl) _).trans (congrArg _ (nI_clamp (by omega)))) ?_
      refine z_iload_n C rfl dX5_holdsFor_66 ?_
      refine z_ishr C dX5_holdsFor_67 ?_
      refine z_iconst 1 (by decide) C dX5_holdsFor_68 ?_
      refine z_iand C dX5_holdsFor_69 ?_
      refine z_iconst 1 (by decide) C dX5_holdsFor_70 ?_
      refine z_icmp_ne 78 C dX5_holdsFor_71 (by decide) (fun c71 => ?_) (fun c71 => ?_)
      · refine z_iconst 0 (by decide) C dX5_holdsFor_78 ?_
        refine z_zreturn C F (Nat.le_of_ble_eq_true rfl) (Nat.le_of_ble_eq_true rfl) (by decide) dX5_holdsFor_79 ?_
        exact ⟨false, rfl, (hev.trans (Bool.eq_false_iff.mpr (fun z => c71 (shr_bit (by omega) |>.mpr z)))).symm, E, hM, hE, stp.refl D rk n E⟩
      · refine z_iconst 1 (by decide) C dX5_holdsFor_74 ?_
        refine z_goto 79 C dX5_holdsFor_75 (by decide) ?_
        refine z_zreturn C F (Nat.le_of_ble_eq_true rfl) (Nat.le_of_ble_eq_true rfl) (by decide) dX5_holdsFor_79 ?_
        exact ⟨true, rfl, (hev.trans ((shr_bit (by omega)).mp c71)).symm, E, hM, hE, stp.refl D rk n E⟩
    by_cases q1 : D 53 ru = 1
    · refine z_tableIn 80 C dX5_holdsFor_13 (by rw [q1]; decide) (by rw [q1]; decide) (by rw [q1]; rfl) (by decide) ?_
      have hev : evR D (fixD D) (f + 1) ru t = (decide (D 54 ru ≤ D 43 t)) := by simp only [evR]; rw [if_neg q0, if_pos q1]
      refine z_aload_n C rfl dX5_holdsFor_80 ?_
      refine zg5_rating C (fun w h => List.mem_cons_of_mem _ (um_wsX50 w h)) hM.1 (List.mem_cons_of_mem _ wm5) dX5_holdsFor_81 ?_
      refine z_ref (hM.q 43 rfl) ?_
      refine z_iload_n C rfl dX5_holdsFor_84 ?_
      refine z_iaload C (hM.k 43 rfl) (hM.b' 43 rfl (⟨t, rfl, ht⟩) (by decide)) dX5_holdsFor_85 ?_
      refine z_int (hM.t 43 rfl (by decide) _) ?_
      refine z_int (x' := D 43 t) ((congrFun (hE 43 rfl) _).trans (congrArg _ (nI_clamp (by omega)))) ?_
      refine z_iload_n C rfl dX5_holdsFor_86 ?_
      refine z_icmp_lt 94 C dX5_holdsFor_87 (by decide) (fun c87 => ?_) (fun c87 => ?_)
      · refine z_iconst 0 (by decide) C dX5_holdsFor_94 ?_
        refine z_zreturn C F (Nat.le_of_ble_eq_true rfl) (Nat.le_of_ble_eq_true rfl) (by decide) dX5_holdsFor_95 ?_
        exact ⟨false, rfl, (hev.trans (decide_eq_false (Int32.not_le.mpr c87))).symm, E, hM, hE, stp.refl D rk n E⟩
      · refine z_iconst 1 (by decide) C dX5_holdsFor_90 ?_
        refine z_goto 95 C dX5_holdsFor_91 (by decide) ?_
        refine z_zreturn C F (Nat.le_of_ble_eq_true rfl) (Nat.le_of_ble_eq_true rfl) (by decide) dX5_holdsFor_95 ?_
        exact ⟨true, rfl, (hev.trans (decide_eq_true (Int32.not_lt.mp c87))).symm, E, hM, hE, stp.refl D rk n E⟩
    by_cases q2 : D 53 ru = 2
    · refine z_tableIn 96 C dX5_holdsFor_13 (by rw [q2]; decide) (by rw [q2]; decide) (by rw [q2]; rfl) (by decide) ?_
      have hev : evR D (fixD D) (f + 1) ru t = (decide (D 44 t ≤ D 54 ru)) := by simp only [evR]; rw [if_neg q0, if_neg q1, if_pos q2]
      refine z_aload_n C rfl dX5_holdsFor_96 ?_
      refine zg5_plays C (fun w h => List.mem_cons_of_mem _ (um_wsX50 w h)) hM.1 (List.mem_cons_of_mem _ wm6) dX5_holdsFor_97 ?_
      refine z_ref (hM.q 44 rfl) ?_
      refine z_iload_n C rfl dX5_holdsFor_100 ?_
      refine z_iaload C (hM.k 44 rfl) (hM.b' 44 rfl (⟨t, rfl, ht⟩) (by decide)) dX5_holdsFor_101 ?_
      refine z_int (hM.t 44 rfl (by decide) _) ?_
      refine z_int (x' := D 44 t) ((congrFun (hE 44 rfl) _).trans (congrArg _ (nI_clamp (by omega)))) ?_
      refine z_iload_n C rfl dX5_holdsFor_102 ?_
      refine z_icmp_gt 110 C dX5_holdsFor_103 (by decide) (fun c103 => ?_) (fun c103 => ?_)
      · refine z_iconst 0 (by decide) C dX5_holdsFor_110 ?_
        refine z_zreturn C F (Nat.le_of_ble_eq_true rfl) (Nat.le_of_ble_eq_true rfl) (by decide) dX5_holdsFor_111 ?_
        exact ⟨false, rfl, (hev.trans (decide_eq_false (Int32.not_le.mpr c103))).symm, E, hM, hE, stp.refl D rk n E⟩
      · refine z_iconst 1 (by decide) C dX5_holdsFor_106 ?_
        refine z_goto 111 C dX5_holdsFor_107 (by decide) ?_
        refine z_zreturn C F (Nat.le_of_ble_eq_true rfl) (Nat.le_of_ble_eq_true rfl) (by decide) dX5_holdsFor_111 ?_
        exact ⟨true, rfl, (hev.trans (decide_eq_true (Int32.not_lt.mp c103))).symm, E, hM, hE, stp.refl D rk n E⟩
    by_cases q3 : D 53 ru = 3
    · refine z_tableIn 112 C dX5_holdsFor_13 (by rw [q3]; decide) (by rw [q3]; decide) (by rw [q3]; rfl) (by decide) ?_
      have hev : evR D (fixD D) (f + 1) ru t = (decide (D 42 t ≤ D 54 ru)) := by simp only [evR]; rw [if_neg q0, if_neg q1, if_neg q2, if_pos q3]
      refine z_aload_n C rfl dX5_holdsFor_112 ?_
      refine zg5_length C (fun w h => List.mem_cons_of_mem _ (um_wsX50 w h)) hM.1 (List.mem_cons_of_mem _ wm4) dX5_holdsFor_113 ?_
      refine z_ref (hM.q 42 rfl) ?_
      refine z_iload_n C rfl dX5_holdsFor_116 ?_
      refine z_iaload C (hM.k 42 rfl) (hM.b' 42 rfl (⟨t, rfl, ht⟩) (by decide)) dX5_holdsFor_117 ?_
      refine z_int (hM.t 42 rfl (by decide) _) ?_
      refine z_int (x' := D 42 t) ((congrFun (hE 42 rfl) _).trans (congrArg _ (nI_clamp (by omega)))) ?_
      refine z_iload_n C rfl dX5_holdsFor_118 ?_
      refine z_icmp_gt 126 C dX5_holdsFor_119 (by decide) (fun c119 => ?_) (fun c119 => ?_)
      · refine z_iconst 0 (by decide) C dX5_holdsFor_126 ?_
        refine z_zreturn C F (Nat.le_of_ble_eq_true rfl) (Nat.le_of_ble_eq_true rfl) (by decide) dX5_holdsFor_127 ?_
        exact ⟨false, rfl, (hev.trans (decide_eq_false (Int32.not_le.mpr c119))).symm, E, hM, hE, stp.refl D rk n E⟩
      · refine z_iconst 1 (by decide) C dX5_holdsFor_122 ?_
        refine z_goto 127 C dX5_holdsFor_123 (by decide) ?_
        refine z_zreturn C F (Nat.le_of_ble_eq_true rfl) (Nat.le_of_ble_eq_true rfl) (by decide) dX5_holdsFor_127 ?_
        exact ⟨true, rfl, (hev.trans (decide_eq_true (Int32.not_lt.mp c119))).symm, E, hM, hE, stp.refl D rk n E⟩
    by_cases q4 : D 53 ru = 4
    · refine z_tableIn 128 C dX5_holdsFor_13 (by rw [q4]; decide) (by rw [q4]; decide) (by rw [q4]; rfl) (by decide) ?_
      have hev : evR D (fixD D) (f + 1) ru t = (decide (0 < D 44 t) && decide (D 40 0 - D 45 t ≤ D 54 ru)) := by simp only [evR]; rw [if_neg q0, if_neg q1, if_neg q2, if_neg q3, if_pos q4]
      refine z_aload_n C rfl dX5_holdsFor_128 ?_
      refine zg5_plays C (fun w h => List.mem_cons_of_mem _ (um_wsX50 w h)) hM.1 (List.mem_cons_of_mem _ wm6) dX5_holdsFor_129 ?_
      refine z_ref (hM.q 44 rfl) ?_
      refine z_iload_n C rfl dX5_holdsFor_132 ?_
      refine z_iaload C (hM.k 44 rfl) (hM.b' 44 rfl (⟨t, rfl, ht⟩) (by decide)) dX5_holdsFor_133 ?_
      refine z_int (hM.t 44 rfl (by decide) _) ?_
      refine z_int (x' := D 44 t) ((congrFun (hE 44 rfl) _).trans (congrArg _ (nI_clamp (by omega)))) ?_
      refine z_if_le 156 C dX5_holdsFor_134 (by decide) (fun c134 => ?_) (fun c134 => ?_)
      · refine z_iconst 0 (by decide) C dX5_holdsFor_156 ?_
        refine z_zreturn C F (Nat.le_of_ble_eq_true rfl) (Nat.le_of_ble_eq_true rfl) (by decide) dX5_holdsFor_157 ?_
        exact ⟨false, rfl, (hev.trans (by rw [decide_eq_false (Int32.not_lt.mpr c134)]; rfl)).symm, E, hM, hE, stp.refl D rk n E⟩
      · refine z_aload_n C rfl dX5_holdsFor_137 ?_
        refine zg5_today C (fun w h => List.mem_cons_of_mem _ (um_wsX50 w h)) hM.1 (List.mem_cons_of_mem _ wm50) dX5_holdsFor_138 ?_
        refine z_int (hM.i 40 rfl) ?_
        refine z_int (congrFun (hE 40 rfl) 0) ?_
        refine z_aload_n C rfl dX5_holdsFor_141 ?_
        refine zg5_last C (fun w h => List.mem_cons_of_mem _ (um_wsX50 w h)) hM.1 (List.mem_cons_of_mem _ wm7) dX5_holdsFor_142 ?_
        refine z_ref (hM.q 45 rfl) ?_
        refine z_iload_n C rfl dX5_holdsFor_145 ?_
        refine z_iaload C (hM.k 45 rfl) (hM.b' 45 rfl (⟨t, rfl, ht⟩) (by decide)) dX5_holdsFor_146 ?_
        refine z_int (hM.t 45 rfl (by decide) _) ?_
        refine z_int (x' := D 45 t) ((congrFun (hE 45 rfl) _).trans (congrArg _ (nI_clamp (by omega)))) ?_
        refine z_isub C dX5_holdsFor_147 ?_
        refine z_iload_n C rfl dX5_holdsFor_148 ?_
        refine z_icmp_gt 156 C dX5_holdsFor_149 (by decide) (fun c149 => ?_) (fun c149 => ?_)
        · refine z_iconst 0 (by decide) C dX5_holdsFor_156 ?_
          refine z_zreturn C F (Nat.le_of_ble_eq_true rfl) (Nat.le_of_ble_eq_true rfl) (by decide) dX5_holdsFor_157 ?_
          exact ⟨false, rfl, (hev.trans (by rw [decide_eq_false (Int32.not_le.mpr c149), Bool.and_false])).symm, E, hM, hE, stp.refl D rk n E⟩
        · refine z_iconst 1 (by decide) C dX5_holdsFor_152 ?_
          refine z_goto 157 C dX5_holdsFor_153 (by decide) ?_
          refine z_zreturn C F (Nat.le_of_ble_eq_true rfl) (Nat.le_of_ble_eq_true rfl) (by decide) dX5_holdsFor_157 ?_
          exact ⟨true, rfl, (hev.trans (by rw [decide_eq_true (Int32.not_le.mp c134), decide_eq_true (Int32.not_lt.mp c149)]; rfl)).symm, E, hM, hE, stp.refl D rk n E⟩
    by_cases q5 : D 53 ru = 5
    · refine z_tableIn 158 C dX5_holdsFor_13 (by rw [q5]; decide) (by rw [q5]; decide) (by rw [q5]; rfl) (by decide) ?_
      have hev : evR D (fixD D) (f + 1) ru t = (hasB (fixD D (ix (D 54 ru))) (nI t)) := by simp only [evR]; rw [if_neg q0, if_neg q1, if_neg q2, if_neg q3, if_neg q4, if_pos q5]
      obtain ⟨i, hi, ei⟩ := (hw ru hr).2.2.1 q5
      have hi8 : i < 8 := by omega
      rw [ei, show ix (nI i) = i from nI_clamp (by omega)] at hev
      rw [ei]
      obtain ⟨w1, w2⟩ := hls i hi8 (by simp only [lsR]; rw [if_pos q5, ei]; show hasB (bitI i) (nI i) = true; rw [hasB_bit (by omega) (by omega)]; exact decide_eq_true rfl)
      refine z_aload_n C rfl dX5_holdsFor_158 ?_
      refine z_iload_n C rfl dX5_holdsFor_159 ?_
      refine z_callM 1 [zi (nI i)] C rfl (hF i w1 w2 E _ hM hE (hI.mono (by omega))) rfl (zgoodV LWm_good wm51 wm52 wm53 wm37 wm58) rfl rfl rfl (by decide +kernel) rfl (by rw [hR]; exact ⟨by show 43 * (rk i + 1) + 1 ≤ 43 * n + ru + 1; omega, by show 8 + (7 + 11) + 1100 * (rk i + 1) ≤ 1100 * n + 26 + 23 * ru; omega⟩) hM.1 (by rw [hR]; exact ⟨Nat.le_of_ble_eq_true rfl, Nat.le_of_ble_eq_true rfl⟩) (Nat.le_of_ble_eq_true rfl) dX5_holdsFor_160 (fun v160 S160 h160 => ?_) (fun E160 S160 h160 => ?_)
      · obtain ⟨rfl, E1, hM, hE1, hs, -, hgd⟩ := h160
        refine z_aload_n C rfl dX5_holdsFor_163 ?_
        refine zg5_kept C (fun w h => List.mem_cons_of_mem _ (um_wsX50 w h)) hM.1 (List.mem_cons_of_mem _ wm22) dX5_holdsFor_164 ?_
        refine z_ref (hM.q 61 rfl) ?_
        refine z_iload_n C rfl dX5_holdsFor_167 ?_
        refine z_iaload C (hM.k 61 rfl) (hM.b' 61 rfl (⟨i, rfl, hi8⟩) (by decide)) dX5_holdsFor_168 ?_
        refine z_int (hM.t 61 rfl (by decide) _) ?_
        refine z_int (x' := fixD D i) ((congrArg _ (nI_clamp (by omega))).trans hgd.1) ?_
        refine z_iload_n C rfl dX5_holdsFor_169 ?_
        refine z_ishr C dX5_holdsFor_170 ?_
        refine z_iconst 1 (by decide) C dX5_holdsFor_171 ?_
        refine z_iand C dX5_holdsFor_172 ?_
        refine z_iconst 1 (by decide) C dX5_holdsFor_173 ?_
        refine z_icmp_ne 181 C dX5_holdsFor_174 (by decide) (fun c174 => ?_) (fun c174 => ?_)
        · refine z_iconst 0 (by decide) C dX5_holdsFor_181 ?_
          refine z_zreturn C F (Nat.le_of_ble_eq_true rfl) (Nat.le_of_ble_eq_true rfl) (by decide) dX5_holdsFor_182 ?_
          exact ⟨false, rfl, (hev.trans (Bool.eq_false_iff.mpr (fun z => c174 ((shr_bit (by omega)).mpr z)))).symm, E1, hM, hE1, hs.mono (by omega)⟩
        · refine z_iconst 1 (by decide) C dX5_holdsFor_177 ?_
          refine z_goto 182 C dX5_holdsFor_178 (by decide) ?_
          refine z_zreturn C F (Nat.le_of_ble_eq_true rfl) (Nat.le_of_ble_eq_true rfl) (by decide) dX5_holdsFor_182 ?_
          exact ⟨true, rfl, (hev.trans ((shr_bit (by omega)).mp c174)).symm, E1, hM, hE1, hs.mono (by omega)⟩
      · exact h160.elim
    by_cases q6 : D 53 ru = 6
    · refine z_tableIn 183 C dX5_holdsFor_13 (by rw [q6]; decide) (by rw [q6]; decide) (by rw [q6]; rfl) (by decide) ?_
      have hev : evR D (fixD D) (f + 1) ru t = (evR D (fixD D) f (ix (D 54 ru)) t && evR D (fixD D) f (ix (D 55 ru)) t) := by simp only [evR]; rw [if_neg q0, if_neg q1, if_neg q2, if_neg q3, if_neg q4, if_neg q5, if_pos q6]
      obtain ⟨a, b, ha, hb, ea, eb⟩ := (hw ru hr).2.2.2 (Or.inl q6)
      have xa : ix (nI a) = a := nI_clamp (by omega)
      have xb : ix (nI b) = b := nI_clamp (by omega)
      rw [ea, eb, xa, xb] at hev
      rw [ea]
      have lsa : ∀ i : Nat, i < 8 → hasB (lsR D f a) (nI i) = true → i < dL D ∧ rk i < n := fun i hi h => hls i hi (by simp only [lsR]; rw [if_neg q5, if_pos (Or.inl q6), ea, xa, eb, xb, hasB_or (by omega), h, Bool.true_or])
      have lsb : ∀ i : Nat, i < 8 → hasB (lsR D f b) (nI i) = true → i < dL D ∧ rk i < n := fun i hi h => hls i hi (by simp only [lsR]; rw [if_neg q5, if_pos (Or.inl q6), ea, xa, eb, xb, hasB_or (by omega), h, Bool.or_true])
      refine z_aload_n C rfl dX5_holdsFor_183 ?_
      refine z_iload_n C rfl dX5_holdsFor_184 ?_
      refine z_iload_n C rfl dX5_holdsFor_185 ?_
      refine z_callM 2 [zi (nI a), zi (nI t)] C rfl (ih a t E _ (by omega) (by omega) ht hM hE hI lsa) rfl (zgoodV LWm_good wm54 wm55 wm56 wm37 wm49) rfl rfl rfl (by decide +kernel) rfl (by rw [hR]; exact ⟨by show 43 * n + a + 1 + 1 ≤ 43 * n + ru + 1; omega, by show 8 + (4 + 11) + (1100 * n + 26 + 23 * a) ≤ 1100 * n + 26 + 23 * ru; omega⟩) hM.1 (by rw [hR]; exact ⟨Nat.le_of_ble_eq_true rfl, Nat.le_of_ble_eq_true rfl⟩) (Nat.le_of_ble_eq_true rfl) dX5_holdsFor_186 (fun v186 S186 h186 => ?_) (fun E186 S186 h186 => ?_)
      · obtain ⟨b186, rfl, hb186, E186, hM, hE186, hs186⟩ := h186
        have hI186 := hI.stp hs186
        cases b186 with
        | false =>
          refine z_if_eq 210 C dX5_holdsFor_189 (by decide) (fun _ => ?_) (fun c189 => absurd c189 (by decide))
          refine z_iconst 0 (by decide) C dX5_holdsFor_210 ?_
          refine z_zreturn C F (Nat.le_of_ble_eq_true rfl) (Nat.le_of_ble_eq_true rfl) (by decide) dX5_holdsFor_211 ?_
          exact ⟨false, rfl, (hev.trans (by rw [← hb186]; rfl)).symm, E186, hM, hE186, hs186⟩
        | true =>
          refine z_if_eq 210 C dX5_holdsFor_189 (by decide) (fun c189 => absurd c189 (by decide)) (fun _ => ?_)
          refine z_aload_n C rfl dX5_holdsFor_192 ?_
          refine z_aload_n C rfl dX5_holdsFor_193 ?_
          refine zg5_two C (fun w h => List.mem_cons_of_mem _ (um_wsX50 w h)) hM.1 (List.mem_cons_of_mem _ wm17) dX5_holdsFor_194 ?_
          refine z_ref (hM.q 55 rfl) ?_
          refine z_iload_n C rfl dX5_holdsFor_197 ?_
          refine z_iaload C (hM.k 55 rfl) (hM.b' 55 rfl (⟨ru, rfl, hru40⟩) (by decide)) dX5_holdsFor_198 ?_
          refine z_int (hM.t 55 rfl (by decide) _) ?_
          refine z_int (x' := nI b) (((congrFun (hE186 55 rfl) _).trans (congrArg _ (nI_clamp (by omega)))).trans eb) ?_
          refine z_iload_n C rfl dX5_holdsFor_199 ?_
          refine z_callM 2 [zi (nI b), zi (nI t)] C rfl (ih b t E186 _ (by omega) (by omega) ht hM hE186 hI186 lsb) rfl (zgoodV LWm_good wm54 wm55 wm56 wm37 wm49) rfl rfl rfl (by decide +kernel) rfl (by rw [hR]; exact ⟨by show 43 * n + b + 1 + 1 ≤ 43 * n + ru + 1; omega, by show 8 + (4 + 11) + (1100 * n + 26 + 23 * b) ≤ 1100 * n + 26 + 23 * ru; omega⟩) hM.1 (by rw [hR]; exact ⟨Nat.le_of_ble_eq_true rfl, Nat.le_of_ble_eq_true rfl⟩) (Nat.le_of_ble_eq_true rfl) dX5_holdsFor_200 (fun v200 S200 h200 => ?_) (fun E200 S200 h200 => ?_)
          · obtain ⟨b200, rfl, hb200, E200, hM, hE200, hs200⟩ := h200
            have hI200 := hI186.stp hs200
            cases b200 with
            | false =>
              refine z_if_eq 210 C dX5_holdsFor_203 (by decide) (fun _ => ?_) (fun c203 => absurd c203 (by decide))
              refine z_iconst 0 (by decide) C dX5_holdsFor_210 ?_
              refine z_zreturn C F (Nat.le_of_ble_eq_true rfl) (Nat.le_of_ble_eq_true rfl) (by decide) dX5_holdsFor_211 ?_
              exact ⟨false, rfl, (hev.trans (by rw [← hb186, ← hb200]; rfl)).symm, E200, hM, hE200, (hs186.trans hs200)⟩
            | true =>
              refine z_if_eq 210 C dX5_holdsFor_203 (by decide) (fun c203 => absurd c203 (by decide)) (fun _ => ?_)
              refine z_iconst 1 (by decide) C dX5_holdsFor_206 ?_
              refine z_goto 211 C dX5_holdsFor_207 (by decide) ?_
              refine z_zreturn C F (Nat.le_of_ble_eq_true rfl) (Nat.le_of_ble_eq_true rfl) (by decide) dX5_holdsFor_211 ?_
              exact ⟨true, rfl, (hev.trans (by rw [← hb186, ← hb200]; rfl)).symm, E200, hM, hE200, (hs186.trans hs200)⟩
          · exact h200.elim
      · exact h186.elim
    by_cases q7 : D 53 ru = 7
    · refine z_tableIn 212 C dX5_holdsFor_13 (by rw [q7]; decide) (by rw [q7]; decide) (by rw [q7]; rfl) (by decide) ?_
      have hev : evR D (fixD D) (f + 1) ru t = (evR D (fixD D) f (ix (D 54 ru)) t || evR D (fixD D) f (ix (D 55 ru)) t) := by simp only [evR]; rw [if_neg q0, if_neg q1, if_neg q2, if_neg q3, if_neg q4, if_neg q5, if_neg q6, if_pos q7]
      obtain ⟨a, b, ha, hb, ea, eb⟩ := (hw ru hr).2.2.2 (Or.inr (Or.inl q7))
      have xa : ix (nI a) = a := nI_clamp (by omega)
      have xb : ix (nI b) = b := nI_clamp (by omega)
      rw [ea, eb, xa, xb] at hev
      rw [ea]
      have lsa : ∀ i : Nat, i < 8 → hasB (lsR D f a) (nI i) = true → i < dL D ∧ rk i < n := fun i hi h => hls i hi (by simp only [lsR]; rw [if_neg q5, if_pos (Or.inr q7), ea, xa, eb, xb, hasB_or (by omega), h, Bool.true_or])
      have lsb : ∀ i : Nat, i < 8 → hasB (lsR D f b) (nI i) = true → i < dL D ∧ rk i < n := fun i hi h => hls i hi (by simp only [lsR]; rw [if_neg q5, if_pos (Or.inr q7), ea, xa, eb, xb, hasB_or (by omega), h, Bool.or_true])
      refine z_aload_n C rfl dX5_holdsFor_212 ?_
      refine z_iload_n C rfl dX5_holdsFor_213 ?_
      refine z_iload_n C rfl dX5_holdsFor_214 ?_
      refine z_callM 2 [zi (nI a), zi (nI t)] C rfl (ih a t E _ (by omega) (by omega) ht hM hE hI lsa) rfl (zgoodV LWm_good wm54 wm55 wm56 wm37 wm49) rfl rfl rfl (by decide +kernel) rfl (by rw [hR]; exact ⟨by show 43 * n + a + 1 + 1 ≤ 43 * n + ru + 1; omega, by show 8 + (4 + 11) + (1100 * n + 26 + 23 * a) ≤ 1100 * n + 26 + 23 * ru; omega⟩) hM.1 (by rw [hR]; exact ⟨Nat.le_of_ble_eq_true rfl, Nat.le_of_ble_eq_true rfl⟩) (Nat.le_of_ble_eq_true rfl) dX5_holdsFor_215 (fun v215 S215 h215 => ?_) (fun E215 S215 h215 => ?_)
      · obtain ⟨b215, rfl, hb215, E215, hM, hE215, hs215⟩ := h215
        have hI215 := hI.stp hs215
        cases b215 with
        | false =>
          refine z_if_ne 235 C dX5_holdsFor_218 (by decide) (fun c218 => absurd c218 (by decide)) (fun _ => ?_)
          refine z_aload_n C rfl dX5_holdsFor_221 ?_
          refine z_aload_n C rfl dX5_holdsFor_222 ?_
          refine zg5_two C (fun w h => List.mem_cons_of_mem _ (um_wsX50 w h)) hM.1 (List.mem_cons_of_mem _ wm17) dX5_holdsFor_223 ?_
          refine z_ref (hM.q 55 rfl) ?_
          refine z_iload_n C rfl dX5_holdsFor_226 ?_
          refine z_iaload C (hM.k 55 rfl) (hM.b' 55 rfl (⟨ru, rfl, hru40⟩) (by decide)) dX5_holdsFor_227 ?_
          refine z_int (hM.t 55 rfl (by decide) _) ?_
          refine z_int (x' := nI b) (((congrFun (hE215 55 rfl) _).trans (congrArg _ (nI_clamp (by omega)))).trans eb) ?_
          refine z_iload_n C rfl dX5_holdsFor_228 ?_
          refine z_callM 2 [zi (nI b), zi (nI t)] C rfl (ih b t E215 _ (by omega) (by omega) ht hM hE215 hI215 lsb) rfl (zgoodV LWm_good wm54 wm55 wm56 wm37 wm49) rfl rfl rfl (by decide +kernel) rfl (by rw [hR]; exact ⟨by show 43 * n + b + 1 + 1 ≤ 43 * n + ru + 1; omega, by show 8 + (4 + 11) + (1100 * n + 26 + 23 * b) ≤ 1100 * n + 26 + 23 * ru; omega⟩) hM.1 (by rw [hR]; exact ⟨Nat.le_of_ble_eq_true rfl, Nat.le_of_ble_eq_true rfl⟩) (Nat.le_of_ble_eq_true rfl) dX5_holdsFor_229 (fun v229 S229 h229 => ?_) (fun E229 S229 h229 => ?_)
          · obtain ⟨b229, rfl, hb229, E229, hM, hE229, hs229⟩ := h229
            have hI229 := hI215.stp hs229
            cases b229 with
            | false =>
              refine z_if_eq 239 C dX5_holdsFor_232 (by decide) (fun _ => ?_) (fun c232 => absurd c232 (by decide))
              refine z_iconst 0 (by decide) C dX5_holdsFor_239 ?_
              refine z_zreturn C F (Nat.le_of_ble_eq_true rfl) (Nat.le_of_ble_eq_true rfl) (by decide) dX5_holdsFor_240 ?_
              exact ⟨false, rfl, (hev.trans (by rw [← hb215, ← hb229]; rfl)).symm, E229, hM, hE229, (hs215.trans hs229)⟩
            | true =>
              refine z_if_eq 239 C dX5_holdsFor_232 (by decide) (fun c232 => absurd c232 (by decide)) (fun _ => ?_)
              refine z_iconst 1 (by decide) C dX5_holdsFor_235 ?_
              refine z_goto 240 C dX5_holdsFor_236 (by decide) ?_
              refine z_zreturn C F (Nat.le_of_ble_eq_true rfl) (Nat.le_of_ble_eq_true rfl) (by decide) dX5_holdsFor_240 ?_
              exact ⟨true, rfl, (hev.trans (by rw [← hb215, ← hb229]; rfl)).symm, E229, hM, hE229, (hs215.trans hs229)⟩
          · exact h229.elim
        | true =>
          refine z_if_ne 235 C dX5_holdsFor_218 (by decide) (fun _ => ?_) (fun c218 => absurd c218 (by decide))
          refine z_iconst 1 (by decide) C dX5_holdsFor_235 ?_
          refine z_goto 240 C dX5_holdsFor_236 (by decide) ?_
          refine z_zreturn C F (Nat.le_of_ble_eq_true rfl) (Nat.le_of_ble_eq_true rfl) (by decide) dX5_holdsFor_240 ?_
          exact ⟨true, rfl, (hev.trans (by rw [← hb215]; rfl)).symm, E215, hM, hE215, hs215⟩
      · exact h215.elim
    refine z_tableOut 241 C dX5_holdsFor_13 (by have r0 := zt_ne (w := 0) q0 (by decide); have r1 := zt_ne (w := 1) q1 (by decide); have r2 := zt_ne (w := 2) q2 (by decide); have r3 := zt_ne (w := 3) q3 (by decide); have r4 := zt_ne (w := 4) q4 (by decide); have r5 := zt_ne (w := 5) q5 (by decide); have r6 := zt_ne (w := 6) q6 (by decide); have r7 := zt_ne (w := 7) q7 (by decide); omega) (by decide) ?_
    have q8 : D 53 ru = 8 := by
      obtain ⟨k, hk, ek⟩ := (hw ru hr).1
      rcases (show k = 0 ∨ k = 1 ∨ k = 2 ∨ k = 3 ∨ k = 4 ∨ k = 5 ∨ k = 6 ∨ k = 7 ∨ k = 8 by omega) with rfl | rfl | rfl | rfl | rfl | rfl | rfl | rfl | rfl
      · exact absurd ek q0
      · exact absurd ek q1
      · exact absurd ek q2
      · exact absurd ek q3
      · exact absurd ek q4
      · exact absurd ek q5
      · exact absurd ek q6
      · exact absurd ek q7
      · exact ek
    have hev : evR D (fixD D) (f + 1) ru t = (!evR D (fixD D) f (ix (D 54 ru)) t) := by simp only [evR]; rw [if_neg q0, if_neg q1, if_neg q2, if_neg q3, if_neg q4, if_neg q5, if_neg q6, if_neg q7]
    obtain ⟨a, b, ha, hb, ea, eb⟩ := (hw ru hr).2.2.2 (Or.inr (Or.inr q8))
    have xa : ix (nI a) = a := nI_clamp (by omega)
    rw [ea, xa] at hev
    rw [ea]
    have lsa : ∀ i : Nat, i < 8 → hasB (lsR D f a) (nI i) = true → i < dL D ∧ rk i < n := fun i hi h => hls i hi (by simp only [lsR]; rw [if_neg q5, if_neg (fun z => by rw [q8] at z; revert z; decide), if_pos q8, ea, xa]; exact h)
    refine z_aload_n C rfl dX5_holdsFor_241 ?_
    refine z_iload_n C rfl dX5_holdsFor_242 ?_
    refine z_iload_n C rfl dX5_holdsFor_243 ?_
    refine z_callM 2 [zi (nI a), zi (nI t)] C rfl (ih a t E _ (by omega) (by omega) ht hM hE hI lsa) rfl (zgoodV LWm_good wm54 wm55 wm56 wm37 wm49) rfl rfl rfl (by decide +kernel) rfl (by rw [hR]; exact ⟨by show 43 * n + a + 1 + 1 ≤ 43 * n + ru + 1; omega, by show 8 + (4 + 11) + (1100 * n + 26 + 23 * a) ≤ 1100 * n + 26 + 23 * ru; omega⟩) hM.1 (by rw [hR]; exact ⟨Nat.le_of_ble_eq_true rfl, Nat.le_of_ble_eq_true rfl⟩) (Nat.le_of_ble_eq_true rfl) dX5_holdsFor_244 (fun v244 S244 h244 => ?_) (fun E244 S244 h244 => ?_)
    · obtain ⟨b244, rfl, hb244, E244, hM, hE244, hs244⟩ := h244
      have hI244 := hI.stp hs244
      cases b244 with
      | false =>
        refine z_if_ne 254 C dX5_holdsFor_247 (by decide) (fun c247 => absurd c247 (by decide)) (fun _ => ?_)
        refine z_iconst 1 (by decide) C dX5_holdsFor_250 ?_
        refine z_goto 255 C dX5_holdsFor_251 (by decide) ?_
        refine z_zreturn C F (Nat.le_of_ble_eq_true rfl) (Nat.le_of_ble_eq_true rfl) (by decide) dX5_holdsFor_255 ?_
        exact ⟨true, rfl, (hev.trans (by rw [← hb244]; rfl)).symm, E244, hM, hE244, hs244⟩
      | true =>
        refine z_if_ne 254 C dX5_holdsFor_247 (by decide) (fun _ => ?_) (fun c247 => absurd c247 (by decide))
        refine z_iconst 0 (by decide) C dX5_holdsFor_254 ?_
        refine z_zreturn C F (Nat.le_of_ble_eq_true rfl) (Nat.le_of_ble_eq_true rfl) (by decide) dX5_holdsFor_255 ?_
        exact ⟨false, rfl, (hev.trans (by rw [← hb244]; rfl)).symm, E244, hM, hE244, hs244⟩
    · exact h244.elim
set_option maxRecDepth 100000 in
set_option maxHeartbeats 4000000 in
theorem M_isMatch {l : Launch} (hl0 : l.stackTraces = false) {D : ZD} {J : Nat → Int64} {S : ZM} {M : Nat} {r rk : Nat → Nat} (hw : wfR D) (hO : wfO D) (h40 : dR D ≤ 40) (h16 : dG D ≤ 16) (h8 : dL D ≤ 8) (h24 : dT D ≤ 24) {n : Nat} (hF : ∀ i : Nat, i < dL D → rk i < n → filP l D J M r rk i) {E : ZD} {i t : Nat} (hi : i < dL D) (ht : t < dT D) (hM : mR E J S M r) (hE : eqF E D) (hI : inv D rk n E) (hls : ∀ j : Nat, j < 8 → hasB (lsD D (ix (D 58 i))) (nI j) = true → j < dL D ∧ rk j < n) : zMet l yX5_isMatch (Cond.code yX5_isMatch cX5_isMatch 3 (some .boolean) :: LWm) ({ frames := 43 * n + 41, cells := 0, slots := 0, locals := 1100 * n + 946 } : Room) 0 0 [zr (some M), zi (nI i), zi (nI t)] S (zPo (fun v S' => ∃ b : Bool, v = some (zi (bI b)) ∧ b = (prD D t && ev D (fixD D) (ix (D 58 i)) t) ∧ ∃ E' : ZD, mR E' J S' M r ∧ eqF E' D ∧ stp D rk n E E') (fun _ _ => False)) := by
  refine zMet.of' [some (zr (some M)), some (zi (nI i)), some (zi (nI t))] hl0 (by decide) rfl (Nat.le_of_ble_eq_true rfl) rfl ?_
  intro X C N hR hN0 hX F
  subst hX
  obtain ⟨ru, hru, eru⟩ := hO i hi
  have ht24 : t < 24 := by omega
  have hpv : ¬ D 47 t = 0 → prD D t = false := fun q => by unfold prD; rw [decide_eq_false q, Bool.and_false]
  have hpt : D 47 t = 0 → prD D t = true := fun q => by unfold prD; rw [decide_eq_true ht, q]; rfl
  refine z_aload_n C rfl dX5_isMatch_0 ?_
  refine zg5_isRemoved C (fun w h => List.mem_cons_of_mem _ (um_wsX50 w h)) hM.1 (List.mem_cons_of_mem _ wm10) dX5_isMatch_1 ?_
  refine z_ref (hM.q 47 rfl) ?_
  refine z_iload_n C rfl dX5_isMatch_4 ?_
  refine z_zaload C (hM.k 47 rfl) (hM.b' 47 rfl (⟨t, rfl, ht24⟩) (by decide)) dX5_isMatch_5 ?_
  refine z_int (hM.t 47 rfl (by decide) _) ?_
  refine z_int (x' := D 47 t) ((congrFun (hE 47 rfl) _).trans (congrArg _ (nI_clamp (by omega)))) ?_
  refine z_if_ne 27 C dX5_isMatch_6 (by decide) (fun c6 => ?_) (fun c6 => ?_)
  · refine z_iconst 0 (by decide) C dX5_isMatch_27 ?_
    refine z_zreturn C F (Nat.le_of_ble_eq_true rfl) (Nat.le_of_ble_eq_true rfl) (by decide) dX5_isMatch_28 ?_
    exact ⟨false, rfl, by rw [hpv c6]; rfl, E, hM, hE, stp.refl D rk n E⟩
  · refine z_aload_n C rfl dX5_isMatch_9 ?_
    refine z_aload_n C rfl dX5_isMatch_10 ?_
    refine zg5_rule C (fun w h => List.mem_cons_of_mem _ (um_wsX50 w h)) hM.1 (List.mem_cons_of_mem _ wm19) dX5_isMatch_11 ?_
    refine z_ref (hM.q 58 rfl) ?_
    refine z_iload_n C rfl dX5_isMatch_14 ?_
    refine z_iaload C (hM.k 58 rfl) (hM.b' 58 rfl (⟨i, rfl, by show i < 8; omega⟩) (by decide)) dX5_isMatch_15 ?_
    refine z_int (hM.t 58 rfl (by decide) _) ?_
    refine z_int (x' := nI ru) (((congrFun (hE 58 rfl) _).trans (congrArg _ (nI_clamp (by omega)))).trans eru) ?_
    refine z_iload_n C rfl dX5_isMatch_16 ?_
    refine z_callM 2 [zi (nI ru), zi (nI t)] C rfl (M_holdsFor hl0 hw h40 h16 h8 hF 41 ru t E _ (by omega) hru ht24 hM hE hI (fun j hj hb => hls j hj (by rw [eru, show ix (nI ru) = ru from nI_clamp (by omega)]; exact hb))) rfl (zgoodV LWm_good wm54 wm55 wm56 wm37 wm49) rfl rfl rfl (by decide +kernel) rfl (by rw [hR]; exact ⟨by show 43 * n + ru + 1 + 1 ≤ 43 * n + 41; omega, by show 8 + (4 + 11) + (1100 * n + 26 + 23 * ru) ≤ 1100 * n + 946; omega⟩) hM.1 (by rw [hR]; exact ⟨Nat.le_of_ble_eq_true rfl, Nat.le_of_ble_eq_true rfl⟩) (Nat.le_of_ble_eq_true rfl) dX5_isMatch_17 (fun v17 S17 h17 => ?_) (fun E17 S17 h17 => ?_)
    · obtain ⟨b17, rfl, hb17, E1, hM, hE1, hs⟩ := h17
      cases b17 with
      | false =>
        refine z_if_eq 27 C dX5_isMatch_20 (by decide) (fun _ => ?_) (fun c20 => absurd c20 (by decide))
        refine z_iconst 0 (by decide) C dX5_isMatch_27 ?_
        refine z_zreturn C F (Nat.le_of_ble_eq_true rfl) (Nat.le_of_ble_eq_true rfl) (by decide) dX5_isMatch_28 ?_
        exact ⟨false, rfl, by rw [hpt c6, eru, show ix (nI ru) = ru from nI_clamp (by omega)]; exact hb17, E1, hM, hE1, hs⟩
      | true =>
        refine z_if_eq 27 C dX5_isMatch_20 (by decide) (fun c20 => absurd c20 (by decide)) (fun _ => ?_)
        refine z_iconst 1 (by decide) C dX5_isMatch_23 ?_
        refine z_goto 28 C dX5_isMatch_24 (by decide) ?_
        refine z_zreturn C F (Nat.le_of_ble_eq_true rfl) (Nat.le_of_ble_eq_true rfl) (by decide) dX5_isMatch_28 ?_
        exact ⟨true, rfl, by rw [hpt c6, eru, show ix (nI ru) = ru from nI_clamp (by omega)]; exact hb17, E1, hM, hE1, hs⟩
    · exact h17.elim
