/-! the reference: tidy, undoTidy -/
theorem sh63 : ∀ i : Nat, i < 64 → (((nI i).toInt64 &&& 63).toBitVec.smod 64).toNat = i := by decide +kernel
theorem j64_ext {s t : Int64} (h : ∀ i : Nat, i < 64 → s.toBitVec.getLsbD i = t.toBitVec.getLsbD i) : s = t := by
  apply Int64.toBitVec_inj.mp
  exact BitVec.eq_of_getLsbD_eq fun i hi => h i hi
theorem bJ_shr {x : Int64} {k : Nat} (h : k < 64) : (x >>> ((nI k).toInt64 &&& 63) &&& 1 = 1) ↔ bJ x k = true := by
  have e : (x >>> ((nI k).toInt64 &&& 63)).toBitVec.getLsbD 0 = x.toBitVec.getLsbD k := by
    rw [Int64.toBitVec_shiftRight, BitVec.getLsbD_sshiftRight']
    rw [sh63 k h]
    simp [h]
  unfold bJ
  rw [← e]
  constructor
  · intro q
    have h2 : (x >>> ((nI k).toInt64 &&& 63) &&& 1).toBitVec.getLsbD 0 = (1 : Int64).toBitVec.getLsbD 0 := by rw [q]
    rw [Int64.toBitVec_and, BitVec.getLsbD_and] at h2
    simpa using h2
  · intro q
    refine j64_ext fun j hj => ?_
    rw [Int64.toBitVec_and, BitVec.getLsbD_and]
    have h3 : ∀ j : Nat, j < 64 → (1 : Int64).toBitVec.getLsbD j = decide (j = 0) := by decide +kernel
    rw [h3 j hj]
    by_cases hj0 : j = 0
    · subst hj0; rw [q]; rfl
    · simp [hj0]
theorem bJ_set {x : Int64} {k : Nat} (h : k < 64) (i : Nat) : bJ (x ||| (1 <<< ((nI k).toInt64 &&& 63))) i = (bJ x i || decide (i = k)) := by
  unfold bJ
  rw [Int64.toBitVec_or, BitVec.getLsbD_or, Int64.toBitVec_shiftLeft, BitVec.shiftLeft_eq', sh63 k h, BitVec.getLsbD_shiftLeft]
  congr 1
  by_cases hi : i < 64
  · have h3 : ∀ j : Nat, j < 64 → (1 : Int64).toBitVec.getLsbD j = decide (j = 0) := by decide +kernel
    by_cases hk : i < k
    · simp [hk, show i ≠ k by omega]
    · rw [h3 _ (by omega)]
      by_cases hk2 : i = k
      · subst hk2; simp [hi]
      · simp [hi, hk, hk2, show i - k ≠ 0 by omega]
  · simp [hi, show i ≠ k by omega]
/-- the rules whose tag changes, as bits -/
def jF (D : ZD) (y : Int32) : Nat → Int64
  | 0 => 0
  | k + 1 => if D 53 k = 0 ∧ D 54 k = y then jF D y k ||| (1 <<< ((nI k).toInt64 &&& 63)) else jF D y k
theorem bJ_jF {D : ZD} {y : Int32} : ∀ n : Nat, n ≤ 64 → ∀ i : Nat, bJ (jF D y n) i = true ↔ i < n ∧ D 53 i = 0 ∧ D 54 i = y := by
  intro n
  induction n with
  | zero =>
    intro _ i
    have : bJ (jF D y 0) i = false := by unfold bJ jF; simp
    rw [this]
    exact ⟨fun q => (by cases q), fun q => (by omega)⟩
  | succ n ih =>
    intro hn i
    simp only [jF]
    by_cases q : D 53 n = 0 ∧ D 54 n = y
    · rw [if_pos q, bJ_set (by omega), Bool.or_eq_true, ih (by omega), decide_eq_true_eq]
      constructor
      · rintro (⟨a, b, c⟩ | rfl)
        · exact ⟨by omega, b, c⟩
        · exact ⟨by omega, q.1, q.2⟩
      · rintro ⟨a, b, c⟩
        by_cases z : i = n
        · exact Or.inr z
        · exact Or.inl ⟨by omega, b, c⟩
    · rw [if_neg q, ih (by omega)]
      constructor
      · rintro ⟨a, b, c⟩; exact ⟨by omega, b, c⟩
      · rintro ⟨a, b, c⟩
        by_cases z : i = n
        · subst z; exact absurd ⟨b, c⟩ q
        · exact ⟨by omega, b, c⟩
/-- what can be undone, in numbers -/
def udOk (D : ZD) : Prop := D 67 0 = nI (dU D) ∧ dU D ≤ 15 ∧ ∀ k : Nat, k < dU D → ∃ o : Nat, D 69 k = nI o ∧ o < 16
theorem eqJ_chg {A B : ZD} (h : eqJ A B) : eqJ (chgD A) (chgD B) := by
  intro k hk
  have e61 : A 61 = B 61 := h 61 rfl
  have e66 : A 66 = B 66 := h 66 rfl
  unfold chgD
  by_cases q6 : k = 66
  · subst q6; rw [dS_self, dS_self, fKd_of h.core, e61, e66]
  · rw [dS_ne q6, dS_ne q6]
    by_cases q1 : k = 61
    · subst q1; rw [dS_self, dS_self, fKd_of h.core, e61]
    · rw [dS_ne q1, dS_ne q1]; exact h k hk

theorem lg_z {x y : Int64} : lg_cmp x y = 0 ↔ x = y := by
  unfold lg_cmp
  by_cases h : x > y
  · rw [if_pos h]
    exact ⟨fun q => absurd q (by decide), fun q => by subst q; exact absurd h Int64.lt_irrefl⟩
  · rw [if_neg h]
    by_cases e : x = y
    · rw [if_pos e]; exact ⟨fun _ => e, fun _ => rfl⟩
    · rw [if_neg e]; exact ⟨fun q => absurd q (by decide), fun q => absurd q e⟩
set_option maxRecDepth 100000 in
set_option maxHeartbeats 800000 in
theorem M_undoTidy {l : Launch} (hl0 : l.stackTraces = false) {D : ZD} {J : Nat → Int64} {S : ZM} {M : Nat} {r : Nat → Nat} (hM0 : iM D J S M r) (h39 : D 39 0 = 0) (hC : wC D) (hU : udOk D) (hC9 : 0 < dU D → wC (opUndo D J)) : zMet l yX5_undoTidy (Cond.code yX5_undoTidy cX5_undoTidy 3 (some .int) :: LWm) ({ frames := 347, cells := 0, slots := 0, locals := 8868 } : Room) 0 0 [zr (some M)] S (zPo (fun v S' => (0 < dU D ∧ v = some (zi (D 69 (dU D - 1))) ∧ okM J S' M r (chgD (opUndo D J))) ∨ (dU D = 0 ∧ v = some (zi 0) ∧ mR (s39 D 1) J S' M r)) (fun _ _ => False)) := by
  refine zMet.of' [some (zr (some M)), none, none] hl0 (by decide) rfl (Nat.le_of_ble_eq_true rfl) rfl ?_
  intro X C N hR hN0 hX F
  subst hX
  have hN := hC.1
  obtain ⟨w0, hM⟩ := id hM0
  refine z_aload_n C rfl dX5_undoTidy_0 ?_
  refine z_iconst 0 (by decide) C dX5_undoTidy_1 ?_
  refine zp5_thrown C (fun w h => List.mem_cons_of_mem _ (um_wsX50 w h)) hM.1 (List.mem_cons_of_mem _ wm33) dX5_undoTidy_2 ?_
  have hM := hM0.th h39
  refine z_aload_n C rfl dX5_undoTidy_5 ?_
  refine z_aload_n C rfl dX5_undoTidy_6 ?_
  refine zg5_tidied C (fun w h => List.mem_cons_of_mem _ (um_wsX50 w h)) hM.1 (List.mem_cons_of_mem _ wm84) dX5_undoTidy_7 ?_
  refine z_int ((hM.i 67 rfl).trans hU.1) ?_
  refine z_if_ne 17 C dX5_undoTidy_10 (by decide) (fun c10 => ?_) (fun c10 => ?_)
  · refine z_iconst 0 (by decide) C dX5_undoTidy_17 ?_
    refine z_iconst 1 (by decide) C dX5_undoTidy_18 ?_
    refine z_callM 2 [zi (0), zi 1] C rfl (M_fails0 hl0 hM h39 0 1 (by decide)) rfl (zgoodV LWm_good wm64 wm65 wm66 wm37 wm67) rfl rfl rfl (by decide +kernel) rfl (by rw [hR]; exact ⟨Nat.le_of_ble_eq_true rfl, Nat.le_of_ble_eq_true rfl⟩) hM.1 (by rw [hR]; exact ⟨Nat.le_of_ble_eq_true rfl, Nat.le_of_ble_eq_true rfl⟩) (Nat.le_of_ble_eq_true rfl) dX5_undoTidy_19 (fun v19 S19 h19 => ?_) (fun E19 S19 h19 => ?_)
    · obtain ⟨rfl, q19⟩ := h19
      subst S19
      refine z_if_eq 27 C dX5_undoTidy_22 (by decide) (fun _ => ?_) (fun c22 => absurd c22 (by decide))
      obtain ⟨u, hud⟩ : ∃ u : Nat, dU D = u + 1 := ⟨dU D - 1, by have : dU D ≠ 0 := fun z => c10 (by rw [z]; rfl); omega⟩
      have hR40 : dR D ≤ 40 := hN.2.2.1.2
      have hu : 0 < dU D := by omega
      have hu15 : u < 15 := by have := hU.2.1; omega
      obtain ⟨o, ho, ho16⟩ := hU.2.2 u (by omega)
      have after : ∀ (E : ZD) (S1 : ZM) (w : Option ZV), mR E J S1 M r → (∀ k : Nat, k ≠ 46 → k ≠ 54 → k ≠ 67 → E k = D k) → E 67 = up1 (D 67) 0 (nI u) → (∀ i : Nat, E 46 i = if i < 24 then D 70 (24 * u + i) else D 46 i) → (∀ i : Nat, E 54 i = if i < dR D ∧ bJ (J u) i = true then nI o else D 54 i) → zW X 3 (0 + 0) (0 + 0) S1 131 [some (zr (some M)), some (zi (nI o)), w] [] := by
        intro E S1 w hM hA h67 h46 h54
        refine z_aload_n C rfl dX5_undoTidy_131 ?_
        refine zg5_isGone C (fun w h => List.mem_cons_of_mem _ (um_wsX50 w h)) hM.1 (List.mem_cons_of_mem _ wm14) dX5_undoTidy_132 ?_
        refine z_ref (hM.q 51 rfl) ?_
        refine z_iload_n C rfl dX5_undoTidy_135 ?_
        refine z_iconst 0 (by decide) C dX5_undoTidy_136 ?_
        refine z_zastore C (hM.k 51 rfl) (hM.b' 51 rfl (⟨o, rfl, ho16⟩) (by decide)) dX5_undoTidy_137 ?_
        refine z_memM (hM.eI 51 rfl (by decide) _ _) (fun S137 hM => ?_)
        have hEq : dS E 51 (up1 (E 51) (nI o).toNatClampNeg (vp_nar .boolean 0)) = opUndo D J := by
          funext k i
          unfold opUndo
          rw [hud, show u + 1 - 1 = u from rfl, ho, show ix (nI o) = o from nI_clamp (by omega)]
          by_cases q51 : k = 51
          · subst q51
            rw [dS_self, show (nI o).toNatClampNeg = o from nI_clamp (by omega), if_neg (by decide), if_pos rfl, hA 51 (by decide) (by decide) (by decide)]
            by_cases z : i = o
            · subst z; rw [up1_self, if_pos rfl]; decide
            · rw [up1_ne z, if_neg z]
          · rw [dS_ne q51]
            by_cases q46 : k = 46
            · subst q46; rw [if_pos rfl]; exact h46 i
            · rw [if_neg q46, if_neg q51]
              by_cases q54 : k = 54
              · subst q54; rw [if_pos rfl]; exact h54 i
              · rw [if_neg q54]
                by_cases q67 : k = 67
                · subst q67
                  rw [if_pos rfl, h67]
                  by_cases z : i = 0
                  · subst z; rw [up1_self, if_pos rfl]
                  · rw [up1_ne z, if_neg z]
                · rw [if_neg q67, hA k q46 q54 q67]
        rw [hEq] at hM
        refine z_aload_n C rfl dX5_undoTidy_138 ?_
        refine z_callM 0 [] C rfl (M_changes hl0 hM (hC9 hu)) rfl (zgoodV LWm_good wm68 wm69 wm70 wm37 wm71) rfl rfl rfl (by decide +kernel) rfl (by rw [hR]; exact ⟨Nat.le_of_ble_eq_true rfl, Nat.le_of_ble_eq_true rfl⟩) hM.1 (by rw [hR]; exact ⟨Nat.le_of_ble_eq_true rfl, Nat.le_of_ble_eq_true rfl⟩) (Nat.le_of_ble_eq_true rfl) dX5_undoTidy_139 (fun v139 S139 h139 => ?_) (fun E139 S139 h139 => ?_)
        · obtain ⟨rfl, D2, hM, e39, eJ, eM⟩ := h139
          refine z_iload_n C rfl dX5_undoTidy_142 ?_
          refine z_ireturn C F (Nat.le_of_ble_eq_true rfl) (Nat.le_of_ble_eq_true rfl) dX5_undoTidy_143 ?_
          exact Or.inl ⟨hu, by rw [hud, show u + 1 - 1 = u from rfl, ho], D2, hM, (congrFun e39 0).trans h39, eJ, eM⟩
        · exact h139.elim
      have loop2 : ∀ (m k : Nat) (E : ZD) (S1 : ZM), k + m = dR D → mR E J S1 M r → (∀ k : Nat, k ≠ 46 → k ≠ 54 → k ≠ 67 → E k = D k) → E 67 = up1 (D 67) 0 (nI u) → (∀ i : Nat, E 46 i = if i < 24 then D 70 (24 * u + i) else D 46 i) → (∀ i : Nat, E 54 i = if i < k ∧ bJ (J u) i = true then nI o else D 54 i) → zW X 3 (0 + 0) (0 + 0) S1 83 [some (zr (some M)), some (zi (nI o)), some (zi (nI k))] [] := by
        intro m
        induction m with
        | zero =>
          intro k E S1 hk hM hA h67a h46 h54
          obtain rfl : k = dR D := by omega
          have h67 : E 67 0 = nI u := by rw [h67a, up1_self]
          refine z_iload_n C rfl dX5_undoTidy_83 ?_
          refine z_aload_n C rfl dX5_undoTidy_84 ?_
          refine zg5_rules C (fun w h => List.mem_cons_of_mem _ (um_wsX50 w h)) hM.1 (List.mem_cons_of_mem _ wm40) dX5_undoTidy_85 ?_
          refine z_int (x' := nI (dR D)) ((hM.i 52 rfl).trans ((congrFun (hA 52 (by decide) (by decide) (by decide)) 0).trans hN.2.2.1.1)) ?_
          refine z_icmp_ge 131 C dX5_undoTidy_88 (by decide) (fun c88 => ?_) (fun c88 => ?_)
          · exact after E S1 _ hM hA h67a h46 h54
          · exact absurd (Int32.le_refl _) c88
        | succ m ih =>
          intro k E S1 hk hM hA h67a h46 h54
          have hkd : k < dR D := by omega
          have h67 : E 67 0 = nI u := by rw [h67a, up1_self]
          refine z_iload_n C rfl dX5_undoTidy_83 ?_
          refine z_aload_n C rfl dX5_undoTidy_84 ?_
          refine zg5_rules C (fun w h => List.mem_cons_of_mem _ (um_wsX50 w h)) hM.1 (List.mem_cons_of_mem _ wm40) dX5_undoTidy_85 ?_
          refine z_int (x' := nI (dR D)) ((hM.i 52 rfl).trans ((congrFun (hA 52 (by decide) (by decide) (by decide)) 0).trans hN.2.2.1.1)) ?_
          refine z_icmp_ge 131 C dX5_undoTidy_88 (by decide) (fun c88 => ?_) (fun c88 => ?_)
          · exact absurd c88 (n_ge hkd (by omega))
          · refine z_aload_n C rfl dX5_undoTidy_91 ?_
            refine zg5_one C (fun w h => List.mem_cons_of_mem _ (um_wsX50 w h)) hM.1 (List.mem_cons_of_mem _ wm16) dX5_undoTidy_92 ?_
            refine z_ref (hM.q 54 rfl) ?_
            refine z_iload_n C rfl dX5_undoTidy_95 ?_
            refine z_aload_n C rfl dX5_undoTidy_96 ?_
            refine zg5_tidyRules C (fun w h => List.mem_cons_of_mem _ (um_wsX50 w h)) hM.1 (List.mem_cons_of_mem _ wm31) dX5_undoTidy_97 ?_
            refine z_ref (hM.q 71 rfl) ?_
            refine z_aload_n C rfl dX5_undoTidy_100 ?_
            refine zg5_tidied C (fun w h => List.mem_cons_of_mem _ (um_wsX50 w h)) hM.1 (List.mem_cons_of_mem _ wm84) dX5_undoTidy_101 ?_
            refine z_int (x' := nI u) ((hM.i 67 rfl).trans h67) ?_
            refine z_laload C (hM.k 71 rfl) (hM.b' 71 rfl (⟨u, rfl, by show u < 16; omega⟩) (by decide)) dX5_undoTidy_104 ?_
            refine z_lng (hM.tj _) ?_
            refine z_lng (x' := J u) (congrArg _ (nI_clamp (by omega))) ?_
            refine z_iload_n C rfl dX5_undoTidy_105 ?_
            refine z_lshr C dX5_undoTidy_106 ?_
            refine z_lconst 1 (by decide) C dX5_undoTidy_107 ?_
            refine z_land C dX5_undoTidy_108 ?_
            refine z_lconst 1 (by decide) C dX5_undoTidy_109 ?_
            refine z_lcmp C dX5_undoTidy_110 ?_
            refine z_if_ne 118 C dX5_undoTidy_111 (by decide) (fun c111 => ?_) (fun c111 => ?_)
            · refine z_aload_n C rfl dX5_undoTidy_118 ?_
              refine zg5_one C (fun w h => List.mem_cons_of_mem _ (um_wsX50 w h)) hM.1 (List.mem_cons_of_mem _ wm16) dX5_undoTidy_119 ?_
              refine z_ref (hM.q 54 rfl) ?_
              refine z_iload_n C rfl dX5_undoTidy_122 ?_
              refine z_iaload C (hM.k 54 rfl) (hM.b' 54 rfl (⟨k, rfl, by show k < 40; omega⟩) (by decide)) dX5_undoTidy_123 ?_
              refine z_int (hM.t 54 rfl (by decide) _) ?_
              refine z_int (x' := D 54 k) ((congrArg _ (nI_clamp (by omega))).trans ((h54 k).trans (if_neg (fun z => by omega)))) ?_
              refine z_iastore C (hM.k 54 rfl) (hM.b' 54 rfl (⟨k, rfl, by show k < 40; omega⟩) (by decide)) dX5_undoTidy_124 ?_
              refine z_memM (hM.eI 54 rfl (by decide) _ _) (fun S124 hM => ?_)
              refine z_inc (1) [_, _, _] C rfl (by decide) (by decide) rfl dX5_undoTidy_125 ?_
              refine z_goto 83 C dX5_undoTidy_128 (by decide) ?_
              have q := ih (k + 1) _ _ (by omega) hM (fun k9 a b c => by rw [dS_ne b]; exact hA k9 a b c) (by rw [dS_ne (by decide)]; exact h67a) (fun i => by rw [dS_no (by decide)]; exact h46 i) (fun i => by
                rw [dS_self, show (nI k).toNatClampNeg = k from nI_clamp (by omega)]
                by_cases z : i = k
                · subst z; rw [up1_self]; exact (if_neg (fun q => c111 (lg_z.mpr ((bJ_shr (by omega)).mpr q.2)))).symm
                · rw [up1_ne z, h54 i]
                  by_cases w : i < k
                  · by_cases w2 : bJ (J u) i = true
                    · rw [if_pos ⟨w, w2⟩, if_pos ⟨by omega, w2⟩]
                    · rw [if_neg (fun q => w2 q.2), if_neg (fun q => w2 q.2)]
                  · rw [if_neg (fun q => w q.1), if_neg (fun q => by omega)])
              rw [nI_succ] at q
              exact q
            · refine z_iload_n C rfl dX5_undoTidy_114 ?_
              refine z_goto 124 C dX5_undoTidy_115 (by decide) ?_
              refine z_iastore C (hM.k 54 rfl) (hM.b' 54 rfl (⟨k, rfl, by show k < 40; omega⟩) (by decide)) dX5_undoTidy_124 ?_
              refine z_memM (hM.eI 54 rfl (by decide) _ _) (fun S124 hM => ?_)
              refine z_inc (1) [_, _, _] C rfl (by decide) (by decide) rfl dX5_undoTidy_125 ?_
              refine z_goto 83 C dX5_undoTidy_128 (by decide) ?_
              have q := ih (k + 1) _ _ (by omega) hM (fun k9 a b c => by rw [dS_ne b]; exact hA k9 a b c) (by rw [dS_ne (by decide)]; exact h67a) (fun i => by rw [dS_no (by decide)]; exact h46 i) (fun i => by
                rw [dS_self, show (nI k).toNatClampNeg = k from nI_clamp (by omega)]
                by_cases z : i = k
                · subst z; rw [up1_self]; exact (if_pos ⟨by omega, (bJ_shr (by omega)).mp (lg_z.mp c111)⟩).symm
                · rw [up1_ne z, h54 i]
                  by_cases w : i < k
                  · by_cases w2 : bJ (J u) i = true
                    · rw [if_pos ⟨w, w2⟩, if_pos ⟨by omega, w2⟩]
                    · rw [if_neg (fun q => w2 q.2), if_neg (fun q => w2 q.2)]
                  · rw [if_neg (fun q => w q.1), if_neg (fun q => by omega)])
              rw [nI_succ] at q
              exact q
      have loop1 : ∀ (m t : Nat) (E : ZD) (S1 : ZM), t + m = 24 → mR E J S1 M r → (∀ k : Nat, k ≠ 46 → k ≠ 67 → E k = D k) → E 67 = up1 (D 67) 0 (nI u) → (∀ i : Nat, E 46 i = if i < t then D 70 (24 * u + i) else D 46 i) → zW X 3 (0 + 0) (0 + 0) S1 49 [some (zr (some M)), some (zi (nI o)), some (zi (nI t))] [] := by
        intro m
        induction m with
        | zero =>
          intro t E S1 ht hM hA h67a h46
          obtain rfl : t = 24 := by omega
          refine z_iload_n C rfl dX5_undoTidy_49 ?_
          refine z_bipush 24 (by decide) C dX5_undoTidy_50 ?_
          refine z_icmp_ge 81 C dX5_undoTidy_52 (by decide) (fun c52 => ?_) (fun c52 => ?_)
          · refine z_iconst 0 (by decide) C dX5_undoTidy_81 ?_
            refine z_istore_n [_, _, _] C (by decide) rfl dX5_undoTidy_82 ?_
            exact loop2 (dR D) 0 E S1 (by omega) hM (fun k a _ c => hA k a c) h67a h46 (fun i => by rw [hA 54 (by decide) (by decide)]; exact (if_neg (fun q => absurd q.1 (Nat.not_lt_zero i))).symm)
          · exact absurd (by decide) c52
        | succ m ih =>
          intro t E S1 ht hM hA h67a h46
          have h67 : E 67 0 = nI u := by rw [h67a, up1_self]
          have idx24u : (24 : Int32) * nI u + nI t = nI (24 * u + t) := by rw [show (24 : Int32) * nI u = nI (24 * u) from pk_mul 24 u, nI_add]
          refine z_iload_n C rfl dX5_undoTidy_49 ?_
          refine z_bipush 24 (by decide) C dX5_undoTidy_50 ?_
          refine z_icmp_ge 81 C dX5_undoTidy_52 (by decide) (fun c52 => ?_) (fun c52 => ?_)
          · exact absurd c52 (n24 (by omega))
          · refine z_aload_n C rfl dX5_undoTidy_55 ?_
            refine zg5_bits C (fun w h => List.mem_cons_of_mem _ (um_wsX50 w h)) hM.1 (List.mem_cons_of_mem _ wm8) dX5_undoTidy_56 ?_
            refine z_ref (hM.q 46 rfl) ?_
            refine z_iload_n C rfl dX5_undoTidy_59 ?_
            refine z_aload_n C rfl dX5_undoTidy_60 ?_
            refine zg5_tidyBits C (fun w h => List.mem_cons_of_mem _ (um_wsX50 w h)) hM.1 (List.mem_cons_of_mem _ wm29) dX5_undoTidy_61 ?_
            refine z_ref (hM.q 70 rfl) ?_
            refine z_bipush 24 (by decide) C dX5_undoTidy_64 ?_
            refine z_aload_n C rfl dX5_undoTidy_66 ?_
            refine zg5_tidied C (fun w h => List.mem_cons_of_mem _ (um_wsX50 w h)) hM.1 (List.mem_cons_of_mem _ wm84) dX5_undoTidy_67 ?_
            refine z_int (x' := nI u) ((hM.i 67 rfl).trans h67) ?_
            refine z_imul C dX5_undoTidy_70 ?_
            refine z_iload_n C rfl dX5_undoTidy_71 ?_
            refine z_iadd C dX5_undoTidy_72 ?_
            refine z_iaload C (hM.k 70 rfl) (hM.b' 70 rfl (⟨24 * u + t, idx24u, by show _ < 384; omega⟩) (by decide)) dX5_undoTidy_73 ?_
            refine z_int (hM.t 70 rfl (by decide) _) ?_
            refine z_int (x' := D 70 (24 * u + t)) (by rw [idx24u, nI_clamp (by omega), hA 70 (by decide) (by decide)]) ?_
            refine z_iastore C (hM.k 46 rfl) (hM.b' 46 rfl (⟨t, rfl, by show t < 24; omega⟩) (by decide)) dX5_undoTidy_74 ?_
            refine z_memM (hM.eI 46 rfl (by decide) _ _) (fun S74 hM => ?_)
            refine z_inc (1) [_, _, _] C rfl (by decide) (by decide) rfl dX5_undoTidy_75 ?_
            refine z_goto 49 C dX5_undoTidy_78 (by decide) ?_
            have q := ih (t + 1) _ _ (by omega) hM (fun k9 a c => by rw [dS_ne a]; exact hA k9 a c) (by rw [dS_ne (by decide)]; exact h67a) (fun i => by
              rw [dS_self, show (nI t).toNatClampNeg = t from nI_clamp (by omega)]
              by_cases z : i = t
              · subst z; rw [up1_self, if_pos (by omega)]
              · rw [up1_ne z, h46 i]
                by_cases w : i < t
                · rw [if_pos w, if_pos (by omega)]
                · rw [if_neg w, if_neg (by omega)])
            rw [nI_succ] at q
            exact q
      refine z_aload_n C rfl dX5_undoTidy_27 ?_
      refine z_dup rfl C dX5_undoTidy_28 ?_
      refine zg5_tidied C (fun w h => List.mem_cons_of_mem _ (um_wsX50 w h)) hM.1 (List.mem_cons_of_mem _ wm84) dX5_undoTidy_29 ?_
      refine z_int (x' := nI (u + 1)) ((hM.i 67 rfl).trans (hU.1.trans (by rw [hud]))) ?_
      refine z_iconst 1 (by decide) C dX5_undoTidy_32 ?_
      refine z_isub C dX5_undoTidy_33 ?_
      refine z_int (nI_pred u) ?_
      refine zp5_tidied C (fun w h => List.mem_cons_of_mem _ (um_wsX50 w h)) hM.1 (List.mem_cons_of_mem _ wm84) dX5_undoTidy_34 ?_
      refine z_memM (hM.sI 67 rfl _) (fun S34 hM => ?_)
      refine z_aload_n C rfl dX5_undoTidy_37 ?_
      refine zg5_tidyOther C (fun w h => List.mem_cons_of_mem _ (um_wsX50 w h)) hM.1 (List.mem_cons_of_mem _ wm28) dX5_undoTidy_38 ?_
      refine z_ref (hM.q 69 rfl) ?_
      refine z_aload_n C rfl dX5_undoTidy_41 ?_
      refine zg5_tidied C (fun w h => List.mem_cons_of_mem _ (um_wsX50 w h)) hM.1 (List.mem_cons_of_mem _ wm84) dX5_undoTidy_42 ?_
      refine z_int (x' := nI u) ((hM.i 67 rfl).trans ((congrFun dS_self 0).trans up1_self)) ?_
      refine z_iaload C (hM.k 69 rfl) (hM.b' 69 rfl (⟨u, rfl, by show u < 16; omega⟩) (by decide)) dX5_undoTidy_45 ?_
      refine z_int (hM.t 69 rfl (by decide) _) ?_
      refine z_int (x' := nI o) ((dS_no (by decide) _).trans ((congrArg _ (nI_clamp (by omega))).trans ho)) ?_
      refine z_istore_n [_, _, _] C (by decide) rfl dX5_undoTidy_46 ?_
      refine z_iconst 0 (by decide) C dX5_undoTidy_47 ?_
      refine z_istore_n [_, _, _] C (by decide) rfl dX5_undoTidy_48 ?_
      exact loop1 24 0 _ _ rfl hM (fun k _ c => dS_ne c) dS_self (fun i => (dS_no (by decide) i).trans (if_neg (Nat.not_lt_zero i)).symm)
    · exact h19.elim
  · refine z_iconst 1 (by decide) C dX5_undoTidy_13 ?_
    refine z_goto 18 C dX5_undoTidy_14 (by decide) ?_
    refine z_iconst 1 (by decide) C dX5_undoTidy_18 ?_
    refine z_callM 2 [zi (1), zi 1] C rfl (M_fails1 hl0 hM h39 1 1 (by decide)) rfl (zgoodV LWm_good wm64 wm65 wm66 wm37 wm67) rfl rfl rfl (by decide +kernel) rfl (by rw [hR]; exact ⟨Nat.le_of_ble_eq_true rfl, Nat.le_of_ble_eq_true rfl⟩) hM.1 (by rw [hR]; exact ⟨Nat.le_of_ble_eq_true rfl, Nat.le_of_ble_eq_true rfl⟩) (Nat.le_of_ble_eq_true rfl) dX5_undoTidy_19 (fun v19 S19 h19 => ?_) (fun E19 S19 h19 => ?_)
    · obtain ⟨rfl, hM⟩ := h19
      refine z_if_eq 27 C dX5_undoTidy_22 (by decide) (fun c22 => absurd c22 (by decide)) (fun _ => ?_)
      refine z_iconst 0 (by decide) C dX5_undoTidy_25 ?_
      refine z_ireturn C F (Nat.le_of_ble_eq_true rfl) (Nat.le_of_ble_eq_true rfl) dX5_undoTidy_26 ?_
      exact Or.inr ⟨nI_inj (by have := hU.2.1; omega) (by omega) c10, rfl, hM⟩
    · exact h19.elim
theorem up1_up1 {α : Type} {f : Nat → α} {a : Nat} {v w : α} : up1 (up1 f a v) a w = up1 f a w := by
  funext i
  by_cases q : i = a
  · subst q; rw [up1_self, up1_self]
  · rw [up1_ne q, up1_ne q, up1_ne q]
set_option maxRecDepth 100000 in
set_option maxHeartbeats 800000 in
theorem M_tidy {l : Launch} (hl0 : l.stackTraces = false) {D : ZD} {J : Nat → Int64} {S : ZM} {M : Nat} {r : Nat → Nat} (hM0 : iM D J S M r) (h39 : D 39 0 = 0) (hC : wC D) (hQ3 : nmOk D) (hW : wfM D) (hU : udOk D) (hZ46 : ∀ t : Nat, t < 24 → dT D ≤ t → D 46 t = 0) (x y : Int32) (hC9 : hasTg D x → hasTg D y → ¬ x = y → nI (lvD D (ix x) (ix y)) ≤ 1 → wC (opTidy D (ix x) (ix y))) : zMet l yX5_tidy (Cond.code yX5_tidy cX5_tidy 5 (some .int) :: LWm) ({ frames := 347, cells := 0, slots := 0, locals := 8868 } : Room) 0 0 [zr (some M), zi x, zi y] S (zPo (fun v S' => (hasTg D x ∧ hasTg D y ∧ ¬ x = y ∧ nI (lvD D (ix x) (ix y)) ≤ 1 ∧ v = some (zi (nI (cnF (fun j => prD D j && hasB (D 46 j) (nI (ix y))) 24))) ∧ okM (up1 J (dU D) (jF D y (dR D))) S' M r (chgD (opTidy D (ix x) (ix y)))) ∨ (¬ (hasTg D x ∧ hasTg D y) ∧ v = some (zi 0) ∧ flM J S' M r D 1) ∨ (hasTg D x ∧ hasTg D y ∧ x = y ∧ v = some (zi 0) ∧ flM J S' M r D 2) ∨ (hasTg D x ∧ hasTg D y ∧ ¬ x = y ∧ ¬ nI (lvD D (ix x) (ix y)) ≤ 1 ∧ v = some (zi 0) ∧ flM J S' M r D 3)) (fun _ _ => False)) := by
  refine zMet.of' [some (zr (some M)), some (zi x), some (zi y), none, none] hl0 (by decide) rfl (Nat.le_of_ble_eq_true rfl) rfl ?_
  intro X C N hR hN0 hX F
  subst hX
  have hN := hC.1
  obtain ⟨w0, hM⟩ := id hM0
  refine z_aload_n C rfl dX5_tidy_0 ?_
  refine z_iconst 0 (by decide) C dX5_tidy_1 ?_
  refine zp5_thrown C (fun w h => List.mem_cons_of_mem _ (um_wsX50 w h)) hM.1 (List.mem_cons_of_mem _ wm33) dX5_tidy_2 ?_
  have hM := hM0.th h39
  refine z_aload_n C rfl dX5_tidy_5 ?_
  refine z_aload_n C rfl dX5_tidy_6 ?_
  refine z_iload_n C rfl dX5_tidy_7 ?_
  refine z_callM 1 [zi x] C rfl (M_noTag hl0 hM hN x) rfl (zgoodV LWm_good wm80 wm81 wm82 wm37 wm83) rfl rfl rfl (by decide +kernel) rfl (by rw [hR]; exact ⟨Nat.le_of_ble_eq_true rfl, Nat.le_of_ble_eq_true rfl⟩) hM.1 (by rw [hR]; exact ⟨Nat.le_of_ble_eq_true rfl, Nat.le_of_ble_eq_true rfl⟩) (Nat.le_of_ble_eq_true rfl) dX5_tidy_8 (fun v8 S8 h8 => ?_) (fun E8 S8 h8 => ?_)
  · obtain ⟨b8, rfl, hb8, q8⟩ := h8
    subst S8
    cases b8 with
    | false =>
      have y8 := hb8.mp rfl
      refine z_if_ne 22 C dX5_tidy_11 (by decide) (fun c11 => absurd c11 (by decide)) (fun _ => ?_)
      refine z_aload_n C rfl dX5_tidy_14 ?_
      refine z_iload_n C rfl dX5_tidy_15 ?_
      refine z_callM 1 [zi y] C rfl (M_noTag hl0 hM hN y) rfl (zgoodV LWm_good wm80 wm81 wm82 wm37 wm83) rfl rfl rfl (by decide +kernel) rfl (by rw [hR]; exact ⟨Nat.le_of_ble_eq_true rfl, Nat.le_of_ble_eq_true rfl⟩) hM.1 (by rw [hR]; exact ⟨Nat.le_of_ble_eq_true rfl, Nat.le_of_ble_eq_true rfl⟩) (Nat.le_of_ble_eq_true rfl) dX5_tidy_16 (fun v16 S16 h16 => ?_) (fun E16 S16 h16 => ?_)
      · obtain ⟨b16, rfl, hb16, q16⟩ := h16
        subst S16
        cases b16 with
        | false =>
          have y16 := hb16.mp rfl
          refine z_if_eq 26 C dX5_tidy_19 (by decide) (fun _ => ?_) (fun c19 => absurd c19 (by decide))
          refine z_iconst 0 (by decide) C dX5_tidy_26 ?_
          refine z_iconst 1 (by decide) C dX5_tidy_27 ?_
          refine z_callM 2 [zi (0), zi 1] C rfl (M_fails0 hl0 hM h39 0 1 (by decide)) rfl (zgoodV LWm_good wm64 wm65 wm66 wm37 wm67) rfl rfl rfl (by decide +kernel) rfl (by rw [hR]; exact ⟨Nat.le_of_ble_eq_true rfl, Nat.le_of_ble_eq_true rfl⟩) hM.1 (by rw [hR]; exact ⟨Nat.le_of_ble_eq_true rfl, Nat.le_of_ble_eq_true rfl⟩) (Nat.le_of_ble_eq_true rfl) dX5_tidy_28 (fun v28 S28 h28 => ?_) (fun E28 S28 h28 => ?_)
          · obtain ⟨rfl, q28⟩ := h28
            subst S28
            refine z_if_ne 75 C dX5_tidy_31 (by decide) (fun c31 => absurd c31 (by decide)) (fun _ => ?_)
            refine z_aload_n C rfl dX5_tidy_34 ?_
            refine z_iload_n C rfl dX5_tidy_35 ?_
            refine z_iload_n C rfl dX5_tidy_36 ?_
            refine z_icmp_ne 44 C dX5_tidy_37 (by decide) (fun c37 => ?_) (fun c37 => ?_)
            · refine z_iconst 0 (by decide) C dX5_tidy_44 ?_
              refine z_iconst 2 (by decide) C dX5_tidy_45 ?_
              refine z_callM 2 [zi (0), zi 2] C rfl (M_fails0 hl0 hM h39 0 2 (by decide)) rfl (zgoodV LWm_good wm64 wm65 wm66 wm37 wm67) rfl rfl rfl (by decide +kernel) rfl (by rw [hR]; exact ⟨Nat.le_of_ble_eq_true rfl, Nat.le_of_ble_eq_true rfl⟩) hM.1 (by rw [hR]; exact ⟨Nat.le_of_ble_eq_true rfl, Nat.le_of_ble_eq_true rfl⟩) (Nat.le_of_ble_eq_true rfl) dX5_tidy_46 (fun v46 S46 h46 => ?_) (fun E46 S46 h46 => ?_)
              · obtain ⟨rfl, q46⟩ := h46
                subst S46
                refine z_if_ne 75 C dX5_tidy_49 (by decide) (fun c49 => absurd c49 (by decide)) (fun _ => ?_)
                refine z_aload_n C rfl dX5_tidy_52 ?_
                refine z_aload_n C rfl dX5_tidy_53 ?_
                refine z_iload_n C rfl dX5_tidy_54 ?_
                refine z_iload_n C rfl dX5_tidy_55 ?_
                refine z_callM 2 [zi x, zi y] C rfl (M_distX hl0 hM.tb hQ3 (x := x) (y := y) y8.d.2.2.1 y16.d.2.2.1 y8.d.1 y16.d.1) rfl (zgoodV LWm_good wm91 wm92 wm93 wm37 wm94) rfl rfl rfl (by decide +kernel) rfl (by rw [hR]; exact ⟨Nat.le_of_ble_eq_true rfl, Nat.le_of_ble_eq_true rfl⟩) hM.1 (by rw [hR]; exact ⟨Nat.le_of_ble_eq_true rfl, Nat.le_of_ble_eq_true rfl⟩) (Nat.le_of_ble_eq_true rfl) dX5_tidy_56 (fun v56 S56 h56 => ?_) (fun E56 S56 h56 => ?_)
                · obtain ⟨rfl, T56, hM⟩ := h56
                  have h39a := h39
                  have h39 : (dS D 72 T56) 39 0 = 0 := h39a
                  refine z_iconst 1 (by decide) C dX5_tidy_59 ?_
                  refine z_icmp_le 67 C dX5_tidy_60 (by decide) (fun c60 => ?_) (fun c60 => ?_)
                  · refine z_iconst 0 (by decide) C dX5_tidy_67 ?_
                    refine z_iconst 3 (by decide) C dX5_tidy_68 ?_
                    refine z_callM 2 [zi (0), zi 3] C rfl (M_fails0 hl0 hM h39 0 3 (by decide)) rfl (zgoodV LWm_good wm64 wm65 wm66 wm37 wm67) rfl rfl rfl (by decide +kernel) rfl (by rw [hR]; exact ⟨Nat.le_of_ble_eq_true rfl, Nat.le_of_ble_eq_true rfl⟩) hM.1 (by rw [hR]; exact ⟨Nat.le_of_ble_eq_true rfl, Nat.le_of_ble_eq_true rfl⟩) (Nat.le_of_ble_eq_true rfl) dX5_tidy_69 (fun v69 S69 h69 => ?_) (fun E69 S69 h69 => ?_)
                    · obtain ⟨rfl, q69⟩ := h69
                      subst S69
                      refine z_if_eq 77 C dX5_tidy_72 (by decide) (fun _ => ?_) (fun c72 => absurd c72 (by decide))
                      obtain ⟨x1, x2, x3, x4⟩ := y8.d
                      obtain ⟨y1, y2, y3, y4⟩ := y16.d
                      have hR40 : dR D ≤ 40 := hN.2.2.1.2
                      have after : ∀ (E : ZD) (S1 : ZM) (w : Option ZV), mR E (up1 J (dU D) (jF D y (dR D))) S1 M r → (∀ k : Nat, k ≠ 46 → k ≠ 54 → k ≠ 68 → k ≠ 69 → k ≠ 70 → k ≠ 72 → E k = D k) → E 68 = up1 (D 68) (dU D) x → E 69 = up1 (D 69) (dU D) y → (∀ i : Nat, E 70 i = if 24 * dU D ≤ i ∧ i < 24 * dU D + 24 then D 46 (i - 24 * dU D) else D 70 i) → (∀ i : Nat, E 46 i = if i < 24 then mvD D (ix x) (ix y) i else D 46 i) → (∀ i : Nat, E 54 i = if i < dR D ∧ D 53 i = 0 ∧ D 54 i = y then x else D 54 i) → zW X 5 (0 + 0 + 0 + 0 + 0 + 0 + 0) (0 + 0 + 0 + 0 + 0 + 0 + 0) S1 267 [some (zr (some M)), some (zi x), some (zi y), some (zi (nI (cnF (fun j => prD D j && hasB (D 46 j) (nI (ix y))) 24))), w] [] := by
                        intro E S1 w hM hA h68 h69 h70 h46 h54
                        refine z_aload_n C rfl dX5_tidy_267 ?_
                        refine zg5_isGone C (fun w h => List.mem_cons_of_mem _ (um_wsX50 w h)) hM.1 (List.mem_cons_of_mem _ wm14) dX5_tidy_268 ?_
                        refine z_ref (hM.q 51 rfl) ?_
                        refine z_iload_n C rfl dX5_tidy_271 ?_
                        refine z_iconst 1 (by decide) C dX5_tidy_272 ?_
                        refine z_zastore C (hM.k 51 rfl) (hM.b' 51 rfl (y16.b) (by decide)) dX5_tidy_273 ?_
                        refine z_memM (hM.eI 51 rfl (by decide) _ _) (fun S273 hM => ?_)
                        refine z_aload_n C rfl dX5_tidy_274 ?_
                        refine z_dup rfl C dX5_tidy_275 ?_
                        refine zg5_tidied C (fun w h => List.mem_cons_of_mem _ (um_wsX50 w h)) hM.1 (List.mem_cons_of_mem _ wm84) dX5_tidy_276 ?_
                        refine z_int (x' := nI (dU D)) ((hM.i 67 rfl).trans ((dS_no (by decide) 0).trans ((congrFun (hA 67 (by decide) (by decide) (by decide) (by decide) (by decide) (by decide)) 0).trans hU.1))) ?_
                        refine z_iconst 1 (by decide) C dX5_tidy_279 ?_
                        refine z_iadd C dX5_tidy_280 ?_
                        refine zp5_tidied C (fun w h => List.mem_cons_of_mem _ (um_wsX50 w h)) hM.1 (List.mem_cons_of_mem _ wm84) dX5_tidy_281 ?_
                        refine z_memM (hM.sI 67 rfl _) (fun S281 hM => ?_)
                        obtain ⟨E9, hE9⟩ : ∃ z : ZD, z = dS (dS E 51 (up1 (E 51) y.toNatClampNeg (vp_nar .boolean 1))) 67 (up1 (dS E 51 (up1 (E 51) y.toNatClampNeg (vp_nar .boolean 1)) 67) 0 (nI (dU D) + 1)) := ⟨_, rfl⟩
                        rw [← hE9] at hM
                        have hEq : ∀ k : Nat, k ≠ 72 → E9 k = opTidy D (ix x) (ix y) k := fun k q72 => by
                          rw [hE9]
                          funext i
                          unfold opTidy
                          rw [← x3, ← y3]
                          by_cases q67 : k = 67
                          · subst q67
                            rw [dS_self, if_neg (by decide), if_neg (by decide), if_neg (by decide), if_pos rfl, dS_ne (by decide), hA 67 (by decide) (by decide) (by decide) (by decide) (by decide) (by decide)]
                            by_cases z : i = 0
                            · subst z; rw [up1_self, if_pos rfl, nI_succ]
                            · rw [up1_ne z, if_neg z]
                          · rw [dS_ne q67]
                            by_cases q51 : k = 51
                            · subst q51
                              rw [dS_self, if_neg (by decide), if_pos rfl, hA 51 (by decide) (by decide) (by decide) (by decide) (by decide) (by decide)]
                              by_cases z : i = ix y
                              · rw [if_pos z, z, up1_self]; decide
                              · rw [up1_ne z, if_neg z]
                            · rw [dS_ne q51]
                              by_cases q46 : k = 46
                              · subst q46; rw [if_pos rfl]; exact h46 i
                              · rw [if_neg q46, if_neg q51]
                                by_cases q54 : k = 54
                                · subst q54; rw [if_pos rfl]; exact h54 i
                                · rw [if_neg q54, if_neg q67]
                                  by_cases q68 : k = 68
                                  · subst q68
                                    rw [if_pos rfl, h68]
                                    by_cases z : i = dU D
                                    · subst z; rw [up1_self, if_pos rfl]
                                    · rw [up1_ne z, if_neg z]
                                  · rw [if_neg q68]
                                    by_cases q69 : k = 69
                                    · subst q69
                                      rw [if_pos rfl, h69]
                                      by_cases z : i = dU D
                                      · subst z; rw [up1_self, if_pos rfl]
                                      · rw [up1_ne z, if_neg z]
                                    · rw [if_neg q69]
                                      by_cases q70 : k = 70
                                      · subst q70; rw [if_pos rfl]; exact h70 i
                                      · rw [if_neg q70, hA k q46 q54 q68 q69 q70 q72]
                        have hEJ : eqJ E9 (opTidy D (ix x) (ix y)) := fun k hk => hEq k (jnk_no hk).2.2
                        have h39e : E9 39 0 = 0 := by rw [hEq 39 (by decide)]; exact h39a
                        refine z_aload_n C rfl dX5_tidy_284 ?_
                        refine z_callM 0 [] C rfl (M_changes hl0 hM ((wC_of hEJ.core).mpr (hC9 y8 y16 c37 c60))) rfl (zgoodV LWm_good wm68 wm69 wm70 wm37 wm71) rfl rfl rfl (by decide +kernel) rfl (by rw [hR]; exact ⟨Nat.le_of_ble_eq_true rfl, Nat.le_of_ble_eq_true rfl⟩) hM.1 (by rw [hR]; exact ⟨Nat.le_of_ble_eq_true rfl, Nat.le_of_ble_eq_true rfl⟩) (Nat.le_of_ble_eq_true rfl) dX5_tidy_285 (fun v285 S285 h285 => ?_) (fun E285 S285 h285 => ?_)
                        · obtain ⟨rfl, D2, hM, e39, eJ, eM⟩ := h285
                          refine z_iload_n C rfl dX5_tidy_288 ?_
                          refine z_ireturn C F (Nat.le_of_ble_eq_true rfl) (Nat.le_of_ble_eq_true rfl) dX5_tidy_289 ?_
                          exact Or.inl ⟨y8, y16, c37, c60, rfl, D2, hM, (congrFun e39 0).trans h39e, eJ.trans (eqJ_chg hEJ), eM⟩
                        · exact h285.elim
                      have loop2 : ∀ (m k : Nat) (E : ZD) (S1 : ZM), k + m = dR D → mR E (up1 J (dU D) (jF D y k)) S1 M r → (∀ k : Nat, k ≠ 46 → k ≠ 54 → k ≠ 68 → k ≠ 69 → k ≠ 70 → k ≠ 72 → E k = D k) → E 68 = up1 (D 68) (dU D) x → E 69 = up1 (D 69) (dU D) y → (∀ i : Nat, E 70 i = if 24 * dU D ≤ i ∧ i < 24 * dU D + 24 then D 46 (i - 24 * dU D) else D 70 i) → (∀ i : Nat, E 46 i = if i < 24 then mvD D (ix x) (ix y) i else D 46 i) → (∀ i : Nat, E 54 i = if i < k ∧ D 53 i = 0 ∧ D 54 i = y then x else D 54 i) → zW X 5 (0 + 0 + 0 + 0 + 0 + 0 + 0) (0 + 0 + 0 + 0 + 0 + 0 + 0) S1 207 [some (zr (some M)), some (zi x), some (zi y), some (zi (nI (cnF (fun j => prD D j && hasB (D 46 j) (nI (ix y))) 24))), some (zi (nI k))] [] := by
                        intro m
                        induction m with
                        | zero =>
                          intro k E S1 hk hM hA h68 h69 h70 h46 h54
                          obtain rfl : k = dR D := by omega
                          refine z_iload C rfl dX5_tidy_207 ?_
                          refine z_aload_n C rfl dX5_tidy_209 ?_
                          refine zg5_rules C (fun w h => List.mem_cons_of_mem _ (um_wsX50 w h)) hM.1 (List.mem_cons_of_mem _ wm40) dX5_tidy_210 ?_
                          refine z_int (x' := nI (dR D)) ((hM.i 52 rfl).trans ((congrFun (hA 52 (by decide) (by decide) (by decide) (by decide) (by decide) (by decide)) 0).trans hN.2.2.1.1)) ?_
                          refine z_icmp_ge 267 C dX5_tidy_213 (by decide) (fun c213 => ?_) (fun c213 => ?_)
                          · exact after E S1 _ hM hA h68 h69 h70 h46 h54
                          · exact absurd (Int32.le_refl _) c213
                        | succ m ih =>
                          intro k E S1 hk hM hA h68 h69 h70 h46 h54
                          have hkd : k < dR D := by omega
                          refine z_iload C rfl dX5_tidy_207 ?_
                          refine z_aload_n C rfl dX5_tidy_209 ?_
                          refine zg5_rules C (fun w h => List.mem_cons_of_mem _ (um_wsX50 w h)) hM.1 (List.mem_cons_of_mem _ wm40) dX5_tidy_210 ?_
                          refine z_int (x' := nI (dR D)) ((hM.i 52 rfl).trans ((congrFun (hA 52 (by decide) (by decide) (by decide) (by decide) (by decide) (by decide)) 0).trans hN.2.2.1.1)) ?_
                          refine z_icmp_ge 267 C dX5_tidy_213 (by decide) (fun c213 => ?_) (fun c213 => ?_)
                          · exact absurd c213 (n_ge hkd (by omega))
                          · refine z_aload_n C rfl dX5_tidy_216 ?_
                            refine zg5_kind C (fun w h => List.mem_cons_of_mem _ (um_wsX50 w h)) hM.1 (List.mem_cons_of_mem _ wm15) dX5_tidy_217 ?_
                            refine z_ref (hM.q 53 rfl) ?_
                            refine z_iload C rfl dX5_tidy_220 ?_
                            refine z_iaload C (hM.k 53 rfl) (hM.b' 53 rfl (⟨k, rfl, by show k < 40; omega⟩) (by decide)) dX5_tidy_222 ?_
                            refine z_int (hM.t 53 rfl (by decide) _) ?_
                            refine z_int (x' := D 53 k) ((congrFun (hA 53 (by decide) (by decide) (by decide) (by decide) (by decide) (by decide)) _).trans (congrArg _ (nI_clamp (by omega)))) ?_
                            refine z_if_ne 261 C dX5_tidy_223 (by decide) (fun c223 => ?_) (fun c223 => ?_)
                            · refine z_inc (1) [_, _, _, _, _] C rfl (by decide) (by decide) rfl dX5_tidy_261 ?_
                              refine z_goto 207 C dX5_tidy_264 (by decide) ?_
                              have hno : ¬ (D 53 k = 0 ∧ D 54 k = y) := fun q => c223 q.1
                              have q := ih (k + 1) E S1 (by omega) (by rw [show jF D y (k + 1) = jF D y k from if_neg hno]; exact hM) hA h68 h69 h70 h46 (fun i => by
                                rw [h54 i]
                                by_cases z : i = k
                                · subst z; rw [if_neg (fun q => by omega), if_neg (fun q => hno q.2)]
                                · by_cases w : i < k ∧ D 53 i = 0 ∧ D 54 i = y
                                  · rw [if_pos w, if_pos ⟨by omega, w.2⟩]
                                  · rw [if_neg w, if_neg (fun q => w ⟨by omega, q.2⟩)])
                              rw [nI_succ] at q
                              exact q
                            · refine z_aload_n C rfl dX5_tidy_226 ?_
                              refine zg5_one C (fun w h => List.mem_cons_of_mem _ (um_wsX50 w h)) hM.1 (List.mem_cons_of_mem _ wm16) dX5_tidy_227 ?_
                              refine z_ref (hM.q 54 rfl) ?_
                              refine z_iload C rfl dX5_tidy_230 ?_
                              refine z_iaload C (hM.k 54 rfl) (hM.b' 54 rfl (⟨k, rfl, by show k < 40; omega⟩) (by decide)) dX5_tidy_232 ?_
                              refine z_int (hM.t 54 rfl (by decide) _) ?_
                              refine z_int (x' := D 54 k) ((congrArg _ (nI_clamp (by omega))).trans ((h54 k).trans (if_neg (fun z => by omega)))) ?_
                              refine z_iload_n C rfl dX5_tidy_233 ?_
                              refine z_icmp_ne 261 C dX5_tidy_234 (by decide) (fun c234 => ?_) (fun c234 => ?_)
                              · refine z_inc (1) [_, _, _, _, _] C rfl (by decide) (by decide) rfl dX5_tidy_261 ?_
                                refine z_goto 207 C dX5_tidy_264 (by decide) ?_
                                have hno : ¬ (D 53 k = 0 ∧ D 54 k = y) := fun q => c234 q.2
                                have q := ih (k + 1) E S1 (by omega) (by rw [show jF D y (k + 1) = jF D y k from if_neg hno]; exact hM) hA h68 h69 h70 h46 (fun i => by
                                  rw [h54 i]
                                  by_cases z : i = k
                                  · subst z; rw [if_neg (fun q => by omega), if_neg (fun q => hno q.2)]
                                  · by_cases w : i < k ∧ D 53 i = 0 ∧ D 54 i = y
                                    · rw [if_pos w, if_pos ⟨by omega, w.2⟩]
                                    · rw [if_neg w, if_neg (fun q => w ⟨by omega, q.2⟩)])
                                rw [nI_succ] at q
                                exact q
                              · refine z_aload_n C rfl dX5_tidy_237 ?_
                                refine zg5_one C (fun w h => List.mem_cons_of_mem _ (um_wsX50 w h)) hM.1 (List.mem_cons_of_mem _ wm16) dX5_tidy_238 ?_
                                refine z_ref (hM.q 54 rfl) ?_
                                refine z_iload C rfl dX5_tidy_241 ?_
                                refine z_iload_n C rfl dX5_tidy_243 ?_
                                refine z_iastore C (hM.k 54 rfl) (hM.b' 54 rfl (⟨k, rfl, by show k < 40; omega⟩) (by decide)) dX5_tidy_244 ?_
                                refine z_memM (hM.eI 54 rfl (by decide) _ _) (fun S244 hM => ?_)
                                refine z_aload_n C rfl dX5_tidy_245 ?_
                                refine zg5_tidyRules C (fun w h => List.mem_cons_of_mem _ (um_wsX50 w h)) hM.1 (List.mem_cons_of_mem _ wm31) dX5_tidy_246 ?_
                                refine z_ref (hM.q 71 rfl) ?_
                                refine z_aload_n C rfl dX5_tidy_249 ?_
                                refine zg5_tidied C (fun w h => List.mem_cons_of_mem _ (um_wsX50 w h)) hM.1 (List.mem_cons_of_mem _ wm84) dX5_tidy_250 ?_
                                refine z_int (x' := nI (dU D)) ((hM.i 67 rfl).trans ((dS_no (by decide) 0).trans ((congrFun (hA 67 (by decide) (by decide) (by decide) (by decide) (by decide) (by decide)) 0).trans hU.1))) ?_
                                refine z_dup2 rfl rfl C dX5_tidy_253 ?_
                                refine z_laload C (hM.k 71 rfl) (hM.b' 71 rfl (⟨dU D, rfl, by show _ < 16; have := hU.2.1; omega⟩) (by decide)) dX5_tidy_254 ?_
                                refine z_lng (hM.tj _) ?_
                                refine z_lng (x' := jF D y k) (by rw [show (nI (dU D)).toNatClampNeg = dU D from nI_clamp (by have := hU.2.1; omega)]; exact up1_self) ?_
                                refine z_lconst 1 (by decide) C dX5_tidy_255 ?_
                                refine z_iload C rfl dX5_tidy_256 ?_
                                refine z_lshl C dX5_tidy_258 ?_
                                refine z_lor C dX5_tidy_259 ?_
                                refine z_lastore C (hM.k 71 rfl) (hM.b' 71 rfl (⟨dU D, rfl, by show _ < 16; have := hU.2.1; omega⟩) (by decide)) dX5_tidy_260 ?_
                                refine z_memM (hM.eJ _ _) (fun S260 hM => ?_)
                                rw [show (nI (dU D)).toNatClampNeg = dU D from nI_clamp (by have := hU.2.1; omega), up1_up1] at hM
                                refine z_inc (1) [_, _, _, _, _] C rfl (by decide) (by decide) rfl dX5_tidy_261 ?_
                                refine z_goto 207 C dX5_tidy_264 (by decide) ?_
                                have hyes : D 53 k = 0 ∧ D 54 k = y := ⟨c223, c234⟩
                                have q := ih (k + 1) _ _ (by omega) (by rw [show jF D y (k + 1) = jF D y k ||| (1 <<< ((nI k).toInt64 &&& 63)) from if_pos hyes]; exact hM) (fun k9 a b c d e g => by rw [dS_ne b]; exact hA k9 a b c d e g) ((dS_ne (by decide)).trans h68) ((dS_ne (by decide)).trans h69) (fun i => (dS_no (by decide) i).trans (h70 i)) (fun i => (dS_no (by decide) i).trans (h46 i)) (fun i => by
                                  rw [dS_self, show (nI k).toNatClampNeg = k from nI_clamp (by omega)]
                                  by_cases z : i = k
                                  · subst z; rw [up1_self, if_pos ⟨by omega, hyes⟩]
                                  · rw [up1_ne z, h54 i]
                                    by_cases w : i < k ∧ D 53 i = 0 ∧ D 54 i = y
                                    · rw [if_pos w, if_pos ⟨by omega, w.2⟩]
                                    · rw [if_neg w, if_neg (fun q => w ⟨by omega, q.2⟩)])
                                rw [nI_succ] at q
                                exact q
                      have loop1 : ∀ (m t : Nat) (E : ZD) (S1 : ZM), t + m = 24 → mR E (up1 J (dU D) 0) S1 M r → (∀ k : Nat, k ≠ 46 → k ≠ 68 → k ≠ 69 → k ≠ 70 → k ≠ 72 → E k = D k) → E 68 = up1 (D 68) (dU D) x → E 69 = up1 (D 69) (dU D) y → (∀ i : Nat, E 70 i = if 24 * dU D ≤ i ∧ i < 24 * dU D + t then D 46 (i - 24 * dU D) else D 70 i) → (∀ i : Nat, E 46 i = if i < t then mvD D (ix x) (ix y) i else D 46 i) → zW X 5 (0 + 0 + 0 + 0 + 0 + 0 + 0) (0 + 0 + 0 + 0 + 0 + 0 + 0) S1 112 [some (zr (some M)), some (zi x), some (zi y), some (zi (nI (cnF (fun j => prD D j && hasB (D 46 j) (nI (ix y))) t))), some (zi (nI t))] [] := by
                        intro m
                        induction m with
                        | zero =>
                          intro t E S1 ht hM hA h68 h69 h70 h46
                          obtain rfl : t = 24 := by omega
                          refine z_iload C rfl dX5_tidy_112 ?_
                          refine z_bipush 24 (by decide) C dX5_tidy_114 ?_
                          refine z_icmp_ge 204 C dX5_tidy_116 (by decide) (fun c116 => ?_) (fun c116 => ?_)
                          · refine z_iconst 0 (by decide) C dX5_tidy_204 ?_
                            refine z_istore [_, _, _, _, _] C (by decide) rfl dX5_tidy_205 ?_
                            exact loop2 (dR D) 0 E S1 (by omega) hM (fun k a _ c d e g => hA k a c d e g) h68 h69 h70 h46 (fun i => by rw [hA 54 (by decide) (by decide) (by decide) (by decide) (by decide)]; exact (if_neg (fun q => absurd q.1 (Nat.not_lt_zero i))).symm)
                          · exact absurd (by decide) c116
                        | succ m ih =>
                          intro t E S1 ht hM hA h68 h69 h70 h46
                          have idx24u : (24 : Int32) * nI (dU D) + nI t = nI (24 * dU D + t) := by rw [show (24 : Int32) * nI (dU D) = nI (24 * dU D) from pk_mul 24 _, nI_add]
                          have hix : ((24 : Int32) * nI (dU D) + nI t).toNatClampNeg = 24 * dU D + t := by rw [idx24u]; exact nI_clamp (by have := hU.2.1; omega)
                          refine z_iload C rfl dX5_tidy_112 ?_
                          refine z_bipush 24 (by decide) C dX5_tidy_114 ?_
                          refine z_icmp_ge 204 C dX5_tidy_116 (by decide) (fun c116 => ?_) (fun c116 => ?_)
                          · exact absurd c116 (n24 (by omega))
                          · refine z_aload_n C rfl dX5_tidy_119 ?_
                            refine zg5_tidyBits C (fun w h => List.mem_cons_of_mem _ (um_wsX50 w h)) hM.1 (List.mem_cons_of_mem _ wm29) dX5_tidy_120 ?_
                            refine z_ref (hM.q 70 rfl) ?_
                            refine z_bipush 24 (by decide) C dX5_tidy_123 ?_
                            refine z_aload_n C rfl dX5_tidy_125 ?_
                            refine zg5_tidied C (fun w h => List.mem_cons_of_mem _ (um_wsX50 w h)) hM.1 (List.mem_cons_of_mem _ wm84) dX5_tidy_126 ?_
                            refine z_int (x' := nI (dU D)) ((hM.i 67 rfl).trans ((congrFun (hA 67 (by decide) (by decide) (by decide) (by decide) (by decide)) 0).trans hU.1)) ?_
                            refine z_imul C dX5_tidy_129 ?_
                            refine z_iload C rfl dX5_tidy_130 ?_
                            refine z_iadd C dX5_tidy_132 ?_
                            refine z_aload_n C rfl dX5_tidy_133 ?_
                            refine zg5_bits C (fun w h => List.mem_cons_of_mem _ (um_wsX50 w h)) hM.1 (List.mem_cons_of_mem _ wm8) dX5_tidy_134 ?_
                            refine z_ref (hM.q 46 rfl) ?_
                            refine z_iload C rfl dX5_tidy_137 ?_
                            refine z_iaload C (hM.k 46 rfl) (hM.b' 46 rfl (⟨t, rfl, by show t < 24; omega⟩) (by decide)) dX5_tidy_139 ?_
                            refine z_int (hM.t 46 rfl (by decide) _) ?_
                            refine z_int (x' := D 46 t) ((congrArg _ (nI_clamp (by omega))).trans ((h46 t).trans (if_neg (Nat.lt_irrefl t)))) ?_
                            refine z_iastore C (hM.k 70 rfl) (hM.b' 70 rfl (⟨24 * dU D + t, idx24u, by show _ < 384; have := hU.2.1; omega⟩) (by decide)) dX5_tidy_140 ?_
                            refine z_memM (hM.eI 70 rfl (by decide) _ _) (fun S140 hM => ?_)
                            refine z_aload_n C rfl dX5_tidy_141 ?_
                            refine zg5_bits C (fun w h => List.mem_cons_of_mem _ (um_wsX50 w h)) hM.1 (List.mem_cons_of_mem _ wm8) dX5_tidy_142 ?_
                            refine z_ref (hM.q 46 rfl) ?_
                            refine z_iload C rfl dX5_tidy_145 ?_
                            refine z_iaload C (hM.k 46 rfl) (hM.b' 46 rfl (⟨t, rfl, by show t < 24; omega⟩) (by decide)) dX5_tidy_147 ?_
                            refine z_int (hM.t 46 rfl (by decide) _) ?_
                            refine z_int (x' := D 46 t) ((dS_no (by decide) _).trans ((congrArg _ (nI_clamp (by omega))).trans ((h46 t).trans (if_neg (Nat.lt_irrefl t))))) ?_
                            refine z_iload_n C rfl dX5_tidy_148 ?_
                            refine z_ishr C dX5_tidy_149 ?_
                            refine z_iconst 1 (by decide) C dX5_tidy_150 ?_
                            refine z_iand C dX5_tidy_151 ?_
                            refine z_iconst 1 (by decide) C dX5_tidy_152 ?_
                            refine z_icmp_ne 198 C dX5_tidy_153 (by decide) (fun c153 => ?_) (fun c153 => ?_)
                            · refine z_inc (1) [_, _, _, _, _] C rfl (by decide) (by decide) rfl dX5_tidy_198 ?_
                              refine z_goto 112 C dX5_tidy_201 (by decide) ?_
                              have hnb : hasB (D 46 t) (nI (ix y)) = false := Bool.eq_false_iff.mpr (fun z => c153 (by rw [y3]; exact (shr_bit (by omega)).mpr z))
                              have hq : (prD D t && hasB (D 46 t) (nI (ix y))) = false := by rw [hnb, Bool.and_false]
                              have q := ih (t + 1) _ _ (by omega) hM (fun k9 a b c d e => by rw [dS_ne d]; exact hA k9 a b c d e) ((dS_ne (by decide)).trans h68) ((dS_ne (by decide)).trans h69) (fun i => by
                                rw [dS_self, hix]
                                by_cases z : i = 24 * dU D + t
                                · subst z; rw [up1_self, if_pos ⟨by omega, by omega⟩, show 24 * dU D + t - 24 * dU D = t by omega]
                                · rw [up1_ne z, h70 i]
                                  by_cases w : 24 * dU D ≤ i ∧ i < 24 * dU D + t
                                  · rw [if_pos w, if_pos ⟨w.1, by omega⟩]
                                  · rw [if_neg w, if_neg (fun q => w ⟨q.1, by omega⟩)]) (fun i => by
                                rw [dS_no (by decide), h46 i]
                                by_cases z : i = t
                                · subst z; rw [if_neg (Nat.lt_irrefl i), if_pos (by omega)]; unfold mvD; rw [hnb]; exact (if_neg Bool.false_ne_true).symm
                                · by_cases w : i < t
                                  · rw [if_pos w, if_pos (by omega)]
                                  · rw [if_neg w, if_neg (by omega)])
                              rw [cnF_s0 (p := (fun j => prD D j && hasB (D 46 j) (nI (ix y)))) hq, nI_succ] at q
                              exact q
                            · refine z_aload_n C rfl dX5_tidy_156 ?_
                              refine zg5_bits C (fun w h => List.mem_cons_of_mem _ (um_wsX50 w h)) hM.1 (List.mem_cons_of_mem _ wm8) dX5_tidy_157 ?_
                              refine z_ref (hM.q 46 rfl) ?_
                              refine z_iload C rfl dX5_tidy_160 ?_
                              refine z_aload_n C rfl dX5_tidy_162 ?_
                              refine zg5_bits C (fun w h => List.mem_cons_of_mem _ (um_wsX50 w h)) hM.1 (List.mem_cons_of_mem _ wm8) dX5_tidy_163 ?_
                              refine z_ref (hM.q 46 rfl) ?_
                              refine z_iload C rfl dX5_tidy_166 ?_
                              refine z_iaload C (hM.k 46 rfl) (hM.b' 46 rfl (⟨t, rfl, by show t < 24; omega⟩) (by decide)) dX5_tidy_168 ?_
                              refine z_int (hM.t 46 rfl (by decide) _) ?_
                              refine z_int (x' := D 46 t) ((dS_no (by decide) _).trans ((congrArg _ (nI_clamp (by omega))).trans ((h46 t).trans (if_neg (Nat.lt_irrefl t))))) ?_
                              refine z_iconst 1 (by decide) C dX5_tidy_169 ?_
                              refine z_iload_n C rfl dX5_tidy_170 ?_
                              refine z_ishl C dX5_tidy_171 ?_
                              refine z_iconst (-1) (by decide) C dX5_tidy_172 ?_
                              refine z_ixor C dX5_tidy_173 ?_
                              refine z_iand C dX5_tidy_174 ?_
                              refine z_iconst 1 (by decide) C dX5_tidy_175 ?_
                              refine z_iload_n C rfl dX5_tidy_176 ?_
                              refine z_ishl C dX5_tidy_177 ?_
                              refine z_ior C dX5_tidy_178 ?_
                              refine z_iastore C (hM.k 46 rfl) (hM.b' 46 rfl (⟨t, rfl, by show t < 24; omega⟩) (by decide)) dX5_tidy_179 ?_
                              refine z_memM (hM.eI 46 rfl (by decide) _ _) (fun S179 hM => ?_)
                              refine z_iload_n C rfl dX5_tidy_180 ?_
                              refine z_aload_n C rfl dX5_tidy_181 ?_
                              refine zg5_isRemoved C (fun w h => List.mem_cons_of_mem _ (um_wsX50 w h)) hM.1 (List.mem_cons_of_mem _ wm10) dX5_tidy_182 ?_
                              refine z_ref (hM.q 47 rfl) ?_
                              refine z_iload C rfl dX5_tidy_185 ?_
                              refine z_zaload C (hM.k 47 rfl) (hM.b' 47 rfl (⟨t, rfl, by show t < 24; omega⟩) (by decide)) dX5_tidy_187 ?_
                              refine z_int (hM.t 47 rfl (by decide) _) ?_
                              refine z_int (x' := D 47 t) ((dS_no (by decide) _).trans ((dS_no (by decide) _).trans ((congrFun (hA 47 (by decide) (by decide) (by decide) (by decide) (by decide)) _).trans (congrArg _ (nI_clamp (by omega)))))) ?_
                              refine z_if_eq 195 C dX5_tidy_188 (by decide) (fun c188 => ?_) (fun c188 => ?_)
                              · refine z_iconst 1 (by decide) C dX5_tidy_195 ?_
                                refine z_iadd C dX5_tidy_196 ?_
                                refine z_istore_n [_, _, _, _, _] C (by decide) rfl dX5_tidy_197 ?_
                                refine z_inc (1) [_, _, _, _, _] C rfl (by decide) (by decide) rfl dX5_tidy_198 ?_
                                refine z_goto 112 C dX5_tidy_201 (by decide) ?_
                                have hb : hasB (D 46 t) (nI (ix y)) = true := by rw [y3] at c153; exact (shr_bit (by omega)).mp c153
                                have hmv : mvD D (ix x) (ix y) t = (D 46 t &&& (((1 : Int32) <<< (y &&& 31)) ^^^ (-1))) ||| ((1 : Int32) <<< (x &&& 31)) := by
                                  unfold mvD
                                  rw [if_pos hb]
                                  unfold bitI
                                  rw [← x3, ← y3]
                                have htd : t < dT D := by
                                  rcases Nat.lt_or_ge t (dT D) with z | z
                                  · exact z
                                  · rw [hZ46 t (by omega) z, hasB_0 (by omega)] at hb; cases hb
                                have q := ih (t + 1) _ _ (by omega) hM (fun k9 a b c d e => by rw [dS_ne a, dS_ne d]; exact hA k9 a b c d e) ((dS_ne (by decide)).trans ((dS_ne (by decide)).trans h68)) ((dS_ne (by decide)).trans ((dS_ne (by decide)).trans h69)) (fun i => by
                                  rw [dS_no (by decide)]
                                  rw [dS_self, hix]
                                  by_cases z : i = 24 * dU D + t
                                  · subst z; rw [up1_self, if_pos ⟨by omega, by omega⟩, show 24 * dU D + t - 24 * dU D = t by omega]
                                  · rw [up1_ne z, h70 i]
                                    by_cases w : 24 * dU D ≤ i ∧ i < 24 * dU D + t
                                    · rw [if_pos w, if_pos ⟨w.1, by omega⟩]
                                    · rw [if_neg w, if_neg (fun q => w ⟨q.1, by omega⟩)]) (fun i => by
                                  rw [dS_self, show (nI t).toNatClampNeg = t from nI_clamp (by omega)]
                                  by_cases z : i = t
                                  · subst z; rw [up1_self, if_pos (by omega), hmv]
                                  · rw [up1_ne z, dS_no (by decide), h46 i]
                                    by_cases w : i < t
                                    · rw [if_pos w, if_pos (by omega)]
                                    · rw [if_neg w, if_neg (by omega)])
                                rw [cnF_s1 (p := (fun j => prD D j && hasB (D 46 j) (nI (ix y)))) (by show (prD D t && hasB (D 46 t) (nI (ix y))) = true; rw [hb, Bool.and_true]; unfold prD; rw [decide_eq_true htd, c188]; rfl), nI_succ, nI_succ] at q
                                exact q
                              · refine z_iconst 0 (by decide) C dX5_tidy_191 ?_
                                refine z_goto 196 C dX5_tidy_192 (by decide) ?_
                                refine z_iadd C dX5_tidy_196 ?_
                                refine z_istore_n [_, _, _, _, _] C (by decide) rfl dX5_tidy_197 ?_
                                refine z_inc (1) [_, _, _, _, _] C rfl (by decide) (by decide) rfl dX5_tidy_198 ?_
                                refine z_goto 112 C dX5_tidy_201 (by decide) ?_
                                have hb : hasB (D 46 t) (nI (ix y)) = true := by rw [y3] at c153; exact (shr_bit (by omega)).mp c153
                                have hmv : mvD D (ix x) (ix y) t = (D 46 t &&& (((1 : Int32) <<< (y &&& 31)) ^^^ (-1))) ||| ((1 : Int32) <<< (x &&& 31)) := by
                                  unfold mvD
                                  rw [if_pos hb]
                                  unfold bitI
                                  rw [← x3, ← y3]
                                have htd : t < dT D := by
                                  rcases Nat.lt_or_ge t (dT D) with z | z
                                  · exact z
                                  · rw [hZ46 t (by omega) z, hasB_0 (by omega)] at hb; cases hb
                                have q := ih (t + 1) _ _ (by omega) hM (fun k9 a b c d e => by rw [dS_ne a, dS_ne d]; exact hA k9 a b c d e) ((dS_ne (by decide)).trans ((dS_ne (by decide)).trans h68)) ((dS_ne (by decide)).trans ((dS_ne (by decide)).trans h69)) (fun i => by
                                  rw [dS_no (by decide)]
                                  rw [dS_self, hix]
                                  by_cases z : i = 24 * dU D + t
                                  · subst z; rw [up1_self, if_pos ⟨by omega, by omega⟩, show 24 * dU D + t - 24 * dU D = t by omega]
                                  · rw [up1_ne z, h70 i]
                                    by_cases w : 24 * dU D ≤ i ∧ i < 24 * dU D + t
                                    · rw [if_pos w, if_pos ⟨w.1, by omega⟩]
                                    · rw [if_neg w, if_neg (fun q => w ⟨q.1, by omega⟩)]) (fun i => by
                                  rw [dS_self, show (nI t).toNatClampNeg = t from nI_clamp (by omega)]
                                  by_cases z : i = t
                                  · subst z; rw [up1_self, if_pos (by omega), hmv]
                                  · rw [up1_ne z, dS_no (by decide), h46 i]
                                    by_cases w : i < t
                                    · rw [if_pos w, if_pos (by omega)]
                                    · rw [if_neg w, if_neg (by omega)])
                                rw [cnF_s0 (p := (fun j => prD D j && hasB (D 46 j) (nI (ix y)))) (by show (prD D t && hasB (D 46 t) (nI (ix y))) = false; rw [hb, Bool.and_true]; unfold prD; rw [decide_eq_false c188, Bool.and_false]), nI_succ, ← Int32.add_zero (nI (cnF (fun j => prD D j && hasB (D 46 j) (nI (ix y))) t))] at q
                                exact q
                      refine z_iconst 0 (by decide) C dX5_tidy_77 ?_
                      refine z_istore_n [_, _, _, _, _] C (by decide) rfl dX5_tidy_78 ?_
                      refine z_aload_n C rfl dX5_tidy_79 ?_
                      refine zg5_tidyTag C (fun w h => List.mem_cons_of_mem _ (um_wsX50 w h)) hM.1 (List.mem_cons_of_mem _ wm27) dX5_tidy_80 ?_
                      refine z_ref (hM.q 68 rfl) ?_
                      refine z_aload_n C rfl dX5_tidy_83 ?_
                      refine zg5_tidied C (fun w h => List.mem_cons_of_mem _ (um_wsX50 w h)) hM.1 (List.mem_cons_of_mem _ wm84) dX5_tidy_84 ?_
                      refine z_int (x' := nI (dU D)) ((hM.i 67 rfl).trans ((dS_no (by decide) 0).trans hU.1)) ?_
                      refine z_iload_n C rfl dX5_tidy_87 ?_
                      refine z_iastore C (hM.k 68 rfl) (hM.b' 68 rfl (⟨dU D, rfl, by show _ < 16; have := hU.2.1; omega⟩) (by decide)) dX5_tidy_88 ?_
                      refine z_memM (hM.eI 68 rfl (by decide) _ _) (fun S88 hM => ?_)
                      rw [show (nI (dU D)).toNatClampNeg = dU D from nI_clamp (by have := hU.2.1; omega)] at hM
                      refine z_aload_n C rfl dX5_tidy_89 ?_
                      refine zg5_tidyOther C (fun w h => List.mem_cons_of_mem _ (um_wsX50 w h)) hM.1 (List.mem_cons_of_mem _ wm28) dX5_tidy_90 ?_
                      refine z_ref (hM.q 69 rfl) ?_
                      refine z_aload_n C rfl dX5_tidy_93 ?_
                      refine zg5_tidied C (fun w h => List.mem_cons_of_mem _ (um_wsX50 w h)) hM.1 (List.mem_cons_of_mem _ wm84) dX5_tidy_94 ?_
                      refine z_int (x' := nI (dU D)) ((hM.i 67 rfl).trans ((dS_no (by decide) 0).trans ((dS_no (by decide) 0).trans hU.1))) ?_
                      refine z_iload_n C rfl dX5_tidy_97 ?_
                      refine z_iastore C (hM.k 69 rfl) (hM.b' 69 rfl (⟨dU D, rfl, by show _ < 16; have := hU.2.1; omega⟩) (by decide)) dX5_tidy_98 ?_
                      refine z_memM (hM.eI 69 rfl (by decide) _ _) (fun S98 hM => ?_)
                      rw [show (nI (dU D)).toNatClampNeg = dU D from nI_clamp (by have := hU.2.1; omega)] at hM
                      refine z_aload_n C rfl dX5_tidy_99 ?_
                      refine zg5_tidyRules C (fun w h => List.mem_cons_of_mem _ (um_wsX50 w h)) hM.1 (List.mem_cons_of_mem _ wm31) dX5_tidy_100 ?_
                      refine z_ref (hM.q 71 rfl) ?_
                      refine z_aload_n C rfl dX5_tidy_103 ?_
                      refine zg5_tidied C (fun w h => List.mem_cons_of_mem _ (um_wsX50 w h)) hM.1 (List.mem_cons_of_mem _ wm84) dX5_tidy_104 ?_
                      refine z_int (x' := nI (dU D)) ((hM.i 67 rfl).trans ((dS_no (by decide) 0).trans ((dS_no (by decide) 0).trans ((dS_no (by decide) 0).trans hU.1)))) ?_
                      refine z_lconst 0 (by decide) C dX5_tidy_107 ?_
                      refine z_lastore C (hM.k 71 rfl) (hM.b' 71 rfl (⟨dU D, rfl, by show _ < 16; have := hU.2.1; omega⟩) (by decide)) dX5_tidy_108 ?_
                      refine z_memM (hM.eJ _ _) (fun S108 hM => ?_)
                      rw [show (nI (dU D)).toNatClampNeg = dU D from nI_clamp (by have := hU.2.1; omega)] at hM
                      refine z_iconst 0 (by decide) C dX5_tidy_109 ?_
                      refine z_istore [_, _, _, _, _] C (by decide) rfl dX5_tidy_110 ?_
                      exact loop1 24 0 _ _ rfl hM (fun k a b c d e => (dS_ne c).trans ((dS_ne b).trans (dS_ne e))) ((dS_ne (by decide)).trans (dS_self.trans (by rw [dS_ne (by decide)]))) (dS_self.trans (by rw [dS_ne (by decide), dS_ne (by decide)])) (fun i => (dS_no (by decide) i).trans ((dS_no (by decide) i).trans ((dS_no (by decide) i).trans (if_neg (fun q => by omega)).symm))) (fun i => (dS_no (by decide) i).trans ((dS_no (by decide) i).trans ((dS_no (by decide) i).trans (if_neg (Nat.not_lt_zero i)).symm)))
                    · exact h69.elim
                  · refine z_iconst 1 (by decide) C dX5_tidy_63 ?_
                    refine z_goto 68 C dX5_tidy_64 (by decide) ?_
                    refine z_iconst 3 (by decide) C dX5_tidy_68 ?_
                    refine z_callM 2 [zi (1), zi 3] C rfl (M_fails1 hl0 hM h39 1 3 (by decide)) rfl (zgoodV LWm_good wm64 wm65 wm66 wm37 wm67) rfl rfl rfl (by decide +kernel) rfl (by rw [hR]; exact ⟨Nat.le_of_ble_eq_true rfl, Nat.le_of_ble_eq_true rfl⟩) hM.1 (by rw [hR]; exact ⟨Nat.le_of_ble_eq_true rfl, Nat.le_of_ble_eq_true rfl⟩) (Nat.le_of_ble_eq_true rfl) dX5_tidy_69 (fun v69 S69 h69 => ?_) (fun E69 S69 h69 => ?_)
                    · obtain ⟨rfl, hM⟩ := h69
                      refine z_if_eq 77 C dX5_tidy_72 (by decide) (fun c72 => absurd c72 (by decide)) (fun _ => ?_)
                      refine z_iconst 0 (by decide) C dX5_tidy_75 ?_
                      refine z_ireturn C F (Nat.le_of_ble_eq_true rfl) (Nat.le_of_ble_eq_true rfl) dX5_tidy_76 ?_
                      exact Or.inr (Or.inr (Or.inr ⟨y8, y16, c37, c60, rfl, flM.tb hM h39 hW⟩))
                    · exact h69.elim
                · exact h56.elim
              · exact h46.elim
            · refine z_iconst 1 (by decide) C dX5_tidy_40 ?_
              refine z_goto 45 C dX5_tidy_41 (by decide) ?_
              refine z_iconst 2 (by decide) C dX5_tidy_45 ?_
              refine z_callM 2 [zi (1), zi 2] C rfl (M_fails1 hl0 hM h39 1 2 (by decide)) rfl (zgoodV LWm_good wm64 wm65 wm66 wm37 wm67) rfl rfl rfl (by decide +kernel) rfl (by rw [hR]; exact ⟨Nat.le_of_ble_eq_true rfl, Nat.le_of_ble_eq_true rfl⟩) hM.1 (by rw [hR]; exact ⟨Nat.le_of_ble_eq_true rfl, Nat.le_of_ble_eq_true rfl⟩) (Nat.le_of_ble_eq_true rfl) dX5_tidy_46 (fun v46 S46 h46 => ?_) (fun E46 S46 h46 => ?_)
              · obtain ⟨rfl, hM⟩ := h46
                refine z_if_ne 75 C dX5_tidy_49 (by decide) (fun _ => ?_) (fun c49 => absurd c49 (by decide))
                refine z_iconst 0 (by decide) C dX5_tidy_75 ?_
                refine z_ireturn C F (Nat.le_of_ble_eq_true rfl) (Nat.le_of_ble_eq_true rfl) dX5_tidy_76 ?_
                exact Or.inr (Or.inr (Or.inl ⟨y8, y16, c37, rfl, flM.of hM h39 hW⟩))
              · exact h46.elim
          · exact h28.elim
        | true =>
          have y16 := b_tf hb16
          refine z_if_eq 26 C dX5_tidy_19 (by decide) (fun c19 => absurd c19 (by decide)) (fun _ => ?_)
          refine z_iconst 1 (by decide) C dX5_tidy_22 ?_
          refine z_goto 27 C dX5_tidy_23 (by decide) ?_
          refine z_iconst 1 (by decide) C dX5_tidy_27 ?_
          refine z_callM 2 [zi (1), zi 1] C rfl (M_fails1 hl0 hM h39 1 1 (by decide)) rfl (zgoodV LWm_good wm64 wm65 wm66 wm37 wm67) rfl rfl rfl (by decide +kernel) rfl (by rw [hR]; exact ⟨Nat.le_of_ble_eq_true rfl, Nat.le_of_ble_eq_true rfl⟩) hM.1 (by rw [hR]; exact ⟨Nat.le_of_ble_eq_true rfl, Nat.le_of_ble_eq_true rfl⟩) (Nat.le_of_ble_eq_true rfl) dX5_tidy_28 (fun v28 S28 h28 => ?_) (fun E28 S28 h28 => ?_)
          · obtain ⟨rfl, hM⟩ := h28
            refine z_if_ne 75 C dX5_tidy_31 (by decide) (fun _ => ?_) (fun c31 => absurd c31 (by decide))
            refine z_iconst 0 (by decide) C dX5_tidy_75 ?_
            refine z_ireturn C F (Nat.le_of_ble_eq_true rfl) (Nat.le_of_ble_eq_true rfl) dX5_tidy_76 ?_
            first | exact Or.inr (Or.inl ⟨fun z => y8 z.1, rfl, flM.of hM h39 hW⟩) | exact Or.inr (Or.inl ⟨fun z => y16 z.2, rfl, flM.of hM h39 hW⟩)
          · exact h28.elim
      · exact h16.elim
    | true =>
      have y8 := b_tf hb8
      refine z_if_ne 22 C dX5_tidy_11 (by decide) (fun _ => ?_) (fun c11 => absurd c11 (by decide))
      refine z_iconst 1 (by decide) C dX5_tidy_22 ?_
      refine z_goto 27 C dX5_tidy_23 (by decide) ?_
      refine z_iconst 1 (by decide) C dX5_tidy_27 ?_
      refine z_callM 2 [zi (1), zi 1] C rfl (M_fails1 hl0 hM h39 1 1 (by decide)) rfl (zgoodV LWm_good wm64 wm65 wm66 wm37 wm67) rfl rfl rfl (by decide +kernel) rfl (by rw [hR]; exact ⟨Nat.le_of_ble_eq_true rfl, Nat.le_of_ble_eq_true rfl⟩) hM.1 (by rw [hR]; exact ⟨Nat.le_of_ble_eq_true rfl, Nat.le_of_ble_eq_true rfl⟩) (Nat.le_of_ble_eq_true rfl) dX5_tidy_28 (fun v28 S28 h28 => ?_) (fun E28 S28 h28 => ?_)
      · obtain ⟨rfl, hM⟩ := h28
        refine z_if_ne 75 C dX5_tidy_31 (by decide) (fun _ => ?_) (fun c31 => absurd c31 (by decide))
        refine z_iconst 0 (by decide) C dX5_tidy_75 ?_
        refine z_ireturn C F (Nat.le_of_ble_eq_true rfl) (Nat.le_of_ble_eq_true rfl) dX5_tidy_76 ?_
        first | exact Or.inr (Or.inl ⟨fun z => y8 z.1, rfl, flM.of hM h39 hW⟩) | exact Or.inr (Or.inl ⟨fun z => y16 z.2, rfl, flM.of hM h39 hW⟩)
      · exact h28.elim
  · exact h8.elim
