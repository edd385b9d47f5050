/-! the class: shares and means; ranks; products; the nearest tag -/
theorem ratio_ok (f : FP.Core.Fmt) (s : Bool) (n d : Nat) (e : Int) : FP.Core.roundRatio f s n d e ≠ .nan := by
  unfold FP.Core.roundRatio FP.Core.roundAt FP.Core.settle FP.Core.bound
  intro h
  repeat (split at h <;> try cases h)
theorem whole_fin {i : Int} {d : FP.Core.Datum} (h : FP.Core.Whole i d) : ∃ s c q, d = .fin s c q ∧ (i ≠ 0 → c ≠ 0) := by
  cases d with
  | nan => exact absurd h id
  | inf s => exact absurd h id
  | fin s c q =>
    refine ⟨s, c, q, rfl, fun hi hc => ?_⟩
    subst hc
    have h : FP.Core.signed s (0 * 2 ^ q.toNat) = i * ((2 ^ (-q).toNat : Nat) : Int) := h
    rw [Nat.zero_mul] at h
    have h0 : FP.Core.signed s 0 = 0 := by unfold FP.Core.signed; split <;> rfl
    rw [h0] at h
    rcases Int.mul_eq_zero.mp h.symm with q1 | q1
    · exact hi q1
    · have : 0 < 2 ^ (-q).toNat := Nat.two_pow_pos _
      omega
theorem quot_ok {i j : Int} {f : FP.Core.Fmt} {a b : FP.Core.Datum} (ha : FP.Core.Whole i a) (hb : FP.Core.Whole j b) (hj : j ≠ 0) : FP.Core.quotient f a b ≠ .nan := by
  obtain ⟨s, c, q, rfl, -⟩ := whole_fin ha
  obtain ⟨t, d, r, rfl, hd⟩ := whole_fin hb
  show (if d = 0 then (if c = 0 then FP.Core.Datum.nan else .inf (s != t)) else FP.Core.roundRatio f (s != t) c d (q - r)) ≠ .nan
  rw [if_neg (hd hj)]; exact ratio_ok _ _ _ _ _
theorem ddiv_ok {a b : Int32} (hb : b ≠ 0) : vf_n64 (FP.ddiv (FP.i2d a) (FP.i2d b)) := by
  have hj : b.toInt ≠ 0 := fun q => hb (Int32.toInt_inj.mp (q.trans (by decide)))
  have h : ¬ FP.Core.dIsNaN (FP.Core.ddiv (FP.Core.i2d a) (FP.Core.i2d b)) = true := by
    rw [FP.Core.dIsNaN_iff, FP.Core.val64_ddiv]
    exact quot_ok (FP.Core.i2d_int a) (FP.Core.i2d_int b) hj
  rw [FP.Core.isNaN_bits] at h
  unfold vf_n64
  rw [UInt64.le_iff_toNat_le, UInt64.toNat_and, show (0x7fffffffffffffff : UInt64).toNat = 2 ^ 63 - 1 from rfl, Nat.and_two_pow_sub_one_eq_mod]
  show _ ≤ 9218868437227405312
  exact Nat.le_of_not_lt h
theorem fdiv_ok {a b : Int32} (ha : a.toInt.natAbs ≤ 2 ^ 24) (hb2 : b.toInt.natAbs ≤ 2 ^ 24) (hb : b ≠ 0) : vf_n32 (FP.fdiv (FP.i2f a) (FP.i2f b)) := by
  have hj : b.toInt ≠ 0 := fun q => hb (Int32.toInt_inj.mp (q.trans (by decide)))
  have h : ¬ FP.Core.fIsNaN (FP.Core.fdiv (FP.Core.i2f a) (FP.Core.i2f b)) = true := by
    rw [FP.Core.fIsNaN_iff, FP.Core.val32_fdiv]
    exact quot_ok (FP.Core.i2f_int ha) (FP.Core.i2f_int hb2) hj
  rw [FP.Core.isNaN_bits32] at h
  unfold vf_n32
  rw [UInt32.le_iff_toNat_le, UInt32.toNat_and, show (0x7fffffff : UInt32).toNat = 2 ^ 31 - 1 from rfl, Nat.and_two_pow_sub_one_eq_mod]
  show _ ≤ 2139095040
  exact Nat.le_of_not_lt h
theorem nI_abs {n : Nat} (h : n ≤ 2 ^ 24) : (nI n).toInt.natAbs ≤ 2 ^ 24 := by
  rw [nI_toInt (by omega)]; exact h
/-- the first in order, of what is left when the first m are out -/
def frD (D : ZD) (ord s : Int32) : Int32 := (fF (prD D) (plD D ord) s 24).elim 0 nI
def lfD (D : ZD) (ord s : Int32) : Nat → Int32
  | 0 => s
  | m + 1 => lfD D ord s m &&& ((1 <<< (frD D ord (lfD D ord s m) &&& 31)) ^^^ (-1))
/-- the product of what the tracks of a set bring, track by track -/
def mxD (D : ZD) (s : Int32) : Nat → Int64
  | 0 => 1
  | i + 1 => if prD D i = true ∧ hasB s (nI i) = true then mxD D s i * (D 44 i + 1).toInt64 else mxD D s i
/-- the union of the first lists -/
def unD (K : Nat → Int32) : Nat → Int32
  | 0 => 0
  | i + 1 => unD K i ||| K i
theorem unD_sub {D : ZD} {K : Nat → Int32} (h : ∀ i : Nat, i < 8 → subD D (K i)) : ∀ n : Nat, n ≤ 8 → subD D (unD K n) := by
  intro n
  induction n with
  | zero => intro _; exact subD_0 D
  | succ n ih =>
    intro hn i hi hb
    simp only [unD] at hb
    rw [hasB_or hi, Bool.or_eq_true] at hb
    rcases hb with q | q
    · exact ih (by omega) i hi q
    · exact h n (by omega) i hi q
theorem tr_no {D : ZD} {S : ZM} {L : Nat → Nat} (hT : rT D S L) {n : Nat} (hn : n < 24) (h : tQ S (L 1) n = none) : prD D n = false := by
  cases hp : prD D n with
  | false => rfl
  | true =>
    obtain ⟨a, e, -⟩ := (hT n hn).2 hp
    rw [e] at h; cases h

set_option maxRecDepth 100000 in
set_option maxHeartbeats 4000000 in
theorem C_meanLength {l : Launch} (hl0 : l.stackTraces = false) {D : ZD} {J : Nat → Int64} {lk : ZL} {as : Nat → Nat} {S : ZM} {L T : Nat → Nat} (hR1 : cR D J lk as S L T) (x : Int32) : zMet l yX4_meanLength (Cond.code yX4_meanLength cX4_meanLength 3 (some .double) :: LWc) ({ frames := 7, cells := 2, slots := 12, locals := 108 } : Room) 2 12 [zr (some (L 0)), zi x] S (zPo (fun v S' => ∃ i : Nat, i < 8 ∧ i < dL D ∧ x = nI i ∧ ¬ bcJ (D 61 i) = 0 ∧ v = some (zd (FP.ddiv (FP.i2d (smF (fun t => prD D t && hasB (D 61 i) (nI t)) (fun t => D 42 t) 24)) (FP.i2d (bcJ (D 61 i))))) ∧ S' = S) (fun E S' => S' = S ∧ ((¬ hasLs D x ∧ E = "java/util/NoSuchElementException") ∨ (∃ i : Nat, i < 8 ∧ i < dL D ∧ x = nI i ∧ bcJ (D 61 i) = 0 ∧ E = "java/lang/ArithmeticException")))) := by
  refine zMet.of' [some (zr (some (L 0))), some (zi x), none] hl0 (by decide) rfl (Nat.le_of_ble_eq_true rfl) rfl ?_
  intro X C N hR hN0 hX F
  subst hX
  obtain ⟨hX0, hV, hK, hU, hQ, hF⟩ := id hR1
  obtain ⟨hS, hT, hG, hRR, hLL, hA, hday, hpl, hO, hAc⟩ := id hX0
  refine z_aload_n C rfl dX4_meanLength_0 ?_
  refine z_iload_n C rfl dX4_meanLength_1 ?_
  refine z_callC 1 [zi x] C rfl (C_needList hl0 hS x) rfl (zgoodV LWc_good wc203 wc204 wc205 wc58 wc206) rfl rfl rfl (by decide +kernel) rfl (by rw [hR]; exact ⟨Nat.le_of_ble_eq_true rfl, Nat.le_of_ble_eq_true rfl⟩) hS.c (by rw [hR]; exact ⟨Nat.le_of_ble_eq_true rfl, Nat.le_of_ble_eq_true rfl⟩) (Nat.le_of_ble_eq_true rfl) dX4_meanLength_2 (fun v2 S2 h2 => ?_) (fun E2 S2 h2 => ?_)
  · obtain ⟨l9, e2, rfl, q2⟩ := h2
    subst S2
    obtain ⟨i, rr, hi2, hl2, ex2, ea2, k2_2, m0_2, er2, n1_2, n2_2⟩ := tL_some hLL e2
    refine z_pop rfl C dX4_meanLength_5 ?_
    refine z_aload_n C rfl dX4_meanLength_6 ?_
    refine zg4_kept C (fun w h => List.mem_cons_of_mem _ (uc_wsX40 w h)) hS.c (List.mem_cons_of_mem _ wc44) dX4_meanLength_7 ?_
    refine z_ref hS.kp.1 ?_
    refine z_iload_n C rfl dX4_meanLength_10 ?_
    refine z_iaload C hS.kp.2.1 (by rw [hS.kp.2.2, ex2]; exact vp_in_nI hi2 (by decide)) dX4_meanLength_11 ?_
    refine z_int (x' := D 61 i) (by rw [ex2, nI_clamp (by omega)]; exact hK.1 i hi2) ?_
    refine z_callS 1 [zi (D 61 i)] C (C_bitCount hl0 (D 61 i)) rfl (zgoodS LWc_good wc112 wc113 wc114 wc115) rfl rfl rfl (by decide +kernel) rfl (by rw [hR]; exact ⟨Nat.le_of_ble_eq_true rfl, Nat.le_of_ble_eq_true rfl⟩) (by rw [hR]; exact ⟨Nat.le_of_ble_eq_true rfl, Nat.le_of_ble_eq_true rfl⟩) (Nat.le_of_ble_eq_true rfl) dX4_meanLength_12 (fun v12 S12 h12 => ?_) (fun E12 S12 h12 => ?_)
    · obtain ⟨rfl, q12⟩ := h12
      subst S12
      refine z_istore_n [_, _, _] C (by decide) rfl dX4_meanLength_15 ?_
      refine z_iload_n C rfl dX4_meanLength_16 ?_
      refine z_if_ne 31 C dX4_meanLength_17 (by decide) (fun c17 => ?_) (fun c17 => ?_)
      · refine z_aload_n C rfl dX4_meanLength_31 ?_
        refine z_aload_n C rfl dX4_meanLength_32 ?_
        refine zg4_kept C (fun w h => List.mem_cons_of_mem _ (uc_wsX40 w h)) hS.c (List.mem_cons_of_mem _ wc44) dX4_meanLength_33 ?_
        refine z_ref hS.kp.1 ?_
        refine z_iload_n C rfl dX4_meanLength_36 ?_
        refine z_iaload C hS.kp.2.1 (by rw [hS.kp.2.2, ex2]; exact vp_in_nI hi2 (by decide)) dX4_meanLength_37 ?_
        refine z_int (x' := D 61 i) (by rw [ex2, nI_clamp (by omega)]; exact hK.1 i hi2) ?_
        refine z_callC 1 [zi (D 61 i)] C rfl (C_lengthsOf hl0 hS hT.k (D 61 i)) rfl (zgoodV LWc_good wc120 wc121 wc122 wc58 wc123) rfl rfl rfl (by decide +kernel) rfl (by rw [hR]; exact ⟨Nat.le_of_ble_eq_true rfl, Nat.le_of_ble_eq_true rfl⟩) hS.c (by rw [hR]; exact ⟨Nat.le_of_ble_eq_true rfl, Nat.le_of_ble_eq_true rfl⟩) (Nat.le_of_ble_eq_true rfl) dX4_meanLength_38 (fun v38 S38 h38 => ?_) (fun E38 S38 h38 => ?_)
        · obtain ⟨rfl, q38⟩ := h38
          subst S38
          refine z_int (tT_len hT (D 61 i)) ?_
          refine z_i2d C dX4_meanLength_41 ?_
          refine z_iload_n C rfl dX4_meanLength_42 ?_
          refine z_i2d C dX4_meanLength_43 ?_
          refine z_ddiv (ddiv_ok c17) C dX4_meanLength_44 ?_
          refine z_dreturn C F (Nat.le_of_ble_eq_true rfl) (Nat.le_of_ble_eq_true rfl) dX4_meanLength_45 ?_
          exact ⟨i, hi2, hl2, ex2, c17, rfl, rfl⟩
        · exact h38.elim
      · refine z_throwSW (text := "the list has no tracks") ["java/lang/RuntimeException", "java/lang/Exception"] C F N (by decide +kernel) (by decide +kernel) (List.mem_cons_of_mem _ wc236) (List.mem_cons_of_mem _ wc237) (by decide +kernel) (fun w h => List.mem_cons_of_mem _ (ac_5 w h)) bc_5 (by decide) (by decide +kernel) dX4_meanLength_20 dX4_meanLength_23 dX4_meanLength_24 dX4_meanLength_27 dX4_meanLength_30 (by rw [hR]; exact Nat.le_of_ble_eq_true rfl) (by rw [hR]; exact Nat.le_of_ble_eq_true rfl) (by rw [hR]; exact Nat.le_of_ble_eq_true rfl) (by rw [hR]; exact Nat.le_of_ble_eq_true rfl) (Nat.le_of_ble_eq_true rfl) (Nat.le_of_ble_eq_true rfl) ?_
        exact ⟨rfl, Or.inr ⟨i, hi2, hl2, ex2, c17, rfl⟩⟩
    · exact h12.elim
  · obtain ⟨e2, rfl, q2⟩ := h2
    subst S2
    exact z_out C F N (Nat.le_of_ble_eq_true rfl) (Nat.le_of_ble_eq_true rfl) ⟨rfl, Or.inl ⟨tL_none hLL e2, rfl⟩⟩
set_option maxRecDepth 100000 in
set_option maxHeartbeats 4000000 in
theorem C_listedShare {l : Launch} (hl0 : l.stackTraces = false) {D : ZD} {J : Nat → Int64} {lk : ZL} {as : Nat → Nat} {S : ZM} {L T : Nat → Nat} (hR1 : cR D J lk as S L T) : zMet l yX4_listedShare (Cond.code yX4_listedShare cX4_listedShare 3 (some .float) :: LWc) ({ frames := 6, cells := 1, slots := 6, locals := 86 } : Room) 1 6 [zr (some (L 0))] S (zPo (fun v S' => ¬ nI (cnF (prD D) 24) = 0 ∧ v = some (zf (FP.fdiv (FP.i2f (bcJ (unD (D 61) 8))) (FP.i2f (nI (cnF (prD D) 24))))) ∧ S' = S) (fun E S' => S' = S ∧ nI (cnF (prD D) 24) = 0 ∧ E = "java/lang/ArithmeticException")) := by
  refine zMet.of' [some (zr (some (L 0))), none, none] hl0 (by decide) rfl (Nat.le_of_ble_eq_true rfl) rfl ?_
  intro X C N hR hN0 hX F
  subst hX
  obtain ⟨hX0, hV, hK, hU, hQ, hF⟩ := id hR1
  obtain ⟨hS, hT, hG, hRR, hLL, hA, hday, hpl, hO, hAc⟩ := id hX0
  have loop : ∀ (m i : Nat), i + m = 8 → ¬ nI (cnF (prD D) 24) = 0 → zW X 3 0 0 S 22 [some (zr (some (L 0))), some (zi (unD (D 61) i)), some (zi (nI i))] [] := by
    intro m
    induction m with
    | zero =>
      intro i hi c0
      obtain rfl : i = 8 := by omega
      refine z_iload_n C rfl dX4_listedShare_22 ?_
      refine z_bipush 8 (by decide) C dX4_listedShare_23 ?_
      refine z_icmp_ge 43 C dX4_listedShare_25 (by decide) (fun c25 => ?_) (fun c25 => ?_)
      · refine z_iload_n C rfl dX4_listedShare_43 ?_
        refine z_callS 1 [zi (unD (D 61) 8)] C (C_bitCount hl0 (unD (D 61) 8)) rfl (zgoodS LWc_good wc112 wc113 wc114 wc115) rfl rfl rfl (by decide +kernel) rfl (by rw [hR]; exact ⟨Nat.le_of_ble_eq_true rfl, Nat.le_of_ble_eq_true rfl⟩) (by rw [hR]; exact ⟨Nat.le_of_ble_eq_true rfl, Nat.le_of_ble_eq_true rfl⟩) (Nat.le_of_ble_eq_true rfl) dX4_listedShare_44 (fun v44 S44 h44 => ?_) (fun E44 S44 h44 => ?_)
        · obtain ⟨rfl, q44⟩ := h44
          subst S44
          refine z_i2f C dX4_listedShare_47 ?_
          refine z_aload_n C rfl dX4_listedShare_48 ?_
          refine zg4_tracksLeft C (fun w h => List.mem_cons_of_mem _ (uc_wsX40 w h)) hS.c (List.mem_cons_of_mem _ wc40) dX4_listedShare_49 ?_
          refine z_int hV.2.1 ?_
          refine z_i2f C dX4_listedShare_52 ?_
          refine z_fdiv (fdiv_ok (by rw [bcJ_pc]; exact nI_abs (Nat.le_trans (pcB_32 _) (by decide))) (nI_abs (Nat.le_trans (cnF_le _ 24) (by decide))) c0) C dX4_listedShare_53 ?_
          refine z_freturn C F (Nat.le_of_ble_eq_true rfl) (Nat.le_of_ble_eq_true rfl) dX4_listedShare_54 ?_
          exact ⟨c0, rfl, rfl⟩
        · exact h44.elim
      · exact absurd (by decide) c25
    | succ m ih =>
      intro i hi c0
      refine z_iload_n C rfl dX4_listedShare_22 ?_
      refine z_bipush 8 (by decide) C dX4_listedShare_23 ?_
      refine z_icmp_ge 43 C dX4_listedShare_25 (by decide) (fun c25 => ?_) (fun c25 => ?_)
      · exact absurd c25 (n8 (by omega))
      · refine z_iload_n C rfl dX4_listedShare_28 ?_
        refine z_aload_n C rfl dX4_listedShare_29 ?_
        refine zg4_kept C (fun w h => List.mem_cons_of_mem _ (uc_wsX40 w h)) hS.c (List.mem_cons_of_mem _ wc44) dX4_listedShare_30 ?_
        refine z_ref hS.kp.1 ?_
        refine z_iload_n C rfl dX4_listedShare_33 ?_
        refine z_iaload C hS.kp.2.1 (by rw [hS.kp.2.2]; exact vp_in_nI (by omega) (by decide)) dX4_listedShare_34 ?_
        refine z_int (x' := D 61 i) (by rw [nI_clamp (by omega)]; exact hK.1 i (by omega)) ?_
        refine z_ior C dX4_listedShare_35 ?_
        refine z_istore_n [_, _, _] C (by decide) rfl dX4_listedShare_36 ?_
        refine z_inc (1) [_, _, _] C rfl (by decide) (by decide) rfl dX4_listedShare_37 ?_
        refine z_goto 22 C dX4_listedShare_40 (by decide) ?_
        have q := ih (i + 1) (by omega) c0
        rw [nI_succ] at q
        exact q
  refine z_aload_n C rfl dX4_listedShare_0 ?_
  refine zg4_tracksLeft C (fun w h => List.mem_cons_of_mem _ (uc_wsX40 w h)) hS.c (List.mem_cons_of_mem _ wc40) dX4_listedShare_1 ?_
  refine z_int hV.2.1 ?_
  refine z_if_ne 18 C dX4_listedShare_4 (by decide) (fun c4 => ?_) (fun c4 => ?_)
  · refine z_iconst 0 (by decide) C dX4_listedShare_18 ?_
    refine z_istore_n [_, _, _] C (by decide) rfl dX4_listedShare_19 ?_
    refine z_iconst 0 (by decide) C dX4_listedShare_20 ?_
    refine z_istore_n [_, _, _] C (by decide) rfl dX4_listedShare_21 ?_
    exact loop 8 0 rfl c4
  · refine z_throwSW (text := "there are no tracks") ["java/lang/RuntimeException", "java/lang/Exception"] C F N (by decide +kernel) (by decide +kernel) (List.mem_cons_of_mem _ wc236) (List.mem_cons_of_mem _ wc237) (by decide +kernel) (fun w h => List.mem_cons_of_mem _ (ac_5 w h)) bc_5 (by decide) (by decide +kernel) dX4_listedShare_7 dX4_listedShare_10 dX4_listedShare_11 dX4_listedShare_14 dX4_listedShare_17 (by rw [hR]; exact Nat.le_of_ble_eq_true rfl) (by rw [hR]; exact Nat.le_of_ble_eq_true rfl) (by rw [hR]; exact Nat.le_of_ble_eq_true rfl) (by rw [hR]; exact Nat.le_of_ble_eq_true rfl) (Nat.le_of_ble_eq_true rfl) (Nat.le_of_ble_eq_true rfl) ?_
    exact ⟨rfl, c4, rfl⟩
set_option maxRecDepth 100000 in
set_option maxHeartbeats 4000000 in
theorem C_trackAt {l : Launch} (hl0 : l.stackTraces = false) {D : ZD} {J : Nat → Int64} {lk : ZL} {as : Nat → Nat} {S : ZM} {L T : Nat → Nat} (hR1 : cR D J lk as S L T) (x y : Int32) : zMet l yX4_trackAt (Cond.code yX4_trackAt cX4_trackAt 7 (some .int) :: LWc) ({ frames := 7, cells := 2, slots := 12, locals := 108 } : Room) 2 12 [zr (some (L 0)), zi x, zi y] S (zPo (fun v S' => ∃ i : Nat, i < 8 ∧ i < dL D ∧ x = nI i ∧ ¬ y < 0 ∧ y < bcJ (D 61 i) ∧ v = some (zi (frD D (D 59 i) (lfD D (D 59 i) (D 61 i) (ix y)))) ∧ S' = S) (fun E S' => S' = S ∧ ((¬ hasLs D x ∧ E = "java/util/NoSuchElementException") ∨ (∃ i : Nat, i < 8 ∧ i < dL D ∧ x = nI i ∧ ¬ (¬ y < 0 ∧ y < bcJ (D 61 i)) ∧ E = "java/lang/IndexOutOfBoundsException")))) := by
  refine zMet.of' [some (zr (some (L 0))), some (zi x), some (zi y), none, none, none, none] hl0 (by decide) rfl (Nat.le_of_ble_eq_true rfl) rfl ?_
  intro X C N hR hN0 hX F
  subst hX
  obtain ⟨hX0, hV, hK, hU, hQ, hF⟩ := id hR1
  obtain ⟨hS, hT, hG, hRR, hLL, hA, hday, hpl, hO, hAc⟩ := id hX0
  refine z_aload_n C rfl dX4_trackAt_0 ?_
  refine z_iload_n C rfl dX4_trackAt_1 ?_
  refine z_callC 1 [zi x] C rfl (C_needList hl0 hS x) rfl (zgoodV LWc_good wc203 wc204 wc205 wc58 wc206) rfl rfl rfl (by decide +kernel) rfl (by rw [hR]; exact ⟨Nat.le_of_ble_eq_true rfl, Nat.le_of_ble_eq_true rfl⟩) hS.c (by rw [hR]; exact ⟨Nat.le_of_ble_eq_true rfl, Nat.le_of_ble_eq_true rfl⟩) (Nat.le_of_ble_eq_true rfl) dX4_trackAt_2 (fun v2 S2 h2 => ?_) (fun E2 S2 h2 => ?_)
  · obtain ⟨l9, e2, rfl, q2⟩ := h2
    subst S2
    obtain ⟨i, rr, hi2, hl2, ex2, ea2, k2_2, m0_2, er2, n1_2, n2_2⟩ := tL_some hLL e2
    refine z_astore_n [_, _, _, _, _, _, _] C (by decide) rfl dX4_trackAt_5 ?_
    refine z_iload_n C rfl dX4_trackAt_6 ?_
    refine z_if_lt 23 C dX4_trackAt_7 (by decide) (fun c7 => ?_) (fun c7 => ?_)
    · refine z_throwS (text := "the list has no such rank") ["java/lang/RuntimeException", "java/lang/Exception"] C F N (by decide +kernel) (by decide +kernel) (List.mem_cons_of_mem _ wc223) (List.mem_cons_of_mem _ wc224) (by decide +kernel) (fun w h => List.mem_cons_of_mem _ (ac_4 w h)) bc_4 (by decide) (by decide +kernel) dX4_trackAt_23 dX4_trackAt_26 dX4_trackAt_27 dX4_trackAt_29 dX4_trackAt_32 (by rw [hR]; exact Nat.le_of_ble_eq_true rfl) (by rw [hR]; exact Nat.le_of_ble_eq_true rfl) (by rw [hR]; exact Nat.le_of_ble_eq_true rfl) (by rw [hR]; exact Nat.le_of_ble_eq_true rfl) (Nat.le_of_ble_eq_true rfl) (Nat.le_of_ble_eq_true rfl) ?_
      first | exact ⟨rfl, Or.inr ⟨i, hi2, hl2, ex2, fun q => q.1 c7, rfl⟩⟩ | exact ⟨rfl, Or.inr ⟨i, hi2, hl2, ex2, fun q => c20 q.2, rfl⟩⟩
    · refine z_iload_n C rfl dX4_trackAt_10 ?_
      refine z_aload_n C rfl dX4_trackAt_11 ?_
      refine zg4_kept C (fun w h => List.mem_cons_of_mem _ (uc_wsX40 w h)) hS.c (List.mem_cons_of_mem _ wc44) dX4_trackAt_12 ?_
      refine z_ref hS.kp.1 ?_
      refine z_iload_n C rfl dX4_trackAt_15 ?_
      refine z_iaload C hS.kp.2.1 (by rw [hS.kp.2.2, ex2]; exact vp_in_nI hi2 (by decide)) dX4_trackAt_16 ?_
      refine z_int (x' := D 61 i) (by rw [ex2, nI_clamp (by omega)]; exact hK.1 i hi2) ?_
      refine z_callS 1 [zi (D 61 i)] C (C_bitCount hl0 (D 61 i)) rfl (zgoodS LWc_good wc112 wc113 wc114 wc115) rfl rfl rfl (by decide +kernel) rfl (by rw [hR]; exact ⟨Nat.le_of_ble_eq_true rfl, Nat.le_of_ble_eq_true rfl⟩) (by rw [hR]; exact ⟨Nat.le_of_ble_eq_true rfl, Nat.le_of_ble_eq_true rfl⟩) (Nat.le_of_ble_eq_true rfl) dX4_trackAt_17 (fun v17 S17 h17 => ?_) (fun E17 S17 h17 => ?_)
      · obtain ⟨rfl, q17⟩ := h17
        subst S17
        refine z_icmp_lt 33 C dX4_trackAt_20 (by decide) (fun c20 => ?_) (fun c20 => ?_)
        · obtain ⟨j, hj, ej⟩ := nI_of c7
          have hiy : ix y = j := by rw [ej, ix]; exact nI_clamp hj
          have loop : ∀ (n m : Nat), m + n = j → zW X 7 (0 + 1) (0 + 6) S 56 [some (zr (some (L 0))), some (zi x), some (zi y), some (zr (some l9)), some (zi (lfD D (D 59 i) (D 61 i) m)), some (zi (frD D (D 59 i) (lfD D (D 59 i) (D 61 i) m))), some (zi (nI m))] [] := by
            intro n
            induction n with
            | zero =>
              intro m hm
              obtain rfl : m = j := by omega
              refine z_iload C rfl dX4_trackAt_56 ?_
              refine z_iload_n C rfl dX4_trackAt_58 ?_
              refine z_icmp_ge 91 C dX4_trackAt_59 (by decide) (fun c59 => ?_) (fun c59 => ?_)
              · refine z_iload C rfl dX4_trackAt_91 ?_
                refine z_ireturn C F (Nat.le_of_ble_eq_true rfl) (Nat.le_of_ble_eq_true rfl) dX4_trackAt_93 ?_
                exact ⟨i, hi2, hl2, ex2, c7, c20, by rw [hiy], rfl⟩
              · exact absurd (by rw [ej]; exact Int32.le_refl _) c59
            | succ n ih =>
              intro m hm
              refine z_iload C rfl dX4_trackAt_56 ?_
              refine z_iload_n C rfl dX4_trackAt_58 ?_
              refine z_icmp_ge 91 C dX4_trackAt_59 (by decide) (fun c59 => ?_) (fun c59 => ?_)
              · exact absurd c59 (by rw [ej]; exact nI_ge (by omega) hj)
              · refine z_iload C rfl dX4_trackAt_62 ?_
                refine z_iconst 1 (by decide) C dX4_trackAt_64 ?_
                refine z_iload C rfl dX4_trackAt_65 ?_
                refine z_ishl C dX4_trackAt_67 ?_
                refine z_iconst (-1) (by decide) C dX4_trackAt_68 ?_
                refine z_ixor C dX4_trackAt_69 ?_
                refine z_iand C dX4_trackAt_70 ?_
                refine z_istore [_, _, _, _, _, _, _] C (by decide) rfl dX4_trackAt_71 ?_
                refine z_aload_n C rfl dX4_trackAt_73 ?_
                refine z_iload C rfl dX4_trackAt_74 ?_
                refine z_aload_n C rfl dX4_trackAt_76 ?_
                refine zg0_order C (fun w h => List.mem_cons_of_mem _ (uc_wsX00 w h)) k2_2 (List.mem_cons_of_mem _ wc109) dX4_trackAt_77 ?_
                refine z_int n1_2 ?_
                refine z_callC 2 [zi (lfD D (D 59 i) (D 61 i) (m + 1)), zi (D 59 i)] C rfl (C_firstOf hl0 hS hT.k (lfD D (D 59 i) (D 61 i) (m + 1)) (D 59 i)) rfl (zgoodV LWc_good wc116 wc117 wc118 wc58 wc119) rfl rfl rfl (by decide +kernel) rfl (by rw [hR]; exact ⟨Nat.le_of_ble_eq_true rfl, Nat.le_of_ble_eq_true rfl⟩) hS.c (by rw [hR]; exact ⟨Nat.le_of_ble_eq_true rfl, Nat.le_of_ble_eq_true rfl⟩) (Nat.le_of_ble_eq_true rfl) dX4_trackAt_80 (fun v80 S80 h80 => ?_) (fun E80 S80 h80 => ?_)
                · obtain ⟨rfl, q80⟩ := h80
                  subst S80
                  refine z_int (x' := frD D (D 59 i) (lfD D (D 59 i) (D 61 i) (m + 1))) (congrArg (fun z => Option.elim z 0 nI) (hT.first (D 59 i) (lfD D (D 59 i) (D 61 i) (m + 1)))) ?_
                  refine z_istore [_, _, _, _, _, _, _] C (by decide) rfl dX4_trackAt_83 ?_
                  refine z_inc (1) [_, _, _, _, _, _, _] C rfl (by decide) (by decide) rfl dX4_trackAt_85 ?_
                  refine z_goto 56 C dX4_trackAt_88 (by decide) ?_
                  have q := ih (m + 1) (by omega)
                  rw [nI_succ] at q
                  exact q
                · exact h80.elim
          refine z_aload_n C rfl dX4_trackAt_33 ?_
          refine zg4_kept C (fun w h => List.mem_cons_of_mem _ (uc_wsX40 w h)) hS.c (List.mem_cons_of_mem _ wc44) dX4_trackAt_34 ?_
          refine z_ref hS.kp.1 ?_
          refine z_iload_n C rfl dX4_trackAt_37 ?_
          refine z_iaload C hS.kp.2.1 (by rw [hS.kp.2.2, ex2]; exact vp_in_nI hi2 (by decide)) dX4_trackAt_38 ?_
          refine z_int (x' := D 61 i) (by rw [ex2, nI_clamp (by omega)]; exact hK.1 i hi2) ?_
          refine z_istore [_, _, _, _, _, _, _] C (by decide) rfl dX4_trackAt_39 ?_
          refine z_aload_n C rfl dX4_trackAt_41 ?_
          refine z_iload C rfl dX4_trackAt_42 ?_
          refine z_aload_n C rfl dX4_trackAt_44 ?_
          refine zg0_order C (fun w h => List.mem_cons_of_mem _ (uc_wsX00 w h)) k2_2 (List.mem_cons_of_mem _ wc109) dX4_trackAt_45 ?_
          refine z_int n1_2 ?_
          refine z_callC 2 [zi (D 61 i), zi (D 59 i)] C rfl (C_firstOf hl0 hS hT.k (D 61 i) (D 59 i)) rfl (zgoodV LWc_good wc116 wc117 wc118 wc58 wc119) rfl rfl rfl (by decide +kernel) rfl (by rw [hR]; exact ⟨Nat.le_of_ble_eq_true rfl, Nat.le_of_ble_eq_true rfl⟩) hS.c (by rw [hR]; exact ⟨Nat.le_of_ble_eq_true rfl, Nat.le_of_ble_eq_true rfl⟩) (Nat.le_of_ble_eq_true rfl) dX4_trackAt_48 (fun v48 S48 h48 => ?_) (fun E48 S48 h48 => ?_)
          · obtain ⟨rfl, q48⟩ := h48
            subst S48
            refine z_int (x' := frD D (D 59 i) (D 61 i)) (congrArg (fun z => Option.elim z 0 nI) (hT.first (D 59 i) (D 61 i))) ?_
            refine z_istore [_, _, _, _, _, _, _] C (by decide) rfl dX4_trackAt_51 ?_
            refine z_iconst 0 (by decide) C dX4_trackAt_53 ?_
            refine z_istore [_, _, _, _, _, _, _] C (by decide) rfl dX4_trackAt_54 ?_
            exact loop j 0 (by omega)
          · exact h48.elim
        · refine z_throwS (text := "the list has no such rank") ["java/lang/RuntimeException", "java/lang/Exception"] C F N (by decide +kernel) (by decide +kernel) (List.mem_cons_of_mem _ wc223) (List.mem_cons_of_mem _ wc224) (by decide +kernel) (fun w h => List.mem_cons_of_mem _ (ac_4 w h)) bc_4 (by decide) (by decide +kernel) dX4_trackAt_23 dX4_trackAt_26 dX4_trackAt_27 dX4_trackAt_29 dX4_trackAt_32 (by rw [hR]; exact Nat.le_of_ble_eq_true rfl) (by rw [hR]; exact Nat.le_of_ble_eq_true rfl) (by rw [hR]; exact Nat.le_of_ble_eq_true rfl) (by rw [hR]; exact Nat.le_of_ble_eq_true rfl) (Nat.le_of_ble_eq_true rfl) (Nat.le_of_ble_eq_true rfl) ?_
          first | exact ⟨rfl, Or.inr ⟨i, hi2, hl2, ex2, fun q => q.1 c7, rfl⟩⟩ | exact ⟨rfl, Or.inr ⟨i, hi2, hl2, ex2, fun q => c20 q.2, rfl⟩⟩
      · exact h17.elim
  · obtain ⟨e2, rfl, q2⟩ := h2
    subst S2
    exact z_out C F N (Nat.le_of_ble_eq_true rfl) (Nat.le_of_ble_eq_true rfl) ⟨rfl, Or.inl ⟨tL_none hLL e2, rfl⟩⟩
set_option maxRecDepth 100000 in
set_option maxHeartbeats 4000000 in
theorem C_mixes {l : Launch} (hl0 : l.stackTraces = false) {D : ZD} {J : Nat → Int64} {lk : ZL} {as : Nat → Nat} {S : ZM} {L T : Nat → Nat} (hR1 : cR D J lk as S L T) (x : Int32) : zMet l yX4_mixes (Cond.code yX4_mixes cX4_mixes 6 (some .int) :: LWc) ({ frames := 7, cells := 2, slots := 12, locals := 108 } : Room) 2 12 [zr (some (L 0)), zi x] S (zPo (fun v S' => ∃ i : Nat, i < 8 ∧ i < dL D ∧ x = nI i ∧ (∀ q : Nat, q ≤ 24 → lg_cmp (mxD D (D 61 i) q) 2147483647 ≤ 0) ∧ v = some (zi (mxD D (D 61 i) 24).toInt32) ∧ S' = S) (fun E S' => S' = S ∧ ((¬ hasLs D x ∧ E = "java/util/NoSuchElementException") ∨ (∃ i : Nat, i < 8 ∧ i < dL D ∧ x = nI i ∧ ∃ n : Nat, n ≤ 24 ∧ ¬ lg_cmp (mxD D (D 61 i) n) 2147483647 ≤ 0 ∧ E = "java/lang/ArithmeticException")))) := by
  refine zMet.of' [some (zr (some (L 0))), some (zi x), none, none, none, none] hl0 (by decide) rfl (Nat.le_of_ble_eq_true rfl) rfl ?_
  intro X C N hR hN0 hX F
  subst hX
  obtain ⟨hX0, hV, hK, hU, hQ, hF⟩ := id hR1
  obtain ⟨hS, hT, hG, hRR, hLL, hA, hday, hpl, hO, hAc⟩ := id hX0
  refine z_aload_n C rfl dX4_mixes_0 ?_
  refine z_iload_n C rfl dX4_mixes_1 ?_
  refine z_callC 1 [zi x] C rfl (C_needList hl0 hS x) rfl (zgoodV LWc_good wc203 wc204 wc205 wc58 wc206) rfl rfl rfl (by decide +kernel) rfl (by rw [hR]; exact ⟨Nat.le_of_ble_eq_true rfl, Nat.le_of_ble_eq_true rfl⟩) hS.c (by rw [hR]; exact ⟨Nat.le_of_ble_eq_true rfl, Nat.le_of_ble_eq_true rfl⟩) (Nat.le_of_ble_eq_true rfl) dX4_mixes_2 (fun v2 S2 h2 => ?_) (fun E2 S2 h2 => ?_)
  · obtain ⟨l9, e2, rfl, q2⟩ := h2
    subst S2
    obtain ⟨i, rr, hi2, hl2, ex2, ea2, k2_2, m0_2, er2, n1_2, n2_2⟩ := tL_some hLL e2
    refine z_pop rfl C dX4_mixes_5 ?_
    have loop : ∀ (m n : Nat) (w5 : Option ZV), n + m = 24 → (∀ q : Nat, q ≤ n → lg_cmp (mxD D (D 61 i) q) 2147483647 ≤ 0) → zW X 6 (0 + 1) (0 + 6) S 11 [some (zr (some (L 0))), some (zi x), some (zj (mxD D (D 61 i) n)), none, some (zi (nI n)), w5] [] := by
      intro m
      induction m with
      | zero =>
        intro n w5 hn hok
        obtain rfl : n = 24 := by omega
        refine z_iload C rfl dX4_mixes_11 ?_
        refine z_bipush 24 (by decide) C dX4_mixes_13 ?_
        refine z_icmp_ge 81 C dX4_mixes_15 (by decide) (fun c15 => ?_) (fun c15 => ?_)
        · refine z_lload_n C rfl dX4_mixes_81 ?_
          refine z_l2i C dX4_mixes_82 ?_
          refine z_ireturn C F (Nat.le_of_ble_eq_true rfl) (Nat.le_of_ble_eq_true rfl) dX4_mixes_83 ?_
          exact ⟨i, hi2, hl2, ex2, hok, rfl, rfl⟩
        · exact absurd (by decide) c15
      | succ m ih =>
        intro n w5 hn hok
        have hn24 : n < 24 := by omega
        have fin : ∀ (z : Int64) (w5 : Option ZV), mxD D (D 61 i) (n + 1) = z → lg_cmp z 2147483647 ≤ 0 → zW X 6 (0 + 1) (0 + 6) S 11 [some (zr (some (L 0))), some (zi x), some (zj z), none, some (zi (nI n + 1)), w5] [] := by
          intro z w5 e e2
          have q := ih (n + 1) w5 (by omega) (fun r hr => by
            by_cases h : r = n + 1
            · rw [h, e]; exact e2
            · exact hok r (by omega))
          rw [e, nI_succ] at q
          exact q
        have hno : ∀ b : Bool, (prD D n && hasB (D 61 i) (nI n)) = false → mxD D (D 61 i) (n + 1) = mxD D (D 61 i) n := fun _ hb => by
          simp only [mxD]; exact if_neg (fun q => by rw [q.1, q.2] at hb; cases hb)
        refine z_iload C rfl dX4_mixes_11 ?_
        refine z_bipush 24 (by decide) C dX4_mixes_13 ?_
        refine z_icmp_ge 81 C dX4_mixes_15 (by decide) (fun c15 => ?_) (fun c15 => ?_)
        · exact absurd c15 (n24 hn24)
        · refine z_aload_n C rfl dX4_mixes_18 ?_
          refine z_iload C rfl dX4_mixes_19 ?_
          refine z_callC 1 [zi (nI n)] C rfl (C_trackOrNull hl0 hS (nI n)) rfl (zgoodV LWc_good wc55 wc56 wc57 wc58 wc59) rfl rfl rfl (by decide +kernel) rfl (by rw [hR]; exact ⟨Nat.le_of_ble_eq_true rfl, Nat.le_of_ble_eq_true rfl⟩) hS.c (by rw [hR]; exact ⟨Nat.le_of_ble_eq_true rfl, Nat.le_of_ble_eq_true rfl⟩) (Nat.le_of_ble_eq_true rfl) dX4_mixes_21 (fun v21 S21 h21 => ?_) (fun E21 S21 h21 => ?_)
          · obtain ⟨rfl, q21⟩ := h21
            subst S21
            refine z_ref (cAt_nI hn24 (by decide)) ?_
            refine z_astore [_, _, _, _, _, _] C (by decide) rfl dX4_mixes_24 ?_
            refine z_aload C rfl dX4_mixes_26 ?_
            refine z_ifnull 75 C dX4_mixes_28 (by decide) (fun c28 => ?_) (fun a28 c28 => ?_)
            · refine z_inc (1) [_, _, _, _, _, _] C rfl (by decide) (by decide) rfl dX4_mixes_75 ?_
              refine z_goto 11 C dX4_mixes_78 (by decide) ?_
              first | exact fin _ _ hmul c61 | exact fin _ _ (hno true (by rw [tr_no hT hn24 c28]; rfl)) (hok n (Nat.le_refl n)) | exact fin _ _ (hno true (by rw [bI_eq.mp c42, Bool.and_false])) (hok n (Nat.le_refl n))
            · obtain ⟨hp, k5, n16, n17, n18, n19, n20, n21⟩ := hT.at hn24 c28
              refine z_aload_n C rfl dX4_mixes_31 ?_
              refine zg4_kept C (fun w h => List.mem_cons_of_mem _ (uc_wsX40 w h)) hS.c (List.mem_cons_of_mem _ wc44) dX4_mixes_32 ?_
              refine z_ref hS.kp.1 ?_
              refine z_iload_n C rfl dX4_mixes_35 ?_
              refine z_iaload C hS.kp.2.1 (by rw [hS.kp.2.2, ex2]; exact vp_in_nI hi2 (by decide)) dX4_mixes_36 ?_
              refine z_int (x' := D 61 i) (by rw [ex2, nI_clamp (by omega)]; exact hK.1 i hi2) ?_
              refine z_iload C rfl dX4_mixes_37 ?_
              refine z_callS 2 [zi (D 61 i), zi (nI n)] C (C_hasBit hl0 (D 61 i) (nI n)) rfl (zgoodS LWc_good wc102 wc103 wc58 wc104) rfl rfl rfl (by decide +kernel) rfl (by rw [hR]; exact ⟨Nat.le_of_ble_eq_true rfl, Nat.le_of_ble_eq_true rfl⟩) (by rw [hR]; exact ⟨Nat.le_of_ble_eq_true rfl, Nat.le_of_ble_eq_true rfl⟩) (Nat.le_of_ble_eq_true rfl) dX4_mixes_39 (fun v39 S39 h39 => ?_) (fun E39 S39 h39 => ?_)
              · obtain ⟨rfl, q39⟩ := h39
                subst S39
                refine z_if_eq 75 C dX4_mixes_42 (by decide) (fun c42 => ?_) (fun c42 => ?_)
                · refine z_inc (1) [_, _, _, _, _, _] C rfl (by decide) (by decide) rfl dX4_mixes_75 ?_
                  refine z_goto 11 C dX4_mixes_78 (by decide) ?_
                  first | exact fin _ _ hmul c61 | exact fin _ _ (hno true (by rw [tr_no hT hn24 c28]; rfl)) (hok n (Nat.le_refl n)) | exact fin _ _ (hno true (by rw [bI_eq.mp c42, Bool.and_false])) (hok n (Nat.le_refl n))
                · have hmul : mxD D (D 61 i) (n + 1) = mxD D (D 61 i) n * (D 44 n + 1).toInt64 := if_pos ⟨hp, bI_ne.mp c42⟩
                  refine z_lload_n C rfl dX4_mixes_45 ?_
                  refine z_aload C rfl dX4_mixes_46 ?_
                  refine z_ref c28 ?_
                  refine zg3_plays C (fun w h => List.mem_cons_of_mem _ (uc_wsX30 w h)) k5 (List.mem_cons_of_mem _ wc68) dX4_mixes_48 ?_
                  refine z_int n19 ?_
                  refine z_iconst 1 (by decide) C dX4_mixes_51 ?_
                  refine z_iadd C dX4_mixes_52 ?_
                  refine z_i2l C dX4_mixes_53 ?_
                  refine z_lmul C dX4_mixes_54 ?_
                  refine z_lstore_n [_, _, _, _, _, _] C (by decide) rfl dX4_mixes_55 ?_
                  refine z_lload_n C rfl dX4_mixes_56 ?_
                  refine z_ldc2_w C (List.mem_cons_of_mem _ wc238) dX4_mixes_57 ?_
                  refine z_lcmp C dX4_mixes_60 ?_
                  refine z_if_le 75 C dX4_mixes_61 (by decide) (fun c61 => ?_) (fun c61 => ?_)
                  · refine z_inc (1) [_, _, _, _, _, _] C rfl (by decide) (by decide) rfl dX4_mixes_75 ?_
                    refine z_goto 11 C dX4_mixes_78 (by decide) ?_
                    first | exact fin _ _ hmul c61 | exact fin _ _ (hno true (by rw [tr_no hT hn24 c28]; rfl)) (hok n (Nat.le_refl n)) | exact fin _ _ (hno true (by rw [bI_eq.mp c42, Bool.and_false])) (hok n (Nat.le_refl n))
                  · refine z_throwSW (text := "the product is too great") ["java/lang/RuntimeException", "java/lang/Exception"] C F N (by decide +kernel) (by decide +kernel) (List.mem_cons_of_mem _ wc236) (List.mem_cons_of_mem _ wc237) (by decide +kernel) (fun w h => List.mem_cons_of_mem _ (ac_5 w h)) bc_5 (by decide) (by decide +kernel) dX4_mixes_64 dX4_mixes_67 dX4_mixes_68 dX4_mixes_71 dX4_mixes_74 (by rw [hR]; exact Nat.le_of_ble_eq_true rfl) (by rw [hR]; exact Nat.le_of_ble_eq_true rfl) (by rw [hR]; exact Nat.le_of_ble_eq_true rfl) (by rw [hR]; exact Nat.le_of_ble_eq_true rfl) (Nat.le_of_ble_eq_true rfl) (Nat.le_of_ble_eq_true rfl) ?_
                    exact ⟨rfl, Or.inr ⟨i, hi2, hl2, ex2, n + 1, hn24, by rw [hmul]; exact c61, rfl⟩⟩
              · exact h39.elim
          · exact h21.elim
    have ok0 : ∀ q : Nat, q ≤ 0 → lg_cmp (mxD D (D 61 i) q) 2147483647 ≤ 0 := fun q hq => by
      have e : q = 0 := Nat.le_zero.mp hq
      subst e
      show lg_cmp (1 : Int64) 2147483647 ≤ 0
      decide
    refine z_lconst 1 (by decide) C dX4_mixes_6 ?_
    refine z_lstore_n [_, _, _, _, _, _] C (by decide) rfl dX4_mixes_7 ?_
    refine z_iconst 0 (by decide) C dX4_mixes_8 ?_
    refine z_istore [_, _, _, _, _, _] C (by decide) rfl dX4_mixes_9 ?_
    exact loop 24 0 none rfl ok0
  · obtain ⟨e2, rfl, q2⟩ := h2
    subst S2
    exact z_out C F N (Nat.le_of_ble_eq_true rfl) (Nat.le_of_ble_eq_true rfl) ⟨rfl, Or.inl ⟨tL_none hLL e2, rfl⟩⟩
