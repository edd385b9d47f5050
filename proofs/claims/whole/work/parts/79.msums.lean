/-! the reference: sums and products of lists, matches -/
def lsm (f : Nat → Int32) (tk : List Nat) : Int32 := tk.foldl (fun s j => s + f j) 0
theorem lsm_app (f : Nat → Int32) (tk : List Nat) (j : Nat) : lsm f (tk ++ [j]) = lsm f tk + f j := by
  unfold lsm
  rw [List.foldl_append]; rfl
theorem take_succ {tk : List Nat} {k j : Nat} (h : tk[k]? = some j) : tk.take (k + 1) = tk.take k ++ [j] := by
  rw [List.take_add_one, h]; rfl
theorem tkD_in {D : ZD} {l k j : Nat} (h : (tkD D l)[k]? = some j) : j < 24 ∧ prD D j = true := by
  have := chL_in (List.mem_of_getElem? h)
  exact ⟨this.1, this.2.1⟩
theorem get_some {tk : List Nat} {k : Nat} (h : k < tk.length) : ∃ j : Nat, tk[k]? = some j := ⟨tk[k], List.getElem?_eq_getElem h⟩
/-- a product, stopped where it grows too great -/
def prP (f : Nat → Int64) : Int64 → List Nat → Int64
  | p, [] => p
  | p, j :: l => if lg_cmp p 2147483647 ≤ 0 then prP f (p * f j) l else p
/-- a list's number -/
theorem ls_nI {D : ZD} {x : Int32} (h : hasLs D x) : ∃ i : Nat, i < 8 ∧ i < dL D ∧ x = nI i ∧ ix x = i := by
  obtain ⟨h1, h2, h3⟩ := h.d
  exact ⟨_, h1, h2, h3, rfl⟩
theorem idx24 {i k : Nat} : (24 : Int32) * nI i + nI k = nI (24 * i + k) := by
  rw [show (24 : Int32) * nI i = nI (24 * i) from pk_mul 24 i, nI_add]
theorem tr_b {D : ZD} (hW : wfM D) {x y : Int32} (hx : hasLs D x) (hy : 0 ≤ y ∧ y ≤ D 64 (ix x) - 1) : ∃ n : Nat, 24 * x + y = nI n ∧ n < 192 := by
  have w := hx.d
  have hg := hW _ w.2.1
  have := tkD_len D (ix x)
  obtain ⟨k, hk, rfl⟩ := (in_lt (by omega) hg.2.1).mp hy
  refine ⟨24 * ix x + k, ?_, by omega⟩
  conv => lhs; rw [w.2.2]
  exact idx24

set_option maxRecDepth 100000 in
set_option maxHeartbeats 4000000 in
theorem M_secondsIn {l : Launch} (hl0 : l.stackTraces = false) {D : ZD} {J : Nat → Int64} {S : ZM} {M : Nat} {r : Nat → Nat} (hM : mR D J S M r) (hW : wfM D) {i : Nat} (hi : i < dL D) (hi8 : i < 8) : zMet l yX5_secondsIn (Cond.code yX5_secondsIn cX5_secondsIn 4 (some .int) :: LWm) ({ frames := 0, cells := 0, slots := 0, locals := 0 } : Room) 0 0 [zr (some M), zi (nI i)] S (zPo (fun v S' => v = some (zi (lsm (fun j => D 42 j) (tkD D i))) ∧ S' = S) (fun _ _ => False)) := by
  refine zMet.of' [some (zr (some M)), some (zi (nI i)), none, none] hl0 (by decide) rfl (Nat.le_of_ble_eq_true rfl) rfl ?_
  intro X C N hR hN0 hX F
  subst hX
  have hg := hW i hi
  have hl := tkD_len D i
  have loop : ∀ (m k : Nat), k + m = (tkD D i).length → zW X 4 0 0 S 4 [some (zr (some M)), some (zi (nI i)), some (zi (lsm (fun j => D 42 j) ((tkD D i).take k))), some (zi (nI k))] [] := by
    intro m
    induction m with
    | zero =>
      intro k hk
      obtain rfl : k = (tkD D i).length := by omega
      refine z_iload_n C rfl dX5_secondsIn_4 ?_
      refine z_aload_n C rfl dX5_secondsIn_5 ?_
      refine zg5_many C (fun w h => List.mem_cons_of_mem _ (um_wsX50 w h)) hM.1 (List.mem_cons_of_mem _ wm25) dX5_secondsIn_6 ?_
      refine z_ref (hM.q 64 rfl) ?_
      refine z_iload_n C rfl dX5_secondsIn_9 ?_
      refine z_iaload C (hM.k 64 rfl) (hM.b' 64 rfl (⟨i, rfl, by show i < 8; omega⟩) (by decide)) dX5_secondsIn_10 ?_
      refine z_int (hM.t 64 rfl (by decide) _) ?_
      refine z_int (x' := nI (tkD D i).length) ((congrArg _ (nI_clamp (by omega))).trans hg.2.1) ?_
      refine z_icmp_ge 39 C dX5_secondsIn_11 (by decide) (fun c11 => ?_) (fun c11 => ?_)
      · refine z_iload_n C rfl dX5_secondsIn_39 ?_
        refine z_ireturn C F (Nat.le_of_ble_eq_true rfl) (Nat.le_of_ble_eq_true rfl) dX5_secondsIn_40 ?_
        exact ⟨by rw [List.take_length], rfl⟩
      · exact absurd (Int32.le_refl _) c11
    | succ m ih =>
      intro k hk
      obtain ⟨j, hj⟩ := get_some (show k < (tkD D i).length by omega)
      have hj24 := (tkD_in hj).1
      refine z_iload_n C rfl dX5_secondsIn_4 ?_
      refine z_aload_n C rfl dX5_secondsIn_5 ?_
      refine zg5_many C (fun w h => List.mem_cons_of_mem _ (um_wsX50 w h)) hM.1 (List.mem_cons_of_mem _ wm25) dX5_secondsIn_6 ?_
      refine z_ref (hM.q 64 rfl) ?_
      refine z_iload_n C rfl dX5_secondsIn_9 ?_
      refine z_iaload C (hM.k 64 rfl) (hM.b' 64 rfl (⟨i, rfl, by show i < 8; omega⟩) (by decide)) dX5_secondsIn_10 ?_
      refine z_int (hM.t 64 rfl (by decide) _) ?_
      refine z_int (x' := nI (tkD D i).length) ((congrArg _ (nI_clamp (by omega))).trans hg.2.1) ?_
      refine z_icmp_ge 39 C dX5_secondsIn_11 (by decide) (fun c11 => ?_) (fun c11 => ?_)
      · exact absurd c11 (n_ge (by omega) (by omega))
      · refine z_iload_n C rfl dX5_secondsIn_14 ?_
        refine z_aload_n C rfl dX5_secondsIn_15 ?_
        refine zg5_length C (fun w h => List.mem_cons_of_mem _ (um_wsX50 w h)) hM.1 (List.mem_cons_of_mem _ wm4) dX5_secondsIn_16 ?_
        refine z_ref (hM.q 42 rfl) ?_
        refine z_aload_n C rfl dX5_secondsIn_19 ?_
        refine zg5_ranked C (fun w h => List.mem_cons_of_mem _ (um_wsX50 w h)) hM.1 (List.mem_cons_of_mem _ wm24) dX5_secondsIn_20 ?_
        refine z_ref (hM.q 63 rfl) ?_
        refine z_bipush 24 (by decide) C dX5_secondsIn_23 ?_
        refine z_iload_n C rfl dX5_secondsIn_25 ?_
        refine z_imul C dX5_secondsIn_26 ?_
        refine z_iload_n C rfl dX5_secondsIn_27 ?_
        refine z_iadd C dX5_secondsIn_28 ?_
        refine z_iaload C (hM.k 63 rfl) (hM.b' 63 rfl (⟨24 * i + k, idx24, by show _ < 192; omega⟩) (by decide)) dX5_secondsIn_29 ?_
        refine z_int (hM.t 63 rfl (by decide) _) ?_
        refine z_int (x' := nI j) (by rw [idx24, nI_clamp (by omega)]; exact hg.2.2 k j hj) ?_
        refine z_iaload C (hM.k 42 rfl) (hM.b' 42 rfl (⟨j, rfl, hj24⟩) (by decide)) dX5_secondsIn_30 ?_
        refine z_int (hM.t 42 rfl (by decide) _) ?_
        refine z_int (x' := D 42 j) (congrArg _ (nI_clamp (by omega))) ?_
        refine z_iadd C dX5_secondsIn_31 ?_
        refine z_istore_n [_, _, _, _] C (by decide) rfl dX5_secondsIn_32 ?_
        refine z_inc (1) [_, _, _, _] C rfl (by decide) (by decide) rfl dX5_secondsIn_33 ?_
        refine z_goto 4 C dX5_secondsIn_36 (by decide) ?_
        have q := ih (k + 1) (by omega)
        rw [take_succ hj, lsm_app, nI_succ] at q
        exact q
  refine z_iconst 0 (by decide) C dX5_secondsIn_0 ?_
  refine z_istore_n [_, _, _, _] C (by decide) rfl dX5_secondsIn_1 ?_
  refine z_iconst 0 (by decide) C dX5_secondsIn_2 ?_
  refine z_istore_n [_, _, _, _] C (by decide) rfl dX5_secondsIn_3 ?_
  exact loop (tkD D i).length 0 (by omega)
theorem M_secondsInX {l : Launch} (hl0 : l.stackTraces = false) {D : ZD} {J : Nat → Int64} {S : ZM} {M : Nat} {r : Nat → Nat} (hM : mR D J S M r) (hW : wfM D) {x : Int32} (hx : hasLs D x) : zMet l yX5_secondsIn (Cond.code yX5_secondsIn cX5_secondsIn 4 (some .int) :: LWm) ({ frames := 0, cells := 0, slots := 0, locals := 0 } : Room) 0 0 [zr (some M), zi x] S (zPo (fun v S' => v = some (zi (lsm (fun j => D 42 j) (tkD D (ix x)))) ∧ S' = S) (fun _ _ => False)) := by
  have w := hx.d
  have q := M_secondsIn hl0 hM hW w.2.1 w.1
  rw [← w.2.2] at q
  exact q
set_option maxRecDepth 100000 in
set_option maxHeartbeats 4000000 in
theorem M_secondsOf {l : Launch} (hl0 : l.stackTraces = false) {D : ZD} {J : Nat → Int64} {S : ZM} {M : Nat} {r : Nat → Nat} (hM0 : iM D J S M r) (h39 : D 39 0 = 0) (hC : wC D) (hW : wfM D) (x : Int32) : zMet l yX5_secondsOf (Cond.code yX5_secondsOf cX5_secondsOf 2 (some .int) :: LWm) ({ frames := 2, cells := 0, slots := 0, locals := 43 } : Room) 0 0 [zr (some M), zi x] S (zPo (fun v S' => (hasLs D x ∧ v = some (zi (lsm (fun j => D 42 j) (tkD D (ix x)))) ∧ mR D J S' M r) ∨ (¬ hasLs D x ∧ v = some (zi 0) ∧ mR (s39 D 1) J S' M r)) (fun _ _ => False)) := by
  refine zMet.of' [some (zr (some M)), some (zi x)] hl0 (by decide) rfl (Nat.le_of_ble_eq_true rfl) rfl ?_
  intro X C N hR hN0 hX F
  subst hX
  have hN := hC.1
  obtain ⟨w0, hM⟩ := id hM0
  refine z_aload_n C rfl dX5_secondsOf_0 ?_
  refine z_iconst 0 (by decide) C dX5_secondsOf_1 ?_
  refine zp5_thrown C (fun w h => List.mem_cons_of_mem _ (um_wsX50 w h)) hM.1 (List.mem_cons_of_mem _ wm33) dX5_secondsOf_2 ?_
  have hM := hM0.th h39
  refine z_aload_n C rfl dX5_secondsOf_5 ?_
  refine z_aload_n C rfl dX5_secondsOf_6 ?_
  refine z_iload_n C rfl dX5_secondsOf_7 ?_
  refine z_callM 1 [zi x] C rfl (M_noList hl0 hM hN x) rfl (zgoodV LWm_good wm103 wm104 wm105 wm37 wm106) rfl rfl rfl (by decide +kernel) rfl (by rw [hR]; exact ⟨Nat.le_of_ble_eq_true rfl, Nat.le_of_ble_eq_true rfl⟩) hM.1 (by rw [hR]; exact ⟨Nat.le_of_ble_eq_true rfl, Nat.le_of_ble_eq_true rfl⟩) (Nat.le_of_ble_eq_true rfl) dX5_secondsOf_8 (fun v8 S8 h8 => ?_) (fun E8 S8 h8 => ?_)
  · obtain ⟨b8, rfl, hb8, q8⟩ := h8
    subst S8
    refine z_iconst 1 (by decide) C dX5_secondsOf_11 ?_
    cases b8 with
    | false =>
      have y8 := hb8.mp rfl
      refine z_callM 2 [zi (bI false), zi 1] C rfl (M_fails0 hl0 hM h39 (bI false) 1 (by decide)) rfl (zgoodV LWm_good wm64 wm65 wm66 wm37 wm67) rfl rfl rfl (by decide +kernel) rfl (by rw [hR]; exact ⟨Nat.le_of_ble_eq_true rfl, Nat.le_of_ble_eq_true rfl⟩) hM.1 (by rw [hR]; exact ⟨Nat.le_of_ble_eq_true rfl, Nat.le_of_ble_eq_true rfl⟩) (Nat.le_of_ble_eq_true rfl) dX5_secondsOf_12 (fun v12 S12 h12 => ?_) (fun E12 S12 h12 => ?_)
      · obtain ⟨rfl, q12⟩ := h12
        subst S12
        refine z_if_eq 22 C dX5_secondsOf_15 (by decide) (fun _ => ?_) (fun c15 => absurd c15 (by decide))
        refine z_aload_n C rfl dX5_secondsOf_22 ?_
        refine z_iload_n C rfl dX5_secondsOf_23 ?_
        refine z_callM 1 [zi x] C rfl (M_secondsInX hl0 hM hW y8) rfl (zgoodV LWm_good wm130 wm131 wm132 wm37 wm133) rfl rfl rfl (by decide +kernel) rfl (by rw [hR]; exact ⟨Nat.le_of_ble_eq_true rfl, Nat.le_of_ble_eq_true rfl⟩) hM.1 (by rw [hR]; exact ⟨Nat.le_of_ble_eq_true rfl, Nat.le_of_ble_eq_true rfl⟩) (Nat.le_of_ble_eq_true rfl) dX5_secondsOf_24 (fun v24 S24 h24 => ?_) (fun E24 S24 h24 => ?_)
        · obtain ⟨rfl, q24⟩ := h24
          subst S24
          refine z_ireturn C F (Nat.le_of_ble_eq_true rfl) (Nat.le_of_ble_eq_true rfl) dX5_secondsOf_27 ?_
          exact Or.inl ⟨y8, rfl, hM⟩
        · exact h24.elim
      · exact h12.elim
    | true =>
      have y8 := b_tf hb8
      refine z_callM 2 [zi (bI true), zi 1] C rfl (M_fails1 hl0 hM h39 (bI true) 1 (by decide)) rfl (zgoodV LWm_good wm64 wm65 wm66 wm37 wm67) rfl rfl rfl (by decide +kernel) rfl (by rw [hR]; exact ⟨Nat.le_of_ble_eq_true rfl, Nat.le_of_ble_eq_true rfl⟩) hM.1 (by rw [hR]; exact ⟨Nat.le_of_ble_eq_true rfl, Nat.le_of_ble_eq_true rfl⟩) (Nat.le_of_ble_eq_true rfl) dX5_secondsOf_12 (fun v12 S12 h12 => ?_) (fun E12 S12 h12 => ?_)
      · obtain ⟨rfl, hM⟩ := h12
        refine z_if_eq 22 C dX5_secondsOf_15 (by decide) (fun c15 => absurd c15 (by decide)) (fun _ => ?_)
        refine z_iconst 0 (by decide) C dX5_secondsOf_18 ?_
        refine z_goto 27 C dX5_secondsOf_19 (by decide) ?_
        refine z_ireturn C F (Nat.le_of_ble_eq_true rfl) (Nat.le_of_ble_eq_true rfl) dX5_secondsOf_27 ?_
        exact Or.inr ⟨y8, rfl, hM⟩
      · exact h12.elim
  · exact h8.elim
set_option maxRecDepth 100000 in
set_option maxHeartbeats 4000000 in
theorem M_meanLength {l : Launch} (hl0 : l.stackTraces = false) {D : ZD} {J : Nat → Int64} {S : ZM} {M : Nat} {r : Nat → Nat} (hM0 : iM D J S M r) (h39 : D 39 0 = 0) (hC : wC D) (hW : wfM D) (x : Int32) : zMet l yX5_meanLength (Cond.code yX5_meanLength cX5_meanLength 2 (some .double) :: LWm) ({ frames := 2, cells := 0, slots := 0, locals := 43 } : Room) 0 0 [zr (some M), zi x] S (zPo (fun v S' => (hasLs D x ∧ ¬ D 64 (ix x) = 0 ∧ v = some (zd (FP.ddiv (FP.i2d (lsm (fun j => D 42 j) (tkD D (ix x)))) (FP.i2d (D 64 (ix x))))) ∧ mR D J S' M r) ∨ (¬ hasLs D x ∧ v = some (zd 0) ∧ mR (s39 D 1) J S' M r) ∨ (hasLs D x ∧ D 64 (ix x) = 0 ∧ v = some (zd 0) ∧ mR (s39 D 2) J S' M r)) (fun _ _ => False)) := by
  refine zMet.of' [some (zr (some M)), some (zi x)] hl0 (by decide) rfl (Nat.le_of_ble_eq_true rfl) rfl ?_
  intro X C N hR hN0 hX F
  subst hX
  have hN := hC.1
  obtain ⟨w0, hM⟩ := id hM0
  refine z_aload_n C rfl dX5_meanLength_0 ?_
  refine z_iconst 0 (by decide) C dX5_meanLength_1 ?_
  refine zp5_thrown C (fun w h => List.mem_cons_of_mem _ (um_wsX50 w h)) hM.1 (List.mem_cons_of_mem _ wm33) dX5_meanLength_2 ?_
  have hM := hM0.th h39
  refine z_aload_n C rfl dX5_meanLength_5 ?_
  refine z_aload_n C rfl dX5_meanLength_6 ?_
  refine z_iload_n C rfl dX5_meanLength_7 ?_
  refine z_callM 1 [zi x] C rfl (M_noList hl0 hM hN x) rfl (zgoodV LWm_good wm103 wm104 wm105 wm37 wm106) rfl rfl rfl (by decide +kernel) rfl (by rw [hR]; exact ⟨Nat.le_of_ble_eq_true rfl, Nat.le_of_ble_eq_true rfl⟩) hM.1 (by rw [hR]; exact ⟨Nat.le_of_ble_eq_true rfl, Nat.le_of_ble_eq_true rfl⟩) (Nat.le_of_ble_eq_true rfl) dX5_meanLength_8 (fun v8 S8 h8 => ?_) (fun E8 S8 h8 => ?_)
  · obtain ⟨b8, rfl, hb8, q8⟩ := h8
    subst S8
    refine z_iconst 1 (by decide) C dX5_meanLength_11 ?_
    cases b8 with
    | false =>
      have y8 := hb8.mp rfl
      refine z_callM 2 [zi (bI false), zi 1] C rfl (M_fails0 hl0 hM h39 (bI false) 1 (by decide)) rfl (zgoodV LWm_good wm64 wm65 wm66 wm37 wm67) rfl rfl rfl (by decide +kernel) rfl (by rw [hR]; exact ⟨Nat.le_of_ble_eq_true rfl, Nat.le_of_ble_eq_true rfl⟩) hM.1 (by rw [hR]; exact ⟨Nat.le_of_ble_eq_true rfl, Nat.le_of_ble_eq_true rfl⟩) (Nat.le_of_ble_eq_true rfl) dX5_meanLength_12 (fun v12 S12 h12 => ?_) (fun E12 S12 h12 => ?_)
      · obtain ⟨rfl, q12⟩ := h12
        subst S12
        refine z_if_ne 40 C dX5_meanLength_15 (by decide) (fun c15 => absurd c15 (by decide)) (fun _ => ?_)
        refine z_aload_n C rfl dX5_meanLength_18 ?_
        refine z_aload_n C rfl dX5_meanLength_19 ?_
        refine zg5_many C (fun w h => List.mem_cons_of_mem _ (um_wsX50 w h)) hM.1 (List.mem_cons_of_mem _ wm25) dX5_meanLength_20 ?_
        refine z_ref (hM.q 64 rfl) ?_
        refine z_iload_n C rfl dX5_meanLength_23 ?_
        refine z_iaload C (hM.k 64 rfl) (hM.b' 64 rfl (y8.b) (by decide)) dX5_meanLength_24 ?_
        refine z_int (hM.t 64 rfl (by decide) _) ?_
        refine z_if_ne 32 C dX5_meanLength_25 (by decide) (fun c25 => ?_) (fun c25 => ?_)
        · refine z_iconst 0 (by decide) C dX5_meanLength_32 ?_
          refine z_iconst 2 (by decide) C dX5_meanLength_33 ?_
          refine z_callM 2 [zi (0), zi 2] C rfl (M_fails0 hl0 hM h39 0 2 (by decide)) rfl (zgoodV LWm_good wm64 wm65 wm66 wm37 wm67) rfl rfl rfl (by decide +kernel) rfl (by rw [hR]; exact ⟨Nat.le_of_ble_eq_true rfl, Nat.le_of_ble_eq_true rfl⟩) hM.1 (by rw [hR]; exact ⟨Nat.le_of_ble_eq_true rfl, Nat.le_of_ble_eq_true rfl⟩) (Nat.le_of_ble_eq_true rfl) dX5_meanLength_34 (fun v34 S34 h34 => ?_) (fun E34 S34 h34 => ?_)
          · obtain ⟨rfl, q34⟩ := h34
            subst S34
            refine z_if_eq 44 C dX5_meanLength_37 (by decide) (fun _ => ?_) (fun c37 => absurd c37 (by decide))
            refine z_aload_n C rfl dX5_meanLength_44 ?_
            refine z_iload_n C rfl dX5_meanLength_45 ?_
            refine z_callM 1 [zi x] C rfl (M_secondsInX hl0 hM hW y8) rfl (zgoodV LWm_good wm130 wm131 wm132 wm37 wm133) rfl rfl rfl (by decide +kernel) rfl (by rw [hR]; exact ⟨Nat.le_of_ble_eq_true rfl, Nat.le_of_ble_eq_true rfl⟩) hM.1 (by rw [hR]; exact ⟨Nat.le_of_ble_eq_true rfl, Nat.le_of_ble_eq_true rfl⟩) (Nat.le_of_ble_eq_true rfl) dX5_meanLength_46 (fun v46 S46 h46 => ?_) (fun E46 S46 h46 => ?_)
            · obtain ⟨rfl, q46⟩ := h46
              subst S46
              refine z_i2d C dX5_meanLength_49 ?_
              refine z_aload_n C rfl dX5_meanLength_50 ?_
              refine zg5_many C (fun w h => List.mem_cons_of_mem _ (um_wsX50 w h)) hM.1 (List.mem_cons_of_mem _ wm25) dX5_meanLength_51 ?_
              refine z_ref (hM.q 64 rfl) ?_
              refine z_iload_n C rfl dX5_meanLength_54 ?_
              refine z_iaload C (hM.k 64 rfl) (hM.b' 64 rfl (y8.b) (by decide)) dX5_meanLength_55 ?_
              refine z_int (hM.t 64 rfl (by decide) _) ?_
              refine z_i2d C dX5_meanLength_56 ?_
              refine z_ddiv (ddiv_ok c25) C dX5_meanLength_57 ?_
              refine z_dreturn C F (Nat.le_of_ble_eq_true rfl) (Nat.le_of_ble_eq_true rfl) dX5_meanLength_58 ?_
              exact Or.inl ⟨y8, c25, rfl, hM⟩
            · exact h46.elim
          · exact h34.elim
        · refine z_iconst 1 (by decide) C dX5_meanLength_28 ?_
          refine z_goto 33 C dX5_meanLength_29 (by decide) ?_
          refine z_iconst 2 (by decide) C dX5_meanLength_33 ?_
          refine z_callM 2 [zi (1), zi 2] C rfl (M_fails1 hl0 hM h39 1 2 (by decide)) rfl (zgoodV LWm_good wm64 wm65 wm66 wm37 wm67) rfl rfl rfl (by decide +kernel) rfl (by rw [hR]; exact ⟨Nat.le_of_ble_eq_true rfl, Nat.le_of_ble_eq_true rfl⟩) hM.1 (by rw [hR]; exact ⟨Nat.le_of_ble_eq_true rfl, Nat.le_of_ble_eq_true rfl⟩) (Nat.le_of_ble_eq_true rfl) dX5_meanLength_34 (fun v34 S34 h34 => ?_) (fun E34 S34 h34 => ?_)
          · obtain ⟨rfl, hM⟩ := h34
            refine z_if_eq 44 C dX5_meanLength_37 (by decide) (fun c37 => absurd c37 (by decide)) (fun _ => ?_)
            refine z_dconst0 C dX5_meanLength_40 ?_
            refine z_goto 58 C dX5_meanLength_41 (by decide) ?_
            refine z_dreturn C F (Nat.le_of_ble_eq_true rfl) (Nat.le_of_ble_eq_true rfl) dX5_meanLength_58 ?_
            exact Or.inr (Or.inr ⟨y8, c25, rfl, hM⟩)
          · exact h34.elim
      · exact h12.elim
    | true =>
      have y8 := b_tf hb8
      refine z_callM 2 [zi (bI true), zi 1] C rfl (M_fails1 hl0 hM h39 (bI true) 1 (by decide)) rfl (zgoodV LWm_good wm64 wm65 wm66 wm37 wm67) rfl rfl rfl (by decide +kernel) rfl (by rw [hR]; exact ⟨Nat.le_of_ble_eq_true rfl, Nat.le_of_ble_eq_true rfl⟩) hM.1 (by rw [hR]; exact ⟨Nat.le_of_ble_eq_true rfl, Nat.le_of_ble_eq_true rfl⟩) (Nat.le_of_ble_eq_true rfl) dX5_meanLength_12 (fun v12 S12 h12 => ?_) (fun E12 S12 h12 => ?_)
      · obtain ⟨rfl, hM⟩ := h12
        refine z_if_ne 40 C dX5_meanLength_15 (by decide) (fun _ => ?_) (fun c15 => absurd c15 (by decide))
        refine z_dconst0 C dX5_meanLength_40 ?_
        refine z_goto 58 C dX5_meanLength_41 (by decide) ?_
        refine z_dreturn C F (Nat.le_of_ble_eq_true rfl) (Nat.le_of_ble_eq_true rfl) dX5_meanLength_58 ?_
        exact Or.inr (Or.inl ⟨y8, rfl, hM⟩)
      · exact h12.elim
  · exact h8.elim
set_option maxRecDepth 100000 in
set_option maxHeartbeats 4000000 in
theorem M_trackAt {l : Launch} (hl0 : l.stackTraces = false) {D : ZD} {J : Nat → Int64} {S : ZM} {M : Nat} {r : Nat → Nat} (hM0 : iM D J S M r) (h39 : D 39 0 = 0) (hC : wC D) (hW : wfM D) (x y : Int32) : zMet l yX5_trackAt (Cond.code yX5_trackAt cX5_trackAt 3 (some .int) :: LWm) ({ frames := 2, cells := 0, slots := 0, locals := 43 } : Room) 0 0 [zr (some M), zi x, zi y] S (zPo (fun v S' => (hasLs D x ∧ (0 ≤ y ∧ y ≤ D 64 (ix x) - 1) ∧ v = some (zi (D 63 (ix (24 * x + y)))) ∧ mR D J S' M r) ∨ (¬ hasLs D x ∧ v = some (zi 0) ∧ mR (s39 D 1) J S' M r) ∨ (hasLs D x ∧ ¬ (0 ≤ y ∧ y ≤ D 64 (ix x) - 1) ∧ v = some (zi 0) ∧ mR (s39 D 2) J S' M r)) (fun _ _ => False)) := by
  refine zMet.of' [some (zr (some M)), some (zi x), some (zi y)] hl0 (by decide) rfl (Nat.le_of_ble_eq_true rfl) rfl ?_
  intro X C N hR hN0 hX F
  subst hX
  have hN := hC.1
  obtain ⟨w0, hM⟩ := id hM0
  refine z_aload_n C rfl dX5_trackAt_0 ?_
  refine z_iconst 0 (by decide) C dX5_trackAt_1 ?_
  refine zp5_thrown C (fun w h => List.mem_cons_of_mem _ (um_wsX50 w h)) hM.1 (List.mem_cons_of_mem _ wm33) dX5_trackAt_2 ?_
  have hM := hM0.th h39
  refine z_aload_n C rfl dX5_trackAt_5 ?_
  refine z_aload_n C rfl dX5_trackAt_6 ?_
  refine z_iload_n C rfl dX5_trackAt_7 ?_
  refine z_callM 1 [zi x] C rfl (M_noList hl0 hM hN x) rfl (zgoodV LWm_good wm103 wm104 wm105 wm37 wm106) rfl rfl rfl (by decide +kernel) rfl (by rw [hR]; exact ⟨Nat.le_of_ble_eq_true rfl, Nat.le_of_ble_eq_true rfl⟩) hM.1 (by rw [hR]; exact ⟨Nat.le_of_ble_eq_true rfl, Nat.le_of_ble_eq_true rfl⟩) (Nat.le_of_ble_eq_true rfl) dX5_trackAt_8 (fun v8 S8 h8 => ?_) (fun E8 S8 h8 => ?_)
  · obtain ⟨b8, rfl, hb8, q8⟩ := h8
    subst S8
    refine z_iconst 1 (by decide) C dX5_trackAt_11 ?_
    cases b8 with
    | false =>
      have y8 := hb8.mp rfl
      refine z_callM 2 [zi (bI false), zi 1] C rfl (M_fails0 hl0 hM h39 (bI false) 1 (by decide)) rfl (zgoodV LWm_good wm64 wm65 wm66 wm37 wm67) rfl rfl rfl (by decide +kernel) rfl (by rw [hR]; exact ⟨Nat.le_of_ble_eq_true rfl, Nat.le_of_ble_eq_true rfl⟩) hM.1 (by rw [hR]; exact ⟨Nat.le_of_ble_eq_true rfl, Nat.le_of_ble_eq_true rfl⟩) (Nat.le_of_ble_eq_true rfl) dX5_trackAt_12 (fun v12 S12 h12 => ?_) (fun E12 S12 h12 => ?_)
      · obtain ⟨rfl, q12⟩ := h12
        subst S12
        refine z_if_ne 47 C dX5_trackAt_15 (by decide) (fun c15 => absurd c15 (by decide)) (fun _ => ?_)
        refine z_aload_n C rfl dX5_trackAt_18 ?_
        refine z_iload_n C rfl dX5_trackAt_19 ?_
        refine z_iconst 0 (by decide) C dX5_trackAt_20 ?_
        refine z_aload_n C rfl dX5_trackAt_21 ?_
        refine zg5_many C (fun w h => List.mem_cons_of_mem _ (um_wsX50 w h)) hM.1 (List.mem_cons_of_mem _ wm25) dX5_trackAt_22 ?_
        refine z_ref (hM.q 64 rfl) ?_
        refine z_iload_n C rfl dX5_trackAt_25 ?_
        refine z_iaload C (hM.k 64 rfl) (hM.b' 64 rfl (y8.b) (by decide)) dX5_trackAt_26 ?_
        refine z_int (hM.t 64 rfl (by decide) _) ?_
        refine z_iconst 1 (by decide) C dX5_trackAt_27 ?_
        refine z_isub C dX5_trackAt_28 ?_
        refine z_callS 3 [zi y, zi 0, zi (D 64 (ix x) - 1)] C (M_in hl0 y 0 (D 64 (ix x) - 1)) rfl (zgoodS LWm_good wm35 wm36 wm37 wm38) rfl rfl rfl (by decide +kernel) rfl (by rw [hR]; exact ⟨Nat.le_of_ble_eq_true rfl, Nat.le_of_ble_eq_true rfl⟩) (by rw [hR]; exact ⟨Nat.le_of_ble_eq_true rfl, Nat.le_of_ble_eq_true rfl⟩) (Nat.le_of_ble_eq_true rfl) dX5_trackAt_29 (fun v29 S29 h29 => ?_) (fun E29 S29 h29 => ?_)
        · obtain ⟨b29, rfl, hb29, q29⟩ := h29
          subst S29
          cases b29 with
          | false =>
            have y29 := b_ft hb29
            refine z_if_ne 39 C dX5_trackAt_32 (by decide) (fun c32 => absurd c32 (by decide)) (fun _ => ?_)
            refine z_iconst 1 (by decide) C dX5_trackAt_35 ?_
            refine z_goto 40 C dX5_trackAt_36 (by decide) ?_
            refine z_iconst 2 (by decide) C dX5_trackAt_40 ?_
            refine z_callM 2 [zi (1), zi 2] C rfl (M_fails1 hl0 hM h39 1 2 (by decide)) rfl (zgoodV LWm_good wm64 wm65 wm66 wm37 wm67) rfl rfl rfl (by decide +kernel) rfl (by rw [hR]; exact ⟨Nat.le_of_ble_eq_true rfl, Nat.le_of_ble_eq_true rfl⟩) hM.1 (by rw [hR]; exact ⟨Nat.le_of_ble_eq_true rfl, Nat.le_of_ble_eq_true rfl⟩) (Nat.le_of_ble_eq_true rfl) dX5_trackAt_41 (fun v41 S41 h41 => ?_) (fun E41 S41 h41 => ?_)
            · obtain ⟨rfl, hM⟩ := h41
              refine z_if_eq 51 C dX5_trackAt_44 (by decide) (fun c44 => absurd c44 (by decide)) (fun _ => ?_)
              refine z_iconst 0 (by decide) C dX5_trackAt_47 ?_
              refine z_goto 62 C dX5_trackAt_48 (by decide) ?_
              refine z_ireturn C F (Nat.le_of_ble_eq_true rfl) (Nat.le_of_ble_eq_true rfl) dX5_trackAt_62 ?_
              exact Or.inr (Or.inr ⟨y8, y29, rfl, hM⟩)
            · exact h41.elim
          | true =>
            have y29 := hb29.mp rfl
            refine z_if_ne 39 C dX5_trackAt_32 (by decide) (fun _ => ?_) (fun c32 => absurd c32 (by decide))
            refine z_iconst 0 (by decide) C dX5_trackAt_39 ?_
            refine z_iconst 2 (by decide) C dX5_trackAt_40 ?_
            refine z_callM 2 [zi (0), zi 2] C rfl (M_fails0 hl0 hM h39 0 2 (by decide)) rfl (zgoodV LWm_good wm64 wm65 wm66 wm37 wm67) rfl rfl rfl (by decide +kernel) rfl (by rw [hR]; exact ⟨Nat.le_of_ble_eq_true rfl, Nat.le_of_ble_eq_true rfl⟩) hM.1 (by rw [hR]; exact ⟨Nat.le_of_ble_eq_true rfl, Nat.le_of_ble_eq_true rfl⟩) (Nat.le_of_ble_eq_true rfl) dX5_trackAt_41 (fun v41 S41 h41 => ?_) (fun E41 S41 h41 => ?_)
            · obtain ⟨rfl, q41⟩ := h41
              subst S41
              refine z_if_eq 51 C dX5_trackAt_44 (by decide) (fun _ => ?_) (fun c44 => absurd c44 (by decide))
              refine z_aload_n C rfl dX5_trackAt_51 ?_
              refine zg5_ranked C (fun w h => List.mem_cons_of_mem _ (um_wsX50 w h)) hM.1 (List.mem_cons_of_mem _ wm24) dX5_trackAt_52 ?_
              refine z_ref (hM.q 63 rfl) ?_
              refine z_bipush 24 (by decide) C dX5_trackAt_55 ?_
              refine z_iload_n C rfl dX5_trackAt_57 ?_
              refine z_imul C dX5_trackAt_58 ?_
              refine z_iload_n C rfl dX5_trackAt_59 ?_
              refine z_iadd C dX5_trackAt_60 ?_
              refine z_iaload C (hM.k 63 rfl) (hM.b' 63 rfl (tr_b hW y8 y29) (by decide)) dX5_trackAt_61 ?_
              refine z_int (hM.t 63 rfl (by decide) _) ?_
              refine z_ireturn C F (Nat.le_of_ble_eq_true rfl) (Nat.le_of_ble_eq_true rfl) dX5_trackAt_62 ?_
              exact Or.inl ⟨y8, y29, rfl, hM⟩
            · exact h41.elim
        · exact h29.elim
      · exact h12.elim
    | true =>
      have y8 := b_tf hb8
      refine z_callM 2 [zi (bI true), zi 1] C rfl (M_fails1 hl0 hM h39 (bI true) 1 (by decide)) rfl (zgoodV LWm_good wm64 wm65 wm66 wm37 wm67) rfl rfl rfl (by decide +kernel) rfl (by rw [hR]; exact ⟨Nat.le_of_ble_eq_true rfl, Nat.le_of_ble_eq_true rfl⟩) hM.1 (by rw [hR]; exact ⟨Nat.le_of_ble_eq_true rfl, Nat.le_of_ble_eq_true rfl⟩) (Nat.le_of_ble_eq_true rfl) dX5_trackAt_12 (fun v12 S12 h12 => ?_) (fun E12 S12 h12 => ?_)
      · obtain ⟨rfl, hM⟩ := h12
        refine z_if_ne 47 C dX5_trackAt_15 (by decide) (fun _ => ?_) (fun c15 => absurd c15 (by decide))
        refine z_iconst 0 (by decide) C dX5_trackAt_47 ?_
        refine z_goto 62 C dX5_trackAt_48 (by decide) ?_
        refine z_ireturn C F (Nat.le_of_ble_eq_true rfl) (Nat.le_of_ble_eq_true rfl) dX5_trackAt_62 ?_
        exact Or.inr (Or.inl ⟨y8, rfl, hM⟩)
      · exact h12.elim
  · exact h8.elim
set_option maxRecDepth 100000 in
set_option maxHeartbeats 4000000 in
theorem M_seconds {l : Launch} (hl0 : l.stackTraces = false) {D : ZD} {J : Nat → Int64} {S : ZM} {M : Nat} {r : Nat → Nat} (hM0 : iM D J S M r) (h39 : D 39 0 = 0) (hC : wC D) : zMet l yX5_seconds (Cond.code yX5_seconds cX5_seconds 4 (some .long) :: LWm) ({ frames := 1, cells := 0, slots := 0, locals := 22 } : Room) 0 0 [zr (some M)] S (zPo (fun v S' => v = some (zj (scF D (dT D))) ∧ mR D J S' M r) (fun _ _ => False)) := by
  refine zMet.of' [some (zr (some M)), none, none, none] hl0 (by decide) rfl (Nat.le_of_ble_eq_true rfl) rfl ?_
  intro X C N hR hN0 hX F
  subst hX
  have hN := hC.1
  obtain ⟨w0, hM⟩ := id hM0
  refine z_aload_n C rfl dX5_seconds_0 ?_
  refine z_iconst 0 (by decide) C dX5_seconds_1 ?_
  refine zp5_thrown C (fun w h => List.mem_cons_of_mem _ (um_wsX50 w h)) hM.1 (List.mem_cons_of_mem _ wm33) dX5_seconds_2 ?_
  have hM := hM0.th h39
  have h41 := hN.1.1
  have h24 := hN.1.2
  have loop : ∀ (m k : Nat) (S1 : ZM), k + m = dT D → mR D J S1 M r → zW X 4 0 0 S1 9 [some (zr (some M)), some (zj (scF D k)), none, some (zi (nI k))] [] := by
    intro m
    induction m with
    | zero =>
      intro k S1 hk hM
      obtain rfl : k = dT D := by omega
      refine z_iload_n C rfl dX5_seconds_9 ?_
      refine z_aload_n C rfl dX5_seconds_10 ?_
      refine zg5_tracks C (fun w h => List.mem_cons_of_mem _ (um_wsX50 w h)) hM.1 (List.mem_cons_of_mem _ wm34) dX5_seconds_11 ?_
      refine z_int (hM.i 41 rfl) ?_
      refine z_int h41 ?_
      refine z_icmp_ge 40 C dX5_seconds_14 (by decide) (fun c14 => ?_) (fun c14 => ?_)
      · refine z_lload_n C rfl dX5_seconds_40 ?_
        refine z_lreturn C F (Nat.le_of_ble_eq_true rfl) (Nat.le_of_ble_eq_true rfl) dX5_seconds_41 ?_
        exact ⟨rfl, hM⟩
      · exact absurd (Int32.le_refl _) c14
    | succ m ih =>
      intro k S1 hk hM
      refine z_iload_n C rfl dX5_seconds_9 ?_
      refine z_aload_n C rfl dX5_seconds_10 ?_
      refine zg5_tracks C (fun w h => List.mem_cons_of_mem _ (um_wsX50 w h)) hM.1 (List.mem_cons_of_mem _ wm34) dX5_seconds_11 ?_
      refine z_int (hM.i 41 rfl) ?_
      refine z_int h41 ?_
      refine z_icmp_ge 40 C dX5_seconds_14 (by decide) (fun c14 => ?_) (fun c14 => ?_)
      · exact absurd c14 (n_ge (by omega) (by omega))
      · refine z_lload_n C rfl dX5_seconds_17 ?_
        refine z_aload_n C rfl dX5_seconds_18 ?_
        refine zg5_length C (fun w h => List.mem_cons_of_mem _ (um_wsX50 w h)) hM.1 (List.mem_cons_of_mem _ wm4) dX5_seconds_19 ?_
        refine z_ref (hM.q 42 rfl) ?_
        refine z_iload_n C rfl dX5_seconds_22 ?_
        refine z_iaload C (hM.k 42 rfl) (hM.b' 42 rfl (⟨k, rfl, by show k < 24; omega⟩) (by decide)) dX5_seconds_23 ?_
        refine z_int (hM.t 42 rfl (by decide) _) ?_
        refine z_int (x' := D 42 k) (congrArg _ (nI_clamp (by omega))) ?_
        refine z_aload_n C rfl dX5_seconds_24 ?_
        refine zg5_plays C (fun w h => List.mem_cons_of_mem _ (um_wsX50 w h)) hM.1 (List.mem_cons_of_mem _ wm6) dX5_seconds_25 ?_
        refine z_ref (hM.q 44 rfl) ?_
        refine z_iload_n C rfl dX5_seconds_28 ?_
        refine z_iaload C (hM.k 44 rfl) (hM.b' 44 rfl (⟨k, rfl, by show k < 24; omega⟩) (by decide)) dX5_seconds_29 ?_
        refine z_int (hM.t 44 rfl (by decide) _) ?_
        refine z_int (x' := D 44 k) (congrArg _ (nI_clamp (by omega))) ?_
        refine z_imul C dX5_seconds_30 ?_
        refine z_i2l C dX5_seconds_31 ?_
        refine z_ladd C dX5_seconds_32 ?_
        refine z_lstore_n [_, _, _, _] C (by decide) rfl dX5_seconds_33 ?_
        refine z_inc (1) [_, _, _, _] C rfl (by decide) (by decide) rfl dX5_seconds_34 ?_
        refine z_goto 9 C dX5_seconds_37 (by decide) ?_
        have q := ih (k + 1) _ (by omega) hM
        rw [nI_succ] at q
        exact q
  refine z_lconst 0 (by decide) C dX5_seconds_5 ?_
  refine z_lstore_n [_, _, _, _] C (by decide) rfl dX5_seconds_6 ?_
  refine z_iconst 0 (by decide) C dX5_seconds_7 ?_
  refine z_istore_n [_, _, _, _] C (by decide) rfl dX5_seconds_8 ?_
  exact loop (dT D) 0 _ (by omega) hM
/-- how many bits there are, counted one by one -/
theorem ctF_eq (s : Int32) : ∀ n : Nat, n ≤ 32 → ctF s n = nI (ctB s n) := by
  intro n
  induction n with
  | zero => intro _; rfl
  | succ n ih =>
    intro hn
    simp only [ctF, ctB]
    rw [ih (by omega)]
    have h01 : s >>> (nI n &&& 31) &&& 1 = if hasB s (nI n) = true then 1 else 0 := by
      obtain ⟨j, hj, e⟩ := pk_andE (s >>> (nI n &&& 31)) (m := 1) 1 (by decide)
      have sb := shr_bit (s := s) (i := n) (by omega)
      rcases (show j = 0 ∨ j = 1 by omega) with rfl | rfl
      · rw [if_neg (fun z => by rw [e] at sb; exact absurd (sb.mpr z) (by decide))]; exact e
      · rw [if_pos (sb.mp (by rw [e]; rfl))]; exact e
    rw [h01]
    by_cases q : hasB s (nI n) = true
    · rw [if_pos q, if_pos q, ← nI_succ]
    · rw [if_neg q, if_neg q, Int32.add_zero, Nat.add_zero]
theorem ctF_pc (s : Int32) : ctF s 32 = nI (pcB s) := ctF_eq s 32 (Nat.le_refl _)
theorem ctF_bc (s : Int32) : ctF s 32 = bcJ s := by rw [ctF_pc, bcJ_pc]
theorem ctF_abs (s : Int32) : (ctF s 32).toInt.natAbs ≤ 2 ^ 24 := by rw [ctF_pc]; exact nI_abs (Nat.le_trans (pcB_32 _) (by decide))
set_option maxRecDepth 100000 in
set_option maxHeartbeats 4000000 in
theorem M_listedShare {l : Launch} (hl0 : l.stackTraces = false) {D : ZD} {J : Nat → Int64} {S : ZM} {M : Nat} {r : Nat → Nat} (hM0 : iM D J S M r) (h39 : D 39 0 = 0) (hC : wC D) : zMet l yX5_listedShare (Cond.code yX5_listedShare cX5_listedShare 3 (some .float) :: LWm) ({ frames := 1, cells := 0, slots := 0, locals := 22 } : Room) 0 0 [zr (some M)] S (zPo (fun v S' => (¬ nI (cnF (prD D) 24) = 0 ∧ v = some (zf (FP.fdiv (FP.i2f (ctF (unD (D 61) (dL D)) 32)) (FP.i2f (nI (cnF (prD D) 24))))) ∧ mR D J S' M r) ∨ (nI (cnF (prD D) 24) = 0 ∧ v = some (zf 0) ∧ mR (s39 D 1) J S' M r)) (fun _ _ => False)) := by
  refine zMet.of' [some (zr (some M)), none, none] hl0 (by decide) rfl (Nat.le_of_ble_eq_true rfl) rfl ?_
  intro X C N hR hN0 hX F
  subst hX
  have hN := hC.1
  obtain ⟨w0, hM⟩ := id hM0
  refine z_aload_n C rfl dX5_listedShare_0 ?_
  refine z_iconst 0 (by decide) C dX5_listedShare_1 ?_
  refine zp5_thrown C (fun w h => List.mem_cons_of_mem _ (um_wsX50 w h)) hM.1 (List.mem_cons_of_mem _ wm33) dX5_listedShare_2 ?_
  have hM := hM0.th h39
  have hd57 : D 57 0 = nI (dL D) := hN.2.2.2.1
  have h8 : dL D ≤ 8 := hN.2.2.2.2
  have hct : (ctF (unD (D 61) (dL D)) 32).toInt.natAbs ≤ 2 ^ 24 := ctF_abs _
  have loop : ∀ (m k : Nat) (S1 : ZM), k + m = dL D → mR D J S1 M r → zW X 3 0 0 S1 9 [some (zr (some M)), some (zi (unD (D 61) k)), some (zi (nI k))] [] := by
    intro m
    induction m with
    | zero =>
      intro k S1 hk hM
      obtain rfl : k = dL D := by omega
      refine z_iload_n C rfl dX5_listedShare_9 ?_
      refine z_aload_n C rfl dX5_listedShare_10 ?_
      refine zg5_lists C (fun w h => List.mem_cons_of_mem _ (um_wsX50 w h)) hM.1 (List.mem_cons_of_mem _ wm41) dX5_listedShare_11 ?_
      refine z_int (hM.i 57 rfl) ?_
      refine z_int hd57 ?_
      refine z_icmp_ge 32 C dX5_listedShare_14 (by decide) (fun c14 => ?_) (fun c14 => ?_)
      · refine z_aload_n C rfl dX5_listedShare_32 ?_
        refine z_aload_n C rfl dX5_listedShare_33 ?_
        refine z_callM 0 [] C rfl (M_present hl0 hM hN) rfl (zgoodV LWm_good wm76 wm77 wm78 wm37 wm79) rfl rfl rfl (by decide +kernel) rfl (by rw [hR]; exact ⟨Nat.le_of_ble_eq_true rfl, Nat.le_of_ble_eq_true rfl⟩) hM.1 (by rw [hR]; exact ⟨Nat.le_of_ble_eq_true rfl, Nat.le_of_ble_eq_true rfl⟩) (Nat.le_of_ble_eq_true rfl) dX5_listedShare_34 (fun v34 S34 h34 => ?_) (fun E34 S34 h34 => ?_)
        · obtain ⟨rfl, q34⟩ := h34
          subst S34
          refine z_if_ne 44 C dX5_listedShare_37 (by decide) (fun c37 => ?_) (fun c37 => ?_)
          · refine z_iconst 0 (by decide) C dX5_listedShare_44 ?_
            refine z_iconst 1 (by decide) C dX5_listedShare_45 ?_
            refine z_callM 2 [zi (0), zi 1] C rfl (M_fails0 hl0 hM h39 0 1 (by decide)) rfl (zgoodV LWm_good wm64 wm65 wm66 wm37 wm67) rfl rfl rfl (by decide +kernel) rfl (by rw [hR]; exact ⟨Nat.le_of_ble_eq_true rfl, Nat.le_of_ble_eq_true rfl⟩) hM.1 (by rw [hR]; exact ⟨Nat.le_of_ble_eq_true rfl, Nat.le_of_ble_eq_true rfl⟩) (Nat.le_of_ble_eq_true rfl) dX5_listedShare_46 (fun v46 S46 h46 => ?_) (fun E46 S46 h46 => ?_)
            · obtain ⟨rfl, q46⟩ := h46
              subst S46
              refine z_if_eq 56 C dX5_listedShare_49 (by decide) (fun _ => ?_) (fun c49 => absurd c49 (by decide))
              refine z_iload_n C rfl dX5_listedShare_56 ?_
              refine z_callS 1 [zi (unD (D 61) (dL D))] C (M_count hl0 (unD (D 61) (dL D))) rfl (zgoodS LWm_good wm85 wm86 wm37 wm87) rfl rfl rfl (by decide +kernel) rfl (by rw [hR]; exact ⟨Nat.le_of_ble_eq_true rfl, Nat.le_of_ble_eq_true rfl⟩) (by rw [hR]; exact ⟨Nat.le_of_ble_eq_true rfl, Nat.le_of_ble_eq_true rfl⟩) (Nat.le_of_ble_eq_true rfl) dX5_listedShare_57 (fun v57 S57 h57 => ?_) (fun E57 S57 h57 => ?_)
              · obtain ⟨rfl, q57⟩ := h57
                subst S57
                refine z_i2f C dX5_listedShare_60 ?_
                refine z_aload_n C rfl dX5_listedShare_61 ?_
                refine z_callM 0 [] C rfl (M_present hl0 hM hN) rfl (zgoodV LWm_good wm76 wm77 wm78 wm37 wm79) rfl rfl rfl (by decide +kernel) rfl (by rw [hR]; exact ⟨Nat.le_of_ble_eq_true rfl, Nat.le_of_ble_eq_true rfl⟩) hM.1 (by rw [hR]; exact ⟨Nat.le_of_ble_eq_true rfl, Nat.le_of_ble_eq_true rfl⟩) (Nat.le_of_ble_eq_true rfl) dX5_listedShare_62 (fun v62 S62 h62 => ?_) (fun E62 S62 h62 => ?_)
                · obtain ⟨rfl, q62⟩ := h62
                  subst S62
                  refine z_i2f C dX5_listedShare_65 ?_
                  refine z_fdiv (fdiv_ok hct (nI_abs (Nat.le_trans (cnF_le _ 24) (by decide))) c37) C dX5_listedShare_66 ?_
                  refine z_freturn C F (Nat.le_of_ble_eq_true rfl) (Nat.le_of_ble_eq_true rfl) dX5_listedShare_67 ?_
                  exact Or.inl ⟨c37, rfl, hM⟩
                · exact h62.elim
              · exact h57.elim
            · exact h46.elim
          · refine z_iconst 1 (by decide) C dX5_listedShare_40 ?_
            refine z_goto 45 C dX5_listedShare_41 (by decide) ?_
            refine z_iconst 1 (by decide) C dX5_listedShare_45 ?_
            refine z_callM 2 [zi (1), zi 1] C rfl (M_fails1 hl0 hM h39 1 1 (by decide)) rfl (zgoodV LWm_good wm64 wm65 wm66 wm37 wm67) rfl rfl rfl (by decide +kernel) rfl (by rw [hR]; exact ⟨Nat.le_of_ble_eq_true rfl, Nat.le_of_ble_eq_true rfl⟩) hM.1 (by rw [hR]; exact ⟨Nat.le_of_ble_eq_true rfl, Nat.le_of_ble_eq_true rfl⟩) (Nat.le_of_ble_eq_true rfl) dX5_listedShare_46 (fun v46 S46 h46 => ?_) (fun E46 S46 h46 => ?_)
            · obtain ⟨rfl, hM⟩ := h46
              refine z_if_eq 56 C dX5_listedShare_49 (by decide) (fun c49 => absurd c49 (by decide)) (fun _ => ?_)
              refine z_fconst0 C dX5_listedShare_52 ?_
              refine z_goto 67 C dX5_listedShare_53 (by decide) ?_
              refine z_freturn C F (Nat.le_of_ble_eq_true rfl) (Nat.le_of_ble_eq_true rfl) dX5_listedShare_67 ?_
              exact Or.inr ⟨c37, rfl, hM⟩
            · exact h46.elim
        · exact h34.elim
      · exact absurd (Int32.le_refl _) c14
    | succ m ih =>
      intro k S1 hk hM
      refine z_iload_n C rfl dX5_listedShare_9 ?_
      refine z_aload_n C rfl dX5_listedShare_10 ?_
      refine zg5_lists C (fun w h => List.mem_cons_of_mem _ (um_wsX50 w h)) hM.1 (List.mem_cons_of_mem _ wm41) dX5_listedShare_11 ?_
      refine z_int (hM.i 57 rfl) ?_
      refine z_int hd57 ?_
      refine z_icmp_ge 32 C dX5_listedShare_14 (by decide) (fun c14 => ?_) (fun c14 => ?_)
      · exact absurd c14 (n_ge (by omega) (by omega))
      · refine z_iload_n C rfl dX5_listedShare_17 ?_
        refine z_aload_n C rfl dX5_listedShare_18 ?_
        refine zg5_kept C (fun w h => List.mem_cons_of_mem _ (um_wsX50 w h)) hM.1 (List.mem_cons_of_mem _ wm22) dX5_listedShare_19 ?_
        refine z_ref (hM.q 61 rfl) ?_
        refine z_iload_n C rfl dX5_listedShare_22 ?_
        refine z_iaload C (hM.k 61 rfl) (hM.b' 61 rfl (⟨k, rfl, by show k < 8; omega⟩) (by decide)) dX5_listedShare_23 ?_
        refine z_int (hM.t 61 rfl (by decide) _) ?_
        refine z_int (x' := D 61 k) (congrArg _ (nI_clamp (by omega))) ?_
        refine z_ior C dX5_listedShare_24 ?_
        refine z_istore_n [_, _, _] C (by decide) rfl dX5_listedShare_25 ?_
        refine z_inc (1) [_, _, _] C rfl (by decide) (by decide) rfl dX5_listedShare_26 ?_
        refine z_goto 9 C dX5_listedShare_29 (by decide) ?_
        have q := ih (k + 1) _ (by omega) hM
        rw [nI_succ] at q
        exact q
  refine z_iconst 0 (by decide) C dX5_listedShare_5 ?_
  refine z_istore_n [_, _, _] C (by decide) rfl dX5_listedShare_6 ?_
  refine z_iconst 0 (by decide) C dX5_listedShare_7 ?_
  refine z_istore_n [_, _, _] C (by decide) rfl dX5_listedShare_8 ?_
  exact loop (dL D) 0 _ (by omega) hM
