/-! the law's turns -/
theorem rmK {X : zX} (hR : xR X = room_1) {k n mc ms : Nat} (h1 : k + mc ≤ 603072) (h2 : n + ms ≤ 7223402) : k + mc ≤ (xR X).cells ∧ n + ms ≤ (xR X).slots := by rw [hR]; exact ⟨h1, h2⟩
/-- what the loop goes on with -/
def LK (X : zX) (F G : Nat → Bool) (s o1 o2 M : Nat) (r : Nat → Nat) (V : Nat → Int32) (N : Nat) (L : Nat → Nat) (k n i : Nat) : Prop := ∀ (k' n' : Nat) (S' : ZM) (D' : ZD) (J' : Nat → Int64) (lk' : ZL) (as' T' : Nat → Nat) (q6 q7 q8 : Option ZV), k' ≤ k + 1000 → n' ≤ n + 10000 → LI D' J' lk' as' (rsOff F S') L T' → iM D' J' S' M r → LA F s o1 o2 V N S' → zW X 9 k' n' S' 3254 [some (zr (some s)), some (zr (some (L 0))), some (zr (some M)), some (zr (some o1)), some (zr (some o2)), some (zi (nI i)), q6, q7, q8] []
section LVs
variable {F G : Nat → Bool} {s o1 o2 M : Nat} {r : Nat → Nat} {V : Nat → Int32} {N i : Nat} {S S' S1 S2 : ZM} {D D1 : ZD} {J J1 : Nat → Int64} {lk lk1 : ZL} {as as1 : Nat → Nat} {L T T1 : Nat → Nat}
theorem ld_in {j : Nat} (hA : LA F s o1 o2 V N S) (hi : i + 3 < N) (hN : N ≤ 2048) (hj : j ≤ 3) : vp_in (nI i + nI j) (mN S s) ∧ tI S s (nI i + nI j).toNatClampNeg = V (i + j) := by
  obtain ⟨⟨a1, a2, a3⟩, -⟩ := hA
  rw [nI_add, a2, a3, nI_clamp (by omega)]
  exact ⟨nI_in (by omega) (by omega), rfl⟩
theorem ld_in1 (hA : LA F s o1 o2 V N S) (hi : i + 3 < N) (hN : N ≤ 2048) : vp_in (nI i + 1) (mN S s) := (ld_in (j := 1) hA hi hN (by decide)).1
theorem ld_in2 (hA : LA F s o1 o2 V N S) (hi : i + 3 < N) (hN : N ≤ 2048) : vp_in (nI i + 2) (mN S s) := (ld_in (j := 2) hA hi hN (by decide)).1
theorem ld_in3 (hA : LA F s o1 o2 V N S) (hi : i + 3 < N) (hN : N ≤ 2048) : vp_in (nI i + 3) (mN S s) := (ld_in (j := 3) hA hi hN (by decide)).1
theorem ld_v1 (hA : LA F s o1 o2 V N S) (hi : i + 3 < N) (hN : N ≤ 2048) : tI S s (nI i + 1).toNatClampNeg = V (i + 1) := (ld_in (j := 1) hA hi hN (by decide)).2
theorem ld_v2 (hA : LA F s o1 o2 V N S) (hi : i + 3 < N) (hN : N ≤ 2048) : tI S s (nI i + 2).toNatClampNeg = V (i + 2) := (ld_in (j := 2) hA hi hN (by decide)).2
theorem ld_v3 (hA : LA F s o1 o2 V N S) (hi : i + 3 < N) (hN : N ≤ 2048) : tI S s (nI i + 3).toNatClampNeg = V (i + 3) := (ld_in (j := 3) hA hi hN (by decide)).2
theorem LI.k6 (hI : LI D J lk as (rsOff F S) L T) : mK S (L 0) = 6 := by
  have h : (bif F (L 0) then 0 else mK S (L 0)) = 6 := hI.1.1.1.1
  cases hf : F (L 0) with
  | true => rw [hf] at h; cases h
  | false => rw [hf] at h; exact h
theorem iM.off (h : iM D J S M r) (hF : LF F G s o1 o2 M r) : iM D J (rsOff G S) M r := by
  obtain ⟨v, h⟩ := h
  exact ⟨v, h.same (rsOff_out hF.2.1) (fun k hk => rsOff_out (hF.2.2.1 k hk))⟩
theorem LM.of2 {α : Type} {mk : α → ZV} {put : ZM → α → ZM} {PC : zP} {es : List (String × Int32)} {MC : ZM → zP → Prop} (hI : LI D J lk as (rsOff F S) L T) (hM : iM D J S M r) (hA : LA F s o1 o2 V N S) (hF : LF F G s o1 o2 M r) (hput : ∀ (S : ZM) (z : α), pOk o1 S (put S z)) (hMt : ∀ Sm : ZM, iM D J Sm M r → Mt mk PC es D J lk as L T M r (MC Sm)) {v : Option ZV} (h : WQ mk put PC es F S (.inl v) S') : ∃ (k : Int32) (D1 : ZD) (J1 : Nat → Int64) (lk1 : ZL) (as1 T1 : Nat → Nat) (PM : zP), v = some (zi k) ∧ LM F G s o1 o2 M r V N S' D1 J1 lk1 as1 L T1 ∧ iM D J S' M r ∧ MC (rsOff G S') PM ∧ (∀ (v2 : Option ZV) (S2 : ZM), PM (.inl v2) S2 → ∃ z : α, v2 = some (mk z) ∧ flM J1 S2 M r D1 k ∧ (k = 0 → ∃ S0 : ZM, LA F s o1 o2 V N S0 ∧ S' = put S0 z)) ∧ ∀ (E : String) (S2 : ZM), ¬ PM (.inr E) S2 := by
  obtain ⟨_, _, _, _, _, _, _, _, _, hM1, _⟩ := LM.of hI hM hA hF hput (hMt S hM) h
  exact LM.of hI hM hA hF hput (hMt (rsOff G S') (hM1.off hF)) h
end LVs
theorem hvO {α : Type} {mk : α → ZV} {PC : zP} {es : List (String × Int32)} {D : ZD} {J : Nat → Int64} {lk : ZL} {as L T : Nat → Nat} {M : Nat} {r : Nat → Nat} {MC : zP → Prop} (h : Mt mk PC es D J lk as L T M r MC) : ∀ (v : Option ZV) (S1 : ZM), PC (.inl v) S1 → ∃ z : α, v = some (mk z) := fun v S1 hp => by
  obtain ⟨z, e, -⟩ := h.1 v S1 hp
  exact ⟨z, e⟩
theorem es_1 {E a : String} {i : Int32} {Q : Int32 → Prop} (h : ∃ k : Int32, (∀ k' : Int32, (E, k') ∈ [(a, i)] → k' = k) ∧ (∃ k' : Int32, (E, k') ∈ [(a, i)]) ∧ Q k) : E = a := by
  obtain ⟨_, _, ⟨k', hm⟩, _⟩ := h
  simp only [List.mem_cons, Prod.mk.injEq, List.not_mem_nil, or_false] at hm
  exact hm.1
theorem es_2 {E a b : String} {i j : Int32} {Q : Int32 → Prop} (h : ∃ k : Int32, (∀ k' : Int32, (E, k') ∈ [(a, i), (b, j)] → k' = k) ∧ (∃ k' : Int32, (E, k') ∈ [(a, i), (b, j)]) ∧ Q k) : E = a ∨ E = b := by
  obtain ⟨_, _, ⟨k', hm⟩, _⟩ := h
  simp only [List.mem_cons, Prod.mk.injEq, List.not_mem_nil, or_false] at hm
  exact hm.imp (fun q => q.1) (fun q => q.1)
theorem es_3 {E a b c : String} {i j m : Int32} {Q : Int32 → Prop} (h : ∃ k : Int32, (∀ k' : Int32, (E, k') ∈ [(a, i), (b, j), (c, m)] → k' = k) ∧ (∃ k' : Int32, (E, k') ∈ [(a, i), (b, j), (c, m)]) ∧ Q k) : E = a ∨ E = b ∨ E = c := by
  obtain ⟨_, _, ⟨k', hm⟩, _⟩ := h
  simp only [List.mem_cons, Prod.mk.injEq, List.not_mem_nil, or_false] at hm
  exact hm.imp (fun q => q.1) (fun q => q.imp (fun q => q.1) (fun q => q.1))
theorem ptI_at (o : Nat) (S : ZM) (z : Int32) : tJ (ptI o S z) o (0 : Int32).toNatClampNeg = z.toInt64 := by
  show up2 _ o 0 z.toInt64 o 0 = _
  unfold up2; rw [if_pos rfl, if_pos rfl]
theorem ptB_at (o : Nat) (S : ZM) (z : Int32) : tJ (ptB o S z) o (0 : Int32).toNatClampNeg = (if z = 0 then 0 else 1) := by
  show up2 _ o 0 _ o 0 = _
  unfold up2; rw [if_pos rfl, if_pos rfl]
set_option maxRecDepth 100000 in
set_option maxHeartbeats 1000000 in
theorem K_addTrack {X : zX} (hl0 : (xl X).stackTraces = false) {F G : Nat → Bool} {s o1 o2 M : Nat} {r : Nat → Nat} {V : Nat → Int32} {N : Nat} {S : ZM} {D : ZD} {J : Nat → Int64} {lk : ZL} {as L T : Nat → Nat} {k n i : Nat} {q6 q7 q8 : Option ZV} (C : zC X RL cL_law 9 LWl) (Nc : zNc (xs X)) (hR : xR X = room_1) (hF : LF F G s o1 o2 M r) (hI : LI D J lk as (rsOff F S) L T) (hM : iM D J S M r) (hA : LA F s o1 o2 V N S) (hi : i + 3 < N) (hN : N ≤ 2048) (hk : k + 1000 ≤ 603072 ∧ n + 10000 ≤ 7223402) (kk : LK X F G s o1 o2 M r V N L k n i) : zW X 9 k n S 264 [some (zr (some s)), some (zr (some (L 0))), some (zr (some M)), some (zr (some o1)), some (zr (some o2)), some (zi (nI i)), q6, q7, q8] [] := by
  have hX := fun (Sm : ZM) (h : iM D J Sm M r) => X_addTrack hl0 hI h (V (i + 1)) (V (i + 2))
  have hx6 := LI.k6 hI
  refine z_aload_n C rfl dL_law_264 ?_
  refine z_aload_n C rfl dL_law_265 ?_
  refine z_iload C rfl dL_law_266 ?_
  refine z_iconst 1 (by decide) C dL_law_268 ?_
  refine z_iadd C dL_law_269 ?_
  refine z_iaload C hA.1.1 (ld_in1 hA hi hN) dL_law_270 ?_
  refine z_int (ld_v1 hA hi hN) ?_
  refine z_aload_n C rfl dL_law_271 ?_
  refine z_iload C rfl dL_law_272 ?_
  refine z_iconst 2 (by decide) C dL_law_274 ?_
  refine z_iadd C dL_law_275 ?_
  refine z_iaload C hA.1.1 (ld_in2 hA hi hN) dL_law_276 ?_
  refine z_int (ld_v2 hA hi hN) ?_
  refine z_aload_n C rfl dL_law_277 ?_
  refine z_callSH 4 [zr (some (L 0)), zi (V (i + 1)), zi (V (i + 2)), zr (some o1)] C Nc (W_addTrack hl0 (V (i + 1)) (V (i + 2)) hF.1.2.1 hA.2.1.1 hA.2.1.2 hx6 hA.2.2.2 (C_addTrack hl0 hI.1 (V (i + 1)) (V (i + 2))) (hvO (hX S hM)) (fun E S1 hp => es_2 ((hX S hM).2 E S1 hp))) rfl (zgoodS3 LWl_good (fun w h => h) wq205 wq206 wq207 wq208) rfl rfl rfl (by decide +kernel) rfl (by rw [hR]; exact ⟨Nat.le_of_ble_eq_true rfl, Nat.le_of_ble_eq_true rfl⟩) (rmK hR (by omega) (by omega)) (Nat.le_of_ble_eq_true rfl) dL_law_278 (fun v1 S1 h1 => ?_) (fun E1 S1 h1 => h1.elim)
  obtain ⟨k9, D1, J1, lk1, as1, T1, PM, rfl, hL, hM1, hmc, hPM, hno⟩ := LM.of2 hI hM hA hF (pOk_I o1) hX h1
  refine z_istore [_, _, _, _, _, _, _, _, _] C (by decide) rfl dL_law_281 ?_
  refine z_aload_n C rfl dL_law_283 ?_
  refine z_aload_n C rfl dL_law_284 ?_
  refine z_iload C rfl dL_law_285 ?_
  refine z_iconst 1 (by decide) C dL_law_287 ?_
  refine z_iadd C dL_law_288 ?_
  refine z_iaload C hL.2.2.1.1 (ld_in1 hL.2.2 hi hN) dL_law_289 ?_
  refine z_int (ld_v1 hL.2.2 hi hN) ?_
  refine z_aload_n C rfl dL_law_290 ?_
  refine z_iload C rfl dL_law_291 ?_
  refine z_iconst 2 (by decide) C dL_law_293 ?_
  refine z_iadd C dL_law_294 ?_
  refine z_iaload C hL.2.2.1.1 (ld_in2 hL.2.2 hi hN) dL_law_295 ?_
  refine z_int (ld_v2 hL.2.2 hi hN) ?_
  refine z_callM 2 [zi (V (i + 1)), zi (V (i + 2))] C rfl (hmc.off G) rfl (zgoodV3 LWl_good (fun w h => ul_m h) wq209 wq210 wq211 (ul_m wm37) wq212) rfl rfl rfl (by decide +kernel) rfl (by rw [hR]; exact ⟨Nat.le_of_ble_eq_true rfl, Nat.le_of_ble_eq_true rfl⟩) hM1.k (rmK hR (by omega) (by omega)) (Nat.le_of_ble_eq_true rfl) dL_law_296 (fun v2 S2 h2 => ?_) (fun E2 S2 h2 => ?_)
  · obtain ⟨S2, hp, rfl, -⟩ := h2
    obtain ⟨z, rfl, hfl, hq⟩ := hPM _ _ hp
    obtain ⟨D', hm, hI', hA'⟩ := hL.back hF hfl
    refine z_istore [_, _, _, _, _, _, _, _, _] C (by decide) rfl dL_law_299 ?_
    refine z_aload_n C rfl dL_law_301 ?_
    refine z_callM 0 [] C rfl (M_thrown hl0 hm) rfl (zgoodV3 LWl_good (fun w h => ul_m h) wq213 wq214 wq215 (ul_m wm37) wq216) rfl rfl rfl (by decide +kernel) rfl (by rw [hR]; exact ⟨Nat.le_of_ble_eq_true rfl, Nat.le_of_ble_eq_true rfl⟩) hm.1 (rmK hR (by omega) (by omega)) (Nat.le_of_ble_eq_true rfl) dL_law_302 (fun v3 S3 h3 => ?_) (fun E3 S3 h3 => h3.elim)
    obtain ⟨rfl, hS3⟩ := h3
    subst hS3
    refine z_iload C rfl dL_law_305 ?_
    refine z_icmp_eq 312 C dL_law_307 (by decide) (fun c9 => ?_) (fun c9 => absurd (rfl : (s39 D' k9) 39 0 = k9) c9)
    refine z_iload C rfl dL_law_312 ?_
    refine z_if_ne 329 C dL_law_314 (by decide) (fun c8 => ?_) (fun c8 => ?_)
    · refine z_goto 3254 C dL_law_329 (by decide) ?_
      exact kk _ _ _ _ _ _ _ _ _ _ _ (by omega) (by omega) hI' ⟨k9, hm⟩ hA'
    · obtain ⟨S0, hA0, hS1⟩ := hq c8
      subst hS1
      refine z_aload_n C rfl dL_law_317 ?_
      refine z_iconst 0 (by decide) C dL_law_318 ?_
      refine z_laload C hA'.2.1.1 (by rw [hA'.2.1.2]; exact vp01) dL_law_319 ?_
      refine z_lng ((congrFun (mrg_in hF.2.2.2.2.1).2.2.2.2.2.1 _).trans (ptI_at o1 S0 z)) ?_
      refine z_iload C rfl dL_law_320 ?_
      refine z_i2l C dL_law_322 ?_
      refine z_lcmp C dL_law_323 ?_
      refine z_if_eq 329 C dL_law_324 (by decide) (fun c6 => ?_) (fun c6 => absurd (lg_self _) c6)
      refine z_goto 3254 C dL_law_329 (by decide) ?_
      exact kk _ _ _ _ _ _ _ _ _ _ _ (by omega) (by omega) hI' ⟨k9, hm⟩ hA'
  · obtain ⟨S2, hp, -⟩ := h2
    exact absurd hp (hno _ _)
set_option maxRecDepth 100000 in
set_option maxHeartbeats 1000000 in
theorem K_holds {X : zX} (hl0 : (xl X).stackTraces = false) {F G : Nat → Bool} {s o1 o2 M : Nat} {r : Nat → Nat} {V : Nat → Int32} {N : Nat} {S : ZM} {D : ZD} {J : Nat → Int64} {lk : ZL} {as L T : Nat → Nat} {k n i : Nat} {q6 q7 q8 : Option ZV} (C : zC X RL cL_law 9 LWl) (Nc : zNc (xs X)) (hR : xR X = room_1) (hF : LF F G s o1 o2 M r) (hI : LI D J lk as (rsOff F S) L T) (hM : iM D J S M r) (hA : LA F s o1 o2 V N S) (hi : i + 3 < N) (hN : N ≤ 2048) (hk : k + 1000 ≤ 603072 ∧ n + 10000 ≤ 7223402) (kk : LK X F G s o1 o2 M r V N L k n i) : zW X 9 k n S 2424 [some (zr (some s)), some (zr (some (L 0))), some (zr (some M)), some (zr (some o1)), some (zr (some o2)), some (zi (nI i)), q6, q7, q8] [] := by
  have hX := fun (Sm : ZM) (h : iM D J Sm M r) => X_holds hl0 hI h (V (i + 1)) (V (i + 2))
  have hx6 := LI.k6 hI
  refine z_aload_n C rfl dL_law_2424 ?_
  refine z_aload_n C rfl dL_law_2425 ?_
  refine z_iload C rfl dL_law_2426 ?_
  refine z_iconst 1 (by decide) C dL_law_2428 ?_
  refine z_iadd C dL_law_2429 ?_
  refine z_iaload C hA.1.1 (ld_in1 hA hi hN) dL_law_2430 ?_
  refine z_int (ld_v1 hA hi hN) ?_
  refine z_aload_n C rfl dL_law_2431 ?_
  refine z_iload C rfl dL_law_2432 ?_
  refine z_iconst 2 (by decide) C dL_law_2434 ?_
  refine z_iadd C dL_law_2435 ?_
  refine z_iaload C hA.1.1 (ld_in2 hA hi hN) dL_law_2436 ?_
  refine z_int (ld_v2 hA hi hN) ?_
  refine z_aload_n C rfl dL_law_2437 ?_
  refine z_callSH 4 [zr (some (L 0)), zi (V (i + 1)), zi (V (i + 2)), zr (some o1)] C Nc (W_holds hl0 (V (i + 1)) (V (i + 2)) hF.1.2.1 hA.2.1.1 hA.2.1.2 hx6 hA.2.2.2 (C_holds hl0 hI.1 (V (i + 1)) (V (i + 2))) (hvO (hX S hM)) (fun E S1 hp => es_1 ((hX S hM).2 E S1 hp))) rfl (zgoodS3 LWl_good (fun w h => h) wq468 wq469 wq207 wq470) rfl rfl rfl (by decide +kernel) rfl (by rw [hR]; exact ⟨Nat.le_of_ble_eq_true rfl, Nat.le_of_ble_eq_true rfl⟩) (rmK hR (by omega) (by omega)) (Nat.le_of_ble_eq_true rfl) dL_law_2438 (fun v1 S1 h1 => ?_) (fun E1 S1 h1 => h1.elim)
  obtain ⟨k9, D1, J1, lk1, as1, T1, PM, rfl, hL, hM1, hmc, hPM, hno⟩ := LM.of2 hI hM hA hF (pOk_B o1) hX h1
  refine z_istore [_, _, _, _, _, _, _, _, _] C (by decide) rfl dL_law_2441 ?_
  refine z_aload_n C rfl dL_law_2443 ?_
  refine z_aload_n C rfl dL_law_2444 ?_
  refine z_iload C rfl dL_law_2445 ?_
  refine z_iconst 1 (by decide) C dL_law_2447 ?_
  refine z_iadd C dL_law_2448 ?_
  refine z_iaload C hL.2.2.1.1 (ld_in1 hL.2.2 hi hN) dL_law_2449 ?_
  refine z_int (ld_v1 hL.2.2 hi hN) ?_
  refine z_aload_n C rfl dL_law_2450 ?_
  refine z_iload C rfl dL_law_2451 ?_
  refine z_iconst 2 (by decide) C dL_law_2453 ?_
  refine z_iadd C dL_law_2454 ?_
  refine z_iaload C hL.2.2.1.1 (ld_in2 hL.2.2 hi hN) dL_law_2455 ?_
  refine z_int (ld_v2 hL.2.2 hi hN) ?_
  refine z_callM 2 [zi (V (i + 1)), zi (V (i + 2))] C rfl (hmc.off G) rfl (zgoodV3 LWl_good (fun w h => ul_m h) wq471 wq472 wq473 (ul_m wm37) wq474) rfl rfl rfl (by decide +kernel) rfl (by rw [hR]; exact ⟨Nat.le_of_ble_eq_true rfl, Nat.le_of_ble_eq_true rfl⟩) hM1.k (rmK hR (by omega) (by omega)) (Nat.le_of_ble_eq_true rfl) dL_law_2456 (fun v2 S2 h2 => ?_) (fun E2 S2 h2 => ?_)
  · obtain ⟨S2, hp, rfl, -⟩ := h2
    obtain ⟨z, rfl, hfl, hq⟩ := hPM _ _ hp
    obtain ⟨D', hm, hI', hA'⟩ := hL.back hF hfl
    refine z_istore [_, _, _, _, _, _, _, _, _] C (by decide) rfl dL_law_2459 ?_
    refine z_aload_n C rfl dL_law_2461 ?_
    refine z_callM 0 [] C rfl (M_thrown hl0 hm) rfl (zgoodV3 LWl_good (fun w h => ul_m h) wq213 wq214 wq215 (ul_m wm37) wq216) rfl rfl rfl (by decide +kernel) rfl (by rw [hR]; exact ⟨Nat.le_of_ble_eq_true rfl, Nat.le_of_ble_eq_true rfl⟩) hm.1 (rmK hR (by omega) (by omega)) (Nat.le_of_ble_eq_true rfl) dL_law_2462 (fun v3 S3 h3 => ?_) (fun E3 S3 h3 => h3.elim)
    obtain ⟨rfl, hS3⟩ := h3
    subst hS3
    refine z_iload C rfl dL_law_2465 ?_
    refine z_icmp_eq 2472 C dL_law_2467 (by decide) (fun c9 => ?_) (fun c9 => absurd (rfl : (s39 D' k9) 39 0 = k9) c9)
    refine z_iload C rfl dL_law_2472 ?_
    refine z_if_ne 2496 C dL_law_2474 (by decide) (fun c8 => ?_) (fun c8 => ?_)
    · refine z_goto 3254 C dL_law_2496 (by decide) ?_
      exact kk _ _ _ _ _ _ _ _ _ _ _ (by omega) (by omega) hI' ⟨k9, hm⟩ hA'
    · obtain ⟨S0, hA0, hS1⟩ := hq c8
      subst hS1
      refine z_aload_n C rfl dL_law_2477 ?_
      refine z_iconst 0 (by decide) C dL_law_2478 ?_
      refine z_laload C hA'.2.1.1 (by rw [hA'.2.1.2]; exact vp01) dL_law_2479 ?_
      refine z_lng ((congrFun (mrg_in hF.2.2.2.2.1).2.2.2.2.2.1 _).trans (ptB_at o1 S0 z)) ?_
      refine z_iload C rfl dL_law_2480 ?_
      refine z_if_eq 2489 C dL_law_2482 (by decide) (fun c7 => ?_) (fun c7 => ?_)
      · refine z_lconst 0 (by decide) C dL_law_2489 ?_
        refine z_lcmp C dL_law_2490 ?_
        refine z_if_eq 2496 C dL_law_2491 (by decide) (fun c6 => ?_) (fun c6 => absurd (by rw [if_pos c7]; exact lg_self _) c6)
        refine z_goto 3254 C dL_law_2496 (by decide) ?_
        exact kk _ _ _ _ _ _ _ _ _ _ _ (by omega) (by omega) hI' ⟨k9, hm⟩ hA'
      · refine z_lconst 1 (by decide) C dL_law_2485 ?_
        refine z_goto 2490 C dL_law_2486 (by decide) ?_
        refine z_lcmp C dL_law_2490 ?_
        refine z_if_eq 2496 C dL_law_2491 (by decide) (fun c6 => ?_) (fun c6 => absurd (by rw [if_neg c7]; exact lg_self _) c6)
        refine z_goto 3254 C dL_law_2496 (by decide) ?_
        exact kk _ _ _ _ _ _ _ _ _ _ _ (by omega) (by omega) hI' ⟨k9, hm⟩ hA'
  · obtain ⟨S2, hp, -⟩ := h2
    exact absurd hp (hno _ _)
