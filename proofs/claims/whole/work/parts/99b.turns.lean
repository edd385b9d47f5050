/-! the law's turns -/
theorem rmK {X : zX} (hR : xR X = room_1) {k n mc ms : Nat} (h1 : k + mc ≤ 60000) (h2 : n + ms ≤ 600000) : k + mc ≤ (xR X).cells ∧ n + ms ≤ (xR X).slots := by rw [hR]; exact ⟨Nat.le_trans h1 (Nat.le_of_ble_eq_true rfl), Nat.le_trans h2 (Nat.le_of_ble_eq_true rfl)⟩
/-- what the loop goes on with -/
def LK (X : zX) (F G : Nat → Bool) (s o1 o2 M : Nat) (r : Nat → Nat) (V : Nat → Int32) (N : Nat) (L : Nat → Nat) (k n i : Nat) : Prop := ∀ (k' n' : Nat) (S' : ZM) (D' : ZD) (J' : Nat → Int64) (lk' : ZL) (as' T' : Nat → Nat) (q6 q7 q8 : Option ZV), k' ≤ k + 100 → n' ≤ n + 1000 → LI D' J' lk' as' (rsOff F S') L T' → iM D' J' S' M r → LA F s o1 o2 V N S' → zW X 9 k' n' S' 3254 [some (zr (some s)), some (zr (some (L 0))), some (zr (some M)), some (zr (some o1)), some (zr (some o2)), some (zi (nI i)), q6, q7, q8] []
section LVs
variable {F G : Nat → Bool} {s o1 o2 M : Nat} {r : Nat → Nat} {V : Nat → Int32} {N i : Nat} {S S' S1 S2 : ZM} {D D1 : ZD} {J J1 : Nat → Int64} {lk lk1 : ZL} {as as1 : Nat → Nat} {L T T1 : Nat → Nat}
theorem ld_in {j : Nat} (hi : i + 3 < N) (hN : N ≤ 2048) (hj : j ≤ 3) : vp_in (nI i + nI j) N ∧ V (nI i + nI j).toNatClampNeg = V (i + j) := by
  rw [nI_add, nI_clamp (by omega)]
  exact ⟨nI_in (by omega) (by omega), rfl⟩
theorem ld_in1 (hi : i + 3 < N) (hN : N ≤ 2048) : vp_in (nI i + 1) N := (ld_in (V := fun _ => 0) (j := 1) hi hN (by decide)).1
theorem ld_in2 (hi : i + 3 < N) (hN : N ≤ 2048) : vp_in (nI i + 2) N := (ld_in (V := fun _ => 0) (j := 2) hi hN (by decide)).1
theorem ld_in3 (hi : i + 3 < N) (hN : N ≤ 2048) : vp_in (nI i + 3) N := (ld_in (V := fun _ => 0) (j := 3) hi hN (by decide)).1
theorem ld_v1 (hi : i + 3 < N) (hN : N ≤ 2048) : V (nI i + 1).toNatClampNeg = V (i + 1) := (ld_in (j := 1) hi hN (by decide)).2
theorem ld_v2 (hi : i + 3 < N) (hN : N ≤ 2048) : V (nI i + 2).toNatClampNeg = V (i + 2) := (ld_in (j := 2) hi hN (by decide)).2
theorem ld_v3 (hi : i + 3 < N) (hN : N ≤ 2048) : V (nI i + 3).toNatClampNeg = V (i + 3) := (ld_in (j := 3) hi hN (by decide)).2
theorem LI.k6 (hI : LI D J lk as (rsOff F S) L T) : mK S (L 0) = 6 := by
  have h : (bif F (L 0) then 0 else mK S (L 0)) = 6 := hI.1.1.1.1
  cases hf : F (L 0) with
  | true => rw [hf] at h; cases h
  | false => rw [hf] at h; exact h
theorem iM.off (h : iM D J S M r) (hF : LF F G s o1 o2 M r) : iM D J (rsOff G S) M r := by
  obtain ⟨v, h⟩ := h
  exact ⟨v, h.same (rsOff_out hF.2.1) (fun k hk => rsOff_out (hF.2.2.1 k hk))⟩
theorem LM.of2 {α : Type} {mk : α → ZV} {put : ZM → α → ZM} {PC : zP} {es : List (String × Int32)} {MC : ZM → zP → Prop} (hI : LI D J lk as (rsOff F S) L T) (hM : iM D J S M r) (hA : LA F s o1 o2 V N S) (hF : LF F G s o1 o2 M r) (hput : ∀ (S : ZM) (z : α), pOk o1 S (put S z)) (hMt : ∀ Sm : ZM, iM D J Sm M r → Mt mk PC es D J lk as L T M r (MC Sm)) {v : Option ZV} (h : WQ mk put PC es F S (.inl v) S') : ∃ (k : Int32) (D1 : ZD) (J1 : Nat → Int64) (lk1 : ZL) (as1 T1 : Nat → Nat) (PM : zP), v = some (zi k) ∧ LM F G s o1 o2 M r V N S' D1 J1 lk1 as1 L T1 ∧ iM D J S' M r ∧ MC (rsOff G S') PM ∧ (∀ (v2 : Option ZV) (S2 : ZM), PM (.inl v2) S2 → ∃ z : α, v2 = some (mk z) ∧ flM J1 S2 M r D1 k ∧ (k = 0 → ∃ S0 : ZM, LA F s o1 o2 V N S0 ∧ S' = put S0 z)) ∧ ∀ (E : String) (S2 : ZM), ¬ PM (.inr E) S2 := by
  obtain ⟨_, _, _, _, _, _, _, _, _, hM1, _⟩ := LM.of hI hM hA hF hput (hMt S hM) h
  exact LM.of hI hM hA hF hput (hMt (rsOff G S') (hM1.off hF)) h
end LVs
theorem hvO {α : Type} {mk : α → ZV} {PC : zP} {es : List (String × Int32)} {D : ZD} {J : Nat → Int64} {lk : ZL} {as L T : Nat → Nat} {M : Nat} {r : Nat → Nat} {MC : zP → Prop} (h : Mt mk PC es D J lk as L T M r MC) : ∀ (v : Option ZV) (S1 : ZM), PC (.inl v) S1 → ∃ z : α, v = some (mk z) := fun v S1 hp => by
  obtain ⟨z, e, -⟩ := h.1 v S1 hp
  exact ⟨z, e⟩
theorem es_1 {E a : String} {i : Int32} {Q : Int32 → Prop} (h : ∃ k : Int32, (∀ k' : Int32, (E, k') ∈ [(a, i)] → k' = k) ∧ (∃ k' : Int32, (E, k') ∈ [(a, i)]) ∧ Q k) : E = a := by
  obtain ⟨_, _, ⟨k', hm⟩, _⟩ := h
  simp only [List.mem_cons, Prod.mk.injEq, List.not_mem_nil, or_false] at hm
  exact hm.1
theorem es_2 {E a b : String} {i j : Int32} {Q : Int32 → Prop} (h : ∃ k : Int32, (∀ k' : Int32, (E, k') ∈ [(a, i), (b, j)] → k' = k) ∧ (∃ k' : Int32, (E, k') ∈ [(a, i), (b, j)]) ∧ Q k) : E = a ∨ E = b := by
  obtain ⟨_, _, ⟨k', hm⟩, _⟩ := h
  simp only [List.mem_cons, Prod.mk.injEq, List.not_mem_nil, or_false] at hm
  exact hm.imp (fun q => q.1) (fun q => q.1)
theorem es_3 {E a b c : String} {i j m : Int32} {Q : Int32 → Prop} (h : ∃ k : Int32, (∀ k' : Int32, (E, k') ∈ [(a, i), (b, j), (c, m)] → k' = k) ∧ (∃ k' : Int32, (E, k') ∈ [(a, i), (b, j), (c, m)]) ∧ Q k) : E = a ∨ E = b ∨ E = c := by
  obtain ⟨_, _, ⟨k', hm⟩, _⟩ := h
  simp only [List.mem_cons, Prod.mk.injEq, List.not_mem_nil, or_false] at hm
  exact hm.imp (fun q => q.1) (fun q => q.imp (fun q => q.1) (fun q => q.1))
theorem ptI_at (o : Nat) (S : ZM) (z : Int32) : tJ (ptI o S z) o (0 : Int32).toNatClampNeg = z.toInt64 := by
  show up2 _ o 0 z.toInt64 o 0 = _
  unfold up2; rw [if_pos rfl, if_pos rfl]
theorem ptB_at (o : Nat) (S : ZM) (z : Int32) : tJ (ptB o S z) o (0 : Int32).toNatClampNeg = (if z = 0 then 0 else 1) := by
  show up2 _ o 0 _ o 0 = _
  unfold up2; rw [if_pos rfl, if_pos rfl]
theorem jT_1 {D : ZD} {J : Nat → Int64} {lk : ZL} {as : Nat → Nat} {S : ZM} {L T : Nat → Nat} (_ : LI D J lk as S L T) {v : Int64} : ∀ k : Nat, k < dU D → up1 J (dU D) v k = J k := fun k hk => if_neg (by omega)
theorem jT_2 {D : ZD} {J : Nat → Int64} {lk : ZL} {as : Nat → Nat} {S : ZM} {L T : Nat → Nat} (hI : LI D J lk as S L T) (y : Int32) : ∀ q : Nat, bJ (up1 J (dU D) (jF D y (dR D)) (dU D)) q = true ↔ q < dR D ∧ D 53 q = 0 ∧ D 54 q = y := fun q => by
  rw [show up1 J (dU D) (jF D y (dR D)) (dU D) = jF D y (dR D) from if_pos rfl]
  exact bJ_jF (dR D) (by have := hI.c.1.2.2.1.2; omega) q
set_option maxRecDepth 100000 in
set_option maxHeartbeats 1000000 in
theorem K_addTrack {X : zX} (hl0 : (xl X).stackTraces = false) {F G : Nat → Bool} {s o1 o2 M : Nat} {r : Nat → Nat} {V : Nat → Int32} {N : Nat} {S : ZM} {D : ZD} {J : Nat → Int64} {lk : ZL} {as L T : Nat → Nat} {k n i : Nat} {q6 q7 q8 : Option ZV} (C : zC X RL cL_law 9 LWl) (Nc : zNc (xs X)) (hR : xR X = room_1) (hF : LF F G s o1 o2 M r) (hI : LI D J lk as (rsOff F S) L T) (hM : iM D J S M r) (hA : LA F s o1 o2 V N S) (hXs : LX X s N V) (hi : i + 3 < N) (hN : N ≤ 2048) (hk : k + 100 ≤ 60000 ∧ n + 1000 ≤ 600000) (kk : LK X F G s o1 o2 M r V N L k n i) : zW X 9 k n S 264 [some (zr (some s)), some (zr (some (L 0))), some (zr (some M)), some (zr (some o1)), some (zr (some o2)), some (zi (nI i)), q6, q7, q8] [] := by
  have hX := fun (Sm : ZM) (h : iM D J Sm M r) => X_addTrack hl0 hI h (V (i + 1)) (V (i + 2))
  have hx6 := LI.k6 hI
  refine z_aload_n C rfl dL_law_264 ?_
  refine z_aload_n C rfl dL_law_265 ?_
  refine z_iload C rfl dL_law_266 ?_
  refine z_iconst 1 (by decide) C dL_law_268 ?_
  refine z_iadd C dL_law_269 ?_
  refine z_sld C hXs (ld_in1 hi hN) dL_law_270 ?_
  refine z_int (ld_v1 hi hN) ?_
  refine z_aload_n C rfl dL_law_271 ?_
  refine z_iload C rfl dL_law_272 ?_
  refine z_iconst 2 (by decide) C dL_law_274 ?_
  refine z_iadd C dL_law_275 ?_
  refine z_sld C hXs (ld_in2 hi hN) dL_law_276 ?_
  refine z_int (ld_v2 hi hN) ?_
  refine z_aload_n C rfl dL_law_277 ?_
  refine z_callSH 4 [zr (some (L 0)), zi (V (i + 1)), zi (V (i + 2)), zr (some o1)] C Nc (W_addTrack hl0 (V (i + 1)) (V (i + 2)) hF.1.2.1 hA.2.1.1 hA.2.1.2 hx6 hA.2.2.2 (C_addTrack hl0 hI.1 (V (i + 1)) (V (i + 2))) (hvO (hX S hM)) (fun E S1 hp => es_2 ((hX S hM).2 E S1 hp))) rfl (zgoodS3 LWl_good (fun w h => h) wq205 wq206 wq207 wq208) rfl rfl rfl (by decide +kernel) rfl (by rw [hR]; exact ⟨Nat.le_of_ble_eq_true rfl, Nat.le_of_ble_eq_true rfl⟩) (rmK hR (by omega) (by omega)) (Nat.le_of_ble_eq_true rfl) dL_law_278 (fun v1 S1 h1 => ?_) (fun E1 S1 h1 => h1.elim)
  obtain ⟨k9, D1, J1, lk1, as1, T1, PM, rfl, hL, hM1, hmc, hPM, hno⟩ := LM.of2 hI hM hA hF (pOk_I o1) hX h1
  refine z_istore [_, _, _, _, _, _, _, _, _] C (by decide) rfl dL_law_281 ?_
  refine z_aload_n C rfl dL_law_283 ?_
  refine z_aload_n C rfl dL_law_284 ?_
  refine z_iload C rfl dL_law_285 ?_
  refine z_iconst 1 (by decide) C dL_law_287 ?_
  refine z_iadd C dL_law_288 ?_
  refine z_sld C hXs (ld_in1 hi hN) dL_law_289 ?_
  refine z_int (ld_v1 hi hN) ?_
  refine z_aload_n C rfl dL_law_290 ?_
  refine z_iload C rfl dL_law_291 ?_
  refine z_iconst 2 (by decide) C dL_law_293 ?_
  refine z_iadd C dL_law_294 ?_
  refine z_sld C hXs (ld_in2 hi hN) dL_law_295 ?_
  refine z_int (ld_v2 hi hN) ?_
  refine z_callM 2 [zi (V (i + 1)), zi (V (i + 2))] C rfl (hmc.off G) rfl (zgoodV3 LWl_good (fun w h => ul_m h) wq209 wq210 wq211 (ul_m wm37) wq212) rfl rfl rfl (by decide +kernel) rfl (by rw [hR]; exact ⟨Nat.le_of_ble_eq_true rfl, Nat.le_of_ble_eq_true rfl⟩) hM1.k (rmK hR (by omega) (by omega)) (Nat.le_of_ble_eq_true rfl) dL_law_296 (fun v2 S2 h2 => ?_) (fun E2 S2 h2 => ?_)
  · obtain ⟨S2, hp, rfl, -⟩ := h2
    obtain ⟨z, rfl, hfl, hq⟩ := hPM _ _ hp
    obtain ⟨D', hm, hI', hA'⟩ := hL.back hF hfl
    refine z_istore [_, _, _, _, _, _, _, _, _] C (by decide) rfl dL_law_299 ?_
    refine z_aload_n C rfl dL_law_301 ?_
    refine z_callM 0 [] C rfl (M_thrown hl0 hm) rfl (zgoodV3 LWl_good (fun w h => ul_m h) wq213 wq214 wq215 (ul_m wm37) wq216) rfl rfl rfl (by decide +kernel) rfl (by rw [hR]; exact ⟨Nat.le_of_ble_eq_true rfl, Nat.le_of_ble_eq_true rfl⟩) hm.1 (rmK hR (by omega) (by omega)) (Nat.le_of_ble_eq_true rfl) dL_law_302 (fun v3 S3 h3 => ?_) (fun E3 S3 h3 => h3.elim)
    obtain ⟨rfl, hS3⟩ := h3
    subst hS3
    refine z_iload C rfl dL_law_305 ?_
    refine z_icmp_eq 312 C dL_law_307 (by decide) (fun c9 => ?_) (fun c9 => absurd (rfl : (s39 D' k9) 39 0 = k9) c9)
    refine z_iload C rfl dL_law_312 ?_
    refine z_if_ne 329 C dL_law_314 (by decide) (fun c8 => ?_) (fun c8 => ?_)
    · refine z_goto 3254 C dL_law_329 (by decide) ?_
      exact kk _ _ _ _ _ _ _ _ _ _ _ (by omega) (by omega) hI' ⟨k9, hm⟩ hA'
    · obtain ⟨S0, hA0, hS1⟩ := hq c8
      subst hS1
      refine z_aload_n C rfl dL_law_317 ?_
      refine z_iconst 0 (by decide) C dL_law_318 ?_
      refine z_laload C hA'.2.1.1 (by rw [hA'.2.1.2]; exact vp01) dL_law_319 ?_
      refine z_lng ((congrFun (mrg_in hF.2.2.2.2.1).2.2.2.2.2.1 _).trans (ptI_at o1 S0 z)) ?_
      refine z_iload C rfl dL_law_320 ?_
      refine z_i2l C dL_law_322 ?_
      refine z_lcmp C dL_law_323 ?_
      refine z_if_eq 329 C dL_law_324 (by decide) (fun c6 => ?_) (fun c6 => absurd (lg_self _) c6)
      refine z_goto 3254 C dL_law_329 (by decide) ?_
      exact kk _ _ _ _ _ _ _ _ _ _ _ (by omega) (by omega) hI' ⟨k9, hm⟩ hA'
  · obtain ⟨S2, hp, -⟩ := h2
    exact absurd hp (hno _ _)
set_option maxRecDepth 100000 in
set_option maxHeartbeats 1000000 in
theorem K_removeTrack {X : zX} (hl0 : (xl X).stackTraces = false) {F G : Nat → Bool} {s o1 o2 M : Nat} {r : Nat → Nat} {V : Nat → Int32} {N : Nat} {S : ZM} {D : ZD} {J : Nat → Int64} {lk : ZL} {as L T : Nat → Nat} {k n i : Nat} {q6 q7 q8 : Option ZV} (C : zC X RL cL_law 9 LWl) (Nc : zNc (xs X)) (hR : xR X = room_1) (hF : LF F G s o1 o2 M r) (hI : LI D J lk as (rsOff F S) L T) (hM : iM D J S M r) (hA : LA F s o1 o2 V N S) (hXs : LX X s N V) (hi : i + 3 < N) (hN : N ≤ 2048) (hk : k + 100 ≤ 60000 ∧ n + 1000 ≤ 600000) (kk : LK X F G s o1 o2 M r V N L k n i) : zW X 9 k n S 332 [some (zr (some s)), some (zr (some (L 0))), some (zr (some M)), some (zr (some o1)), some (zr (some o2)), some (zi (nI i)), q6, q7, q8] [] := by
  have hX := fun (Sm : ZM) (h : iM D J Sm M r) => X_removeTrack hl0 hI h (V (i + 1))
  have hx6 := LI.k6 hI
  refine z_aload_n C rfl dL_law_332 ?_
  refine z_aload_n C rfl dL_law_333 ?_
  refine z_iload C rfl dL_law_334 ?_
  refine z_iconst 1 (by decide) C dL_law_336 ?_
  refine z_iadd C dL_law_337 ?_
  refine z_sld C hXs (ld_in1 hi hN) dL_law_338 ?_
  refine z_int (ld_v1 hi hN) ?_
  refine z_aload_n C rfl dL_law_339 ?_
  refine z_callSH 3 [zr (some (L 0)), zi (V (i + 1)), zr (some o1)] C Nc (W_removeTrack hl0 (V (i + 1)) hF.1.2.1 hA.2.1.1 hA.2.1.2 hx6 hA.2.2.2 (C_removeTrack hl0 hI.1 (V (i + 1))) (hvO (hX S hM)) (fun E S1 hp => es_1 ((hX S hM).2 E S1 hp))) rfl (zgoodS3 LWl_good (fun w h => h) wq217 wq218 wq207 wq219) rfl rfl rfl (by decide +kernel) rfl (by rw [hR]; exact ⟨Nat.le_of_ble_eq_true rfl, Nat.le_of_ble_eq_true rfl⟩) (rmK hR (by omega) (by omega)) (Nat.le_of_ble_eq_true rfl) dL_law_340 (fun v1 S1 h1 => ?_) (fun E1 S1 h1 => h1.elim)
  obtain ⟨k9, D1, J1, lk1, as1, T1, PM, rfl, hL, hM1, hmc, hPM, hno⟩ := LM.of2 hI hM hA hF (pOk_I o1) hX h1
  refine z_istore [_, _, _, _, _, _, _, _, _] C (by decide) rfl dL_law_343 ?_
  refine z_aload_n C rfl dL_law_345 ?_
  refine z_aload_n C rfl dL_law_346 ?_
  refine z_iload C rfl dL_law_347 ?_
  refine z_iconst 1 (by decide) C dL_law_349 ?_
  refine z_iadd C dL_law_350 ?_
  refine z_sld C hXs (ld_in1 hi hN) dL_law_351 ?_
  refine z_int (ld_v1 hi hN) ?_
  refine z_callM 1 [zi (V (i + 1))] C rfl (hmc.off G) rfl (zgoodV3 LWl_good (fun w h => ul_m h) wq220 wq221 wq222 (ul_m wm37) wq223) rfl rfl rfl (by decide +kernel) rfl (by rw [hR]; exact ⟨Nat.le_of_ble_eq_true rfl, Nat.le_of_ble_eq_true rfl⟩) hM1.k (rmK hR (by omega) (by omega)) (Nat.le_of_ble_eq_true rfl) dL_law_352 (fun v2 S2 h2 => ?_) (fun E2 S2 h2 => ?_)
  · obtain ⟨S2, hp, rfl, -⟩ := h2
    obtain ⟨z, rfl, hfl, hq⟩ := hPM _ _ hp
    obtain ⟨D', hm, hI', hA'⟩ := hL.back hF hfl
    refine z_istore [_, _, _, _, _, _, _, _, _] C (by decide) rfl dL_law_355 ?_
    refine z_aload_n C rfl dL_law_357 ?_
    refine z_callM 0 [] C rfl (M_thrown hl0 hm) rfl (zgoodV3 LWl_good (fun w h => ul_m h) wq213 wq214 wq215 (ul_m wm37) wq216) rfl rfl rfl (by decide +kernel) rfl (by rw [hR]; exact ⟨Nat.le_of_ble_eq_true rfl, Nat.le_of_ble_eq_true rfl⟩) hm.1 (rmK hR (by omega) (by omega)) (Nat.le_of_ble_eq_true rfl) dL_law_358 (fun v3 S3 h3 => ?_) (fun E3 S3 h3 => h3.elim)
    obtain ⟨rfl, hS3⟩ := h3
    subst hS3
    refine z_iload C rfl dL_law_361 ?_
    refine z_icmp_eq 368 C dL_law_363 (by decide) (fun c9 => ?_) (fun c9 => absurd (rfl : (s39 D' k9) 39 0 = k9) c9)
    refine z_iload C rfl dL_law_368 ?_
    refine z_if_ne 385 C dL_law_370 (by decide) (fun c8 => ?_) (fun c8 => ?_)
    · refine z_goto 3254 C dL_law_385 (by decide) ?_
      exact kk _ _ _ _ _ _ _ _ _ _ _ (by omega) (by omega) hI' ⟨k9, hm⟩ hA'
    · obtain ⟨S0, hA0, hS1⟩ := hq c8
      subst hS1
      refine z_aload_n C rfl dL_law_373 ?_
      refine z_iconst 0 (by decide) C dL_law_374 ?_
      refine z_laload C hA'.2.1.1 (by rw [hA'.2.1.2]; exact vp01) dL_law_375 ?_
      refine z_lng ((congrFun (mrg_in hF.2.2.2.2.1).2.2.2.2.2.1 _).trans (ptI_at o1 S0 z)) ?_
      refine z_iload C rfl dL_law_376 ?_
      refine z_i2l C dL_law_378 ?_
      refine z_lcmp C dL_law_379 ?_
      refine z_if_eq 385 C dL_law_380 (by decide) (fun c6 => ?_) (fun c6 => absurd (lg_self _) c6)
      refine z_goto 3254 C dL_law_385 (by decide) ?_
      exact kk _ _ _ _ _ _ _ _ _ _ _ (by omega) (by omega) hI' ⟨k9, hm⟩ hA'
  · obtain ⟨S2, hp, -⟩ := h2
    exact absurd hp (hno _ _)
set_option maxRecDepth 100000 in
set_option maxHeartbeats 1000000 in
theorem K_setRating {X : zX} (hl0 : (xl X).stackTraces = false) {F G : Nat → Bool} {s o1 o2 M : Nat} {r : Nat → Nat} {V : Nat → Int32} {N : Nat} {S : ZM} {D : ZD} {J : Nat → Int64} {lk : ZL} {as L T : Nat → Nat} {k n i : Nat} {q6 q7 q8 : Option ZV} (C : zC X RL cL_law 9 LWl) (Nc : zNc (xs X)) (hR : xR X = room_1) (hF : LF F G s o1 o2 M r) (hI : LI D J lk as (rsOff F S) L T) (hM : iM D J S M r) (hA : LA F s o1 o2 V N S) (hXs : LX X s N V) (hi : i + 3 < N) (hN : N ≤ 2048) (hk : k + 100 ≤ 60000 ∧ n + 1000 ≤ 600000) (kk : LK X F G s o1 o2 M r V N L k n i) : zW X 9 k n S 388 [some (zr (some s)), some (zr (some (L 0))), some (zr (some M)), some (zr (some o1)), some (zr (some o2)), some (zi (nI i)), q6, q7, q8] [] := by
  have hX := fun (Sm : ZM) (h : iM D J Sm M r) => X_setRating hl0 hI h (V (i + 1)) (V (i + 2))
  have hx6 := LI.k6 hI
  refine z_aload_n C rfl dL_law_388 ?_
  refine z_aload_n C rfl dL_law_389 ?_
  refine z_iload C rfl dL_law_390 ?_
  refine z_iconst 1 (by decide) C dL_law_392 ?_
  refine z_iadd C dL_law_393 ?_
  refine z_sld C hXs (ld_in1 hi hN) dL_law_394 ?_
  refine z_int (ld_v1 hi hN) ?_
  refine z_aload_n C rfl dL_law_395 ?_
  refine z_iload C rfl dL_law_396 ?_
  refine z_iconst 2 (by decide) C dL_law_398 ?_
  refine z_iadd C dL_law_399 ?_
  refine z_sld C hXs (ld_in2 hi hN) dL_law_400 ?_
  refine z_int (ld_v2 hi hN) ?_
  refine z_aload_n C rfl dL_law_401 ?_
  refine z_callSH 4 [zr (some (L 0)), zi (V (i + 1)), zi (V (i + 2)), zr (some o1)] C Nc (W_setRating hl0 (V (i + 1)) (V (i + 2)) hF.1.2.1 hA.2.1.1 hA.2.1.2 hx6 hA.2.2.2 (C_setRating hl0 hI.1 (V (i + 1)) (V (i + 2))) (hvO (hX S hM)) (fun E S1 hp => es_2 ((hX S hM).2 E S1 hp))) rfl (zgoodS3 LWl_good (fun w h => h) wq224 wq225 wq207 wq226) rfl rfl rfl (by decide +kernel) rfl (by rw [hR]; exact ⟨Nat.le_of_ble_eq_true rfl, Nat.le_of_ble_eq_true rfl⟩) (rmK hR (by omega) (by omega)) (Nat.le_of_ble_eq_true rfl) dL_law_402 (fun v1 S1 h1 => ?_) (fun E1 S1 h1 => h1.elim)
  obtain ⟨k9, D1, J1, lk1, as1, T1, PM, rfl, hL, hM1, hmc, hPM, hno⟩ := LM.of2 hI hM hA hF (pOk_I o1) hX h1
  refine z_istore [_, _, _, _, _, _, _, _, _] C (by decide) rfl dL_law_405 ?_
  refine z_aload_n C rfl dL_law_407 ?_
  refine z_aload_n C rfl dL_law_408 ?_
  refine z_iload C rfl dL_law_409 ?_
  refine z_iconst 1 (by decide) C dL_law_411 ?_
  refine z_iadd C dL_law_412 ?_
  refine z_sld C hXs (ld_in1 hi hN) dL_law_413 ?_
  refine z_int (ld_v1 hi hN) ?_
  refine z_aload_n C rfl dL_law_414 ?_
  refine z_iload C rfl dL_law_415 ?_
  refine z_iconst 2 (by decide) C dL_law_417 ?_
  refine z_iadd C dL_law_418 ?_
  refine z_sld C hXs (ld_in2 hi hN) dL_law_419 ?_
  refine z_int (ld_v2 hi hN) ?_
  refine z_callM 2 [zi (V (i + 1)), zi (V (i + 2))] C rfl (hmc.off G) rfl (zgoodV3 LWl_good (fun w h => ul_m h) wq227 wq228 wq229 (ul_m wm37) wq230) rfl rfl rfl (by decide +kernel) rfl (by rw [hR]; exact ⟨Nat.le_of_ble_eq_true rfl, Nat.le_of_ble_eq_true rfl⟩) hM1.k (rmK hR (by omega) (by omega)) (Nat.le_of_ble_eq_true rfl) dL_law_420 (fun v2 S2 h2 => ?_) (fun E2 S2 h2 => ?_)
  · obtain ⟨S2, hp, rfl, -⟩ := h2
    obtain ⟨z, rfl, hfl, hq⟩ := hPM _ _ hp
    obtain ⟨D', hm, hI', hA'⟩ := hL.back hF hfl
    refine z_istore [_, _, _, _, _, _, _, _, _] C (by decide) rfl dL_law_423 ?_
    refine z_aload_n C rfl dL_law_425 ?_
    refine z_callM 0 [] C rfl (M_thrown hl0 hm) rfl (zgoodV3 LWl_good (fun w h => ul_m h) wq213 wq214 wq215 (ul_m wm37) wq216) rfl rfl rfl (by decide +kernel) rfl (by rw [hR]; exact ⟨Nat.le_of_ble_eq_true rfl, Nat.le_of_ble_eq_true rfl⟩) hm.1 (rmK hR (by omega) (by omega)) (Nat.le_of_ble_eq_true rfl) dL_law_426 (fun v3 S3 h3 => ?_) (fun E3 S3 h3 => h3.elim)
    obtain ⟨rfl, hS3⟩ := h3
    subst hS3
    refine z_iload C rfl dL_law_429 ?_
    refine z_icmp_eq 436 C dL_law_431 (by decide) (fun c9 => ?_) (fun c9 => absurd (rfl : (s39 D' k9) 39 0 = k9) c9)
    refine z_iload C rfl dL_law_436 ?_
    refine z_if_ne 453 C dL_law_438 (by decide) (fun c8 => ?_) (fun c8 => ?_)
    · refine z_goto 3254 C dL_law_453 (by decide) ?_
      exact kk _ _ _ _ _ _ _ _ _ _ _ (by omega) (by omega) hI' ⟨k9, hm⟩ hA'
    · obtain ⟨S0, hA0, hS1⟩ := hq c8
      subst hS1
      refine z_aload_n C rfl dL_law_441 ?_
      refine z_iconst 0 (by decide) C dL_law_442 ?_
      refine z_laload C hA'.2.1.1 (by rw [hA'.2.1.2]; exact vp01) dL_law_443 ?_
      refine z_lng ((congrFun (mrg_in hF.2.2.2.2.1).2.2.2.2.2.1 _).trans (ptI_at o1 S0 z)) ?_
      refine z_iload C rfl dL_law_444 ?_
      refine z_i2l C dL_law_446 ?_
      refine z_lcmp C dL_law_447 ?_
      refine z_if_eq 453 C dL_law_448 (by decide) (fun c6 => ?_) (fun c6 => absurd (lg_self _) c6)
      refine z_goto 3254 C dL_law_453 (by decide) ?_
      exact kk _ _ _ _ _ _ _ _ _ _ _ (by omega) (by omega) hI' ⟨k9, hm⟩ hA'
  · obtain ⟨S2, hp, -⟩ := h2
    exact absurd hp (hno _ _)
set_option maxRecDepth 100000 in
set_option maxHeartbeats 1000000 in
theorem K_play {X : zX} (hl0 : (xl X).stackTraces = false) {F G : Nat → Bool} {s o1 o2 M : Nat} {r : Nat → Nat} {V : Nat → Int32} {N : Nat} {S : ZM} {D : ZD} {J : Nat → Int64} {lk : ZL} {as L T : Nat → Nat} {k n i : Nat} {q6 q7 q8 : Option ZV} (C : zC X RL cL_law 9 LWl) (Nc : zNc (xs X)) (hR : xR X = room_1) (hF : LF F G s o1 o2 M r) (hI : LI D J lk as (rsOff F S) L T) (hM : iM D J S M r) (hA : LA F s o1 o2 V N S) (hXs : LX X s N V) (hi : i + 3 < N) (hN : N ≤ 2048) (hk : k + 100 ≤ 60000 ∧ n + 1000 ≤ 600000) (kk : LK X F G s o1 o2 M r V N L k n i) : zW X 9 k n S 456 [some (zr (some s)), some (zr (some (L 0))), some (zr (some M)), some (zr (some o1)), some (zr (some o2)), some (zi (nI i)), q6, q7, q8] [] := by
  have hX := fun (Sm : ZM) (h : iM D J Sm M r) => X_play hl0 hI h (V (i + 1))
  have hx6 := LI.k6 hI
  refine z_aload_n C rfl dL_law_456 ?_
  refine z_aload_n C rfl dL_law_457 ?_
  refine z_iload C rfl dL_law_458 ?_
  refine z_iconst 1 (by decide) C dL_law_460 ?_
  refine z_iadd C dL_law_461 ?_
  refine z_sld C hXs (ld_in1 hi hN) dL_law_462 ?_
  refine z_int (ld_v1 hi hN) ?_
  refine z_aload_n C rfl dL_law_463 ?_
  refine z_callSH 3 [zr (some (L 0)), zi (V (i + 1)), zr (some o1)] C Nc (W_play hl0 (V (i + 1)) hF.1.2.1 hA.2.1.1 hA.2.1.2 hx6 hA.2.2.2 (C_play hl0 hI.1 (V (i + 1))) (hvO (hX S hM)) (fun E S1 hp => es_2 ((hX S hM).2 E S1 hp))) rfl (zgoodS3 LWl_good (fun w h => h) wq231 wq232 wq207 wq233) rfl rfl rfl (by decide +kernel) rfl (by rw [hR]; exact ⟨Nat.le_of_ble_eq_true rfl, Nat.le_of_ble_eq_true rfl⟩) (rmK hR (by omega) (by omega)) (Nat.le_of_ble_eq_true rfl) dL_law_464 (fun v1 S1 h1 => ?_) (fun E1 S1 h1 => h1.elim)
  obtain ⟨k9, D1, J1, lk1, as1, T1, PM, rfl, hL, hM1, hmc, hPM, hno⟩ := LM.of2 hI hM hA hF (pOk_I o1) hX h1
  refine z_istore [_, _, _, _, _, _, _, _, _] C (by decide) rfl dL_law_467 ?_
  refine z_aload_n C rfl dL_law_469 ?_
  refine z_aload_n C rfl dL_law_470 ?_
  refine z_iload C rfl dL_law_471 ?_
  refine z_iconst 1 (by decide) C dL_law_473 ?_
  refine z_iadd C dL_law_474 ?_
  refine z_sld C hXs (ld_in1 hi hN) dL_law_475 ?_
  refine z_int (ld_v1 hi hN) ?_
  refine z_callM 1 [zi (V (i + 1))] C rfl (hmc.off G) rfl (zgoodV3 LWl_good (fun w h => ul_m h) wq234 wq235 wq236 (ul_m wm37) wq237) rfl rfl rfl (by decide +kernel) rfl (by rw [hR]; exact ⟨Nat.le_of_ble_eq_true rfl, Nat.le_of_ble_eq_true rfl⟩) hM1.k (rmK hR (by omega) (by omega)) (Nat.le_of_ble_eq_true rfl) dL_law_476 (fun v2 S2 h2 => ?_) (fun E2 S2 h2 => ?_)
  · obtain ⟨S2, hp, rfl, -⟩ := h2
    obtain ⟨z, rfl, hfl, hq⟩ := hPM _ _ hp
    obtain ⟨D', hm, hI', hA'⟩ := hL.back hF hfl
    refine z_istore [_, _, _, _, _, _, _, _, _] C (by decide) rfl dL_law_479 ?_
    refine z_aload_n C rfl dL_law_481 ?_
    refine z_callM 0 [] C rfl (M_thrown hl0 hm) rfl (zgoodV3 LWl_good (fun w h => ul_m h) wq213 wq214 wq215 (ul_m wm37) wq216) rfl rfl rfl (by decide +kernel) rfl (by rw [hR]; exact ⟨Nat.le_of_ble_eq_true rfl, Nat.le_of_ble_eq_true rfl⟩) hm.1 (rmK hR (by omega) (by omega)) (Nat.le_of_ble_eq_true rfl) dL_law_482 (fun v3 S3 h3 => ?_) (fun E3 S3 h3 => h3.elim)
    obtain ⟨rfl, hS3⟩ := h3
    subst hS3
    refine z_iload C rfl dL_law_485 ?_
    refine z_icmp_eq 492 C dL_law_487 (by decide) (fun c9 => ?_) (fun c9 => absurd (rfl : (s39 D' k9) 39 0 = k9) c9)
    refine z_iload C rfl dL_law_492 ?_
    refine z_if_ne 509 C dL_law_494 (by decide) (fun c8 => ?_) (fun c8 => ?_)
    · refine z_goto 3254 C dL_law_509 (by decide) ?_
      exact kk _ _ _ _ _ _ _ _ _ _ _ (by omega) (by omega) hI' ⟨k9, hm⟩ hA'
    · obtain ⟨S0, hA0, hS1⟩ := hq c8
      subst hS1
      refine z_aload_n C rfl dL_law_497 ?_
      refine z_iconst 0 (by decide) C dL_law_498 ?_
      refine z_laload C hA'.2.1.1 (by rw [hA'.2.1.2]; exact vp01) dL_law_499 ?_
      refine z_lng ((congrFun (mrg_in hF.2.2.2.2.1).2.2.2.2.2.1 _).trans (ptI_at o1 S0 z)) ?_
      refine z_iload C rfl dL_law_500 ?_
      refine z_i2l C dL_law_502 ?_
      refine z_lcmp C dL_law_503 ?_
      refine z_if_eq 509 C dL_law_504 (by decide) (fun c6 => ?_) (fun c6 => absurd (lg_self _) c6)
      refine z_goto 3254 C dL_law_509 (by decide) ?_
      exact kk _ _ _ _ _ _ _ _ _ _ _ (by omega) (by omega) hI' ⟨k9, hm⟩ hA'
  · obtain ⟨S2, hp, -⟩ := h2
    exact absurd hp (hno _ _)
set_option maxRecDepth 100000 in
set_option maxHeartbeats 1000000 in
theorem K_pass {X : zX} (hl0 : (xl X).stackTraces = false) {F G : Nat → Bool} {s o1 o2 M : Nat} {r : Nat → Nat} {V : Nat → Int32} {N : Nat} {S : ZM} {D : ZD} {J : Nat → Int64} {lk : ZL} {as L T : Nat → Nat} {k n i : Nat} {q6 q7 q8 : Option ZV} (C : zC X RL cL_law 9 LWl) (Nc : zNc (xs X)) (hR : xR X = room_1) (hF : LF F G s o1 o2 M r) (hI : LI D J lk as (rsOff F S) L T) (hM : iM D J S M r) (hA : LA F s o1 o2 V N S) (hXs : LX X s N V) (hi : i + 3 < N) (hN : N ≤ 2048) (hk : k + 100 ≤ 60000 ∧ n + 1000 ≤ 600000) (kk : LK X F G s o1 o2 M r V N L k n i) : zW X 9 k n S 512 [some (zr (some s)), some (zr (some (L 0))), some (zr (some M)), some (zr (some o1)), some (zr (some o2)), some (zi (nI i)), q6, q7, q8] [] := by
  have hX := fun (Sm : ZM) (h : iM D J Sm M r) => X_pass hl0 hI h (V (i + 1))
  have hx6 := LI.k6 hI
  refine z_aload_n C rfl dL_law_512 ?_
  refine z_aload_n C rfl dL_law_513 ?_
  refine z_iload C rfl dL_law_514 ?_
  refine z_iconst 1 (by decide) C dL_law_516 ?_
  refine z_iadd C dL_law_517 ?_
  refine z_sld C hXs (ld_in1 hi hN) dL_law_518 ?_
  refine z_int (ld_v1 hi hN) ?_
  refine z_aload_n C rfl dL_law_519 ?_
  refine z_callSH 3 [zr (some (L 0)), zi (V (i + 1)), zr (some o1)] C Nc (W_pass hl0 (V (i + 1)) hF.1.2.1 hA.2.1.1 hA.2.1.2 hx6 hA.2.2.2 (C_pass hl0 hI.1 (V (i + 1))) (hvO (hX S hM)) (fun E S1 hp => es_2 ((hX S hM).2 E S1 hp))) rfl (zgoodS3 LWl_good (fun w h => h) wq238 wq239 wq207 wq240) rfl rfl rfl (by decide +kernel) rfl (by rw [hR]; exact ⟨Nat.le_of_ble_eq_true rfl, Nat.le_of_ble_eq_true rfl⟩) (rmK hR (by omega) (by omega)) (Nat.le_of_ble_eq_true rfl) dL_law_520 (fun v1 S1 h1 => ?_) (fun E1 S1 h1 => h1.elim)
  obtain ⟨k9, D1, J1, lk1, as1, T1, PM, rfl, hL, hM1, hmc, hPM, hno⟩ := LM.of2 hI hM hA hF (pOk_I o1) hX h1
  refine z_istore [_, _, _, _, _, _, _, _, _] C (by decide) rfl dL_law_523 ?_
  refine z_aload_n C rfl dL_law_525 ?_
  refine z_aload_n C rfl dL_law_526 ?_
  refine z_iload C rfl dL_law_527 ?_
  refine z_iconst 1 (by decide) C dL_law_529 ?_
  refine z_iadd C dL_law_530 ?_
  refine z_sld C hXs (ld_in1 hi hN) dL_law_531 ?_
  refine z_int (ld_v1 hi hN) ?_
  refine z_callM 1 [zi (V (i + 1))] C rfl (hmc.off G) rfl (zgoodV3 LWl_good (fun w h => ul_m h) wq241 wq242 wq243 (ul_m wm37) wq244) rfl rfl rfl (by decide +kernel) rfl (by rw [hR]; exact ⟨Nat.le_of_ble_eq_true rfl, Nat.le_of_ble_eq_true rfl⟩) hM1.k (rmK hR (by omega) (by omega)) (Nat.le_of_ble_eq_true rfl) dL_law_532 (fun v2 S2 h2 => ?_) (fun E2 S2 h2 => ?_)
  · obtain ⟨S2, hp, rfl, -⟩ := h2
    obtain ⟨z, rfl, hfl, hq⟩ := hPM _ _ hp
    obtain ⟨D', hm, hI', hA'⟩ := hL.back hF hfl
    refine z_istore [_, _, _, _, _, _, _, _, _] C (by decide) rfl dL_law_535 ?_
    refine z_aload_n C rfl dL_law_537 ?_
    refine z_callM 0 [] C rfl (M_thrown hl0 hm) rfl (zgoodV3 LWl_good (fun w h => ul_m h) wq213 wq214 wq215 (ul_m wm37) wq216) rfl rfl rfl (by decide +kernel) rfl (by rw [hR]; exact ⟨Nat.le_of_ble_eq_true rfl, Nat.le_of_ble_eq_true rfl⟩) hm.1 (rmK hR (by omega) (by omega)) (Nat.le_of_ble_eq_true rfl) dL_law_538 (fun v3 S3 h3 => ?_) (fun E3 S3 h3 => h3.elim)
    obtain ⟨rfl, hS3⟩ := h3
    subst hS3
    refine z_iload C rfl dL_law_541 ?_
    refine z_icmp_eq 548 C dL_law_543 (by decide) (fun c9 => ?_) (fun c9 => absurd (rfl : (s39 D' k9) 39 0 = k9) c9)
    refine z_iload C rfl dL_law_548 ?_
    refine z_if_ne 565 C dL_law_550 (by decide) (fun c8 => ?_) (fun c8 => ?_)
    · refine z_goto 3254 C dL_law_565 (by decide) ?_
      exact kk _ _ _ _ _ _ _ _ _ _ _ (by omega) (by omega) hI' ⟨k9, hm⟩ hA'
    · obtain ⟨S0, hA0, hS1⟩ := hq c8
      subst hS1
      refine z_aload_n C rfl dL_law_553 ?_
      refine z_iconst 0 (by decide) C dL_law_554 ?_
      refine z_laload C hA'.2.1.1 (by rw [hA'.2.1.2]; exact vp01) dL_law_555 ?_
      refine z_lng ((congrFun (mrg_in hF.2.2.2.2.1).2.2.2.2.2.1 _).trans (ptI_at o1 S0 z)) ?_
      refine z_iload C rfl dL_law_556 ?_
      refine z_i2l C dL_law_558 ?_
      refine z_lcmp C dL_law_559 ?_
      refine z_if_eq 565 C dL_law_560 (by decide) (fun c6 => ?_) (fun c6 => absurd (lg_self _) c6)
      refine z_goto 3254 C dL_law_565 (by decide) ?_
      exact kk _ _ _ _ _ _ _ _ _ _ _ (by omega) (by omega) hI' ⟨k9, hm⟩ hA'
  · obtain ⟨S2, hp, -⟩ := h2
    exact absurd hp (hno _ _)
set_option maxRecDepth 100000 in
set_option maxHeartbeats 1000000 in
theorem K_addTag {X : zX} (hl0 : (xl X).stackTraces = false) {F G : Nat → Bool} {s o1 o2 M : Nat} {r : Nat → Nat} {V : Nat → Int32} {N : Nat} {S : ZM} {D : ZD} {J : Nat → Int64} {lk : ZL} {as L T : Nat → Nat} {k n i : Nat} {q6 q7 q8 : Option ZV} (C : zC X RL cL_law 9 LWl) (Nc : zNc (xs X)) (hR : xR X = room_1) (hF : LF F G s o1 o2 M r) (hI : LI D J lk as (rsOff F S) L T) (hM : iM D J S M r) (hA : LA F s o1 o2 V N S) (hXs : LX X s N V) (hi : i + 3 < N) (hN : N ≤ 2048) (hk : k + 100 ≤ 60000 ∧ n + 1000 ≤ 600000) (kk : LK X F G s o1 o2 M r V N L k n i) : zW X 9 k n S 568 [some (zr (some s)), some (zr (some (L 0))), some (zr (some M)), some (zr (some o1)), some (zr (some o2)), some (zi (nI i)), q6, q7, q8] [] := by
  have hX := fun (Sm : ZM) (h : iM D J Sm M r) => X_addTag hl0 hI h 
  have hx6 := LI.k6 hI
  refine z_aload_n C rfl dL_law_568 ?_
  refine z_aload_n C rfl dL_law_569 ?_
  refine z_callSH 2 [zr (some (L 0)), zr (some o1)] C Nc (W_addTag hl0  hF.1.2.1 hA.2.1.1 hA.2.1.2 hx6 hA.2.2.2 (C_addTag hl0 hI.1 ) (hvO (hX S hM)) (fun E S1 hp => es_1 ((hX S hM).2 E S1 hp))) rfl (zgoodS3 LWl_good (fun w h => h) wq245 wq246 wq207 wq247) rfl rfl rfl (by decide +kernel) rfl (by rw [hR]; exact ⟨Nat.le_of_ble_eq_true rfl, Nat.le_of_ble_eq_true rfl⟩) (rmK hR (by omega) (by omega)) (Nat.le_of_ble_eq_true rfl) dL_law_570 (fun v1 S1 h1 => ?_) (fun E1 S1 h1 => h1.elim)
  obtain ⟨k9, D1, J1, lk1, as1, T1, PM, rfl, hL, hM1, hmc, hPM, hno⟩ := LM.of2 hI hM hA hF (pOk_I o1) hX h1
  refine z_istore [_, _, _, _, _, _, _, _, _] C (by decide) rfl dL_law_573 ?_
  refine z_aload_n C rfl dL_law_575 ?_
  refine z_callM 0 [] C rfl (hmc.off G) rfl (zgoodV3 LWl_good (fun w h => ul_m h) wq248 wq249 wq250 (ul_m wm37) wq251) rfl rfl rfl (by decide +kernel) rfl (by rw [hR]; exact ⟨Nat.le_of_ble_eq_true rfl, Nat.le_of_ble_eq_true rfl⟩) hM1.k (rmK hR (by omega) (by omega)) (Nat.le_of_ble_eq_true rfl) dL_law_576 (fun v2 S2 h2 => ?_) (fun E2 S2 h2 => ?_)
  · obtain ⟨S2, hp, rfl, -⟩ := h2
    obtain ⟨z, rfl, hfl, hq⟩ := hPM _ _ hp
    obtain ⟨D', hm, hI', hA'⟩ := hL.back hF hfl
    refine z_istore [_, _, _, _, _, _, _, _, _] C (by decide) rfl dL_law_579 ?_
    refine z_aload_n C rfl dL_law_581 ?_
    refine z_callM 0 [] C rfl (M_thrown hl0 hm) rfl (zgoodV3 LWl_good (fun w h => ul_m h) wq213 wq214 wq215 (ul_m wm37) wq216) rfl rfl rfl (by decide +kernel) rfl (by rw [hR]; exact ⟨Nat.le_of_ble_eq_true rfl, Nat.le_of_ble_eq_true rfl⟩) hm.1 (rmK hR (by omega) (by omega)) (Nat.le_of_ble_eq_true rfl) dL_law_582 (fun v3 S3 h3 => ?_) (fun E3 S3 h3 => h3.elim)
    obtain ⟨rfl, hS3⟩ := h3
    subst hS3
    refine z_iload C rfl dL_law_585 ?_
    refine z_icmp_eq 592 C dL_law_587 (by decide) (fun c9 => ?_) (fun c9 => absurd (rfl : (s39 D' k9) 39 0 = k9) c9)
    refine z_iload C rfl dL_law_592 ?_
    refine z_if_ne 609 C dL_law_594 (by decide) (fun c8 => ?_) (fun c8 => ?_)
    · refine z_goto 3254 C dL_law_609 (by decide) ?_
      exact kk _ _ _ _ _ _ _ _ _ _ _ (by omega) (by omega) hI' ⟨k9, hm⟩ hA'
    · obtain ⟨S0, hA0, hS1⟩ := hq c8
      subst hS1
      refine z_aload_n C rfl dL_law_597 ?_
      refine z_iconst 0 (by decide) C dL_law_598 ?_
      refine z_laload C hA'.2.1.1 (by rw [hA'.2.1.2]; exact vp01) dL_law_599 ?_
      refine z_lng ((congrFun (mrg_in hF.2.2.2.2.1).2.2.2.2.2.1 _).trans (ptI_at o1 S0 z)) ?_
      refine z_iload C rfl dL_law_600 ?_
      refine z_i2l C dL_law_602 ?_
      refine z_lcmp C dL_law_603 ?_
      refine z_if_eq 609 C dL_law_604 (by decide) (fun c6 => ?_) (fun c6 => absurd (lg_self _) c6)
      refine z_goto 3254 C dL_law_609 (by decide) ?_
      exact kk _ _ _ _ _ _ _ _ _ _ _ (by omega) (by omega) hI' ⟨k9, hm⟩ hA'
  · obtain ⟨S2, hp, -⟩ := h2
    exact absurd hp (hno _ _)
set_option maxRecDepth 100000 in
set_option maxHeartbeats 1000000 in
theorem K_letter {X : zX} (hl0 : (xl X).stackTraces = false) {F G : Nat → Bool} {s o1 o2 M : Nat} {r : Nat → Nat} {V : Nat → Int32} {N : Nat} {S : ZM} {D : ZD} {J : Nat → Int64} {lk : ZL} {as L T : Nat → Nat} {k n i : Nat} {q6 q7 q8 : Option ZV} (C : zC X RL cL_law 9 LWl) (Nc : zNc (xs X)) (hR : xR X = room_1) (hF : LF F G s o1 o2 M r) (hI : LI D J lk as (rsOff F S) L T) (hM : iM D J S M r) (hA : LA F s o1 o2 V N S) (hXs : LX X s N V) (hi : i + 3 < N) (hN : N ≤ 2048) (hk : k + 100 ≤ 60000 ∧ n + 1000 ≤ 600000) (kk : LK X F G s o1 o2 M r V N L k n i) : zW X 9 k n S 612 [some (zr (some s)), some (zr (some (L 0))), some (zr (some M)), some (zr (some o1)), some (zr (some o2)), some (zi (nI i)), q6, q7, q8] [] := by
  have hX := fun (Sm : ZM) (h : iM D J Sm M r) => X_letter hl0 hI h (V (i + 1)) (((V (i + 2)).toUInt32 % 65536).toInt32)
  have hx6 := LI.k6 hI
  refine z_aload_n C rfl dL_law_612 ?_
  refine z_aload_n C rfl dL_law_613 ?_
  refine z_iload C rfl dL_law_614 ?_
  refine z_iconst 1 (by decide) C dL_law_616 ?_
  refine z_iadd C dL_law_617 ?_
  refine z_sld C hXs (ld_in1 hi hN) dL_law_618 ?_
  refine z_int (ld_v1 hi hN) ?_
  refine z_aload_n C rfl dL_law_619 ?_
  refine z_iload C rfl dL_law_620 ?_
  refine z_iconst 2 (by decide) C dL_law_622 ?_
  refine z_iadd C dL_law_623 ?_
  refine z_sld C hXs (ld_in2 hi hN) dL_law_624 ?_
  refine z_int (ld_v2 hi hN) ?_
  refine z_i2c C dL_law_625 ?_
  refine z_aload_n C rfl dL_law_626 ?_
  refine z_callSH 4 [zr (some (L 0)), zi (V (i + 1)), zi (((V (i + 2)).toUInt32 % 65536).toInt32), zr (some o1)] C Nc (W_letter hl0 (V (i + 1)) (((V (i + 2)).toUInt32 % 65536).toInt32) hF.1.2.1 hA.2.1.1 hA.2.1.2 hx6 hA.2.2.2 (C_letter hl0 hI.1 (V (i + 1)) (((V (i + 2)).toUInt32 % 65536).toInt32)) (hvO (hX S hM)) (fun E S1 hp => es_3 ((hX S hM).2 E S1 hp))) rfl (zgoodS3 LWl_good (fun w h => h) wq252 wq253 wq207 wq254) rfl rfl rfl (by decide +kernel) rfl (by rw [hR]; exact ⟨Nat.le_of_ble_eq_true rfl, Nat.le_of_ble_eq_true rfl⟩) (rmK hR (by omega) (by omega)) (Nat.le_of_ble_eq_true rfl) dL_law_627 (fun v1 S1 h1 => ?_) (fun E1 S1 h1 => h1.elim)
  obtain ⟨k9, D1, J1, lk1, as1, T1, PM, rfl, hL, hM1, hmc, hPM, hno⟩ := LM.of2 hI hM hA hF (pOk_I o1) hX h1
  refine z_istore [_, _, _, _, _, _, _, _, _] C (by decide) rfl dL_law_630 ?_
  refine z_aload_n C rfl dL_law_632 ?_
  refine z_aload_n C rfl dL_law_633 ?_
  refine z_iload C rfl dL_law_634 ?_
  refine z_iconst 1 (by decide) C dL_law_636 ?_
  refine z_iadd C dL_law_637 ?_
  refine z_sld C hXs (ld_in1 hi hN) dL_law_638 ?_
  refine z_int (ld_v1 hi hN) ?_
  refine z_aload_n C rfl dL_law_639 ?_
  refine z_iload C rfl dL_law_640 ?_
  refine z_iconst 2 (by decide) C dL_law_642 ?_
  refine z_iadd C dL_law_643 ?_
  refine z_sld C hXs (ld_in2 hi hN) dL_law_644 ?_
  refine z_int (ld_v2 hi hN) ?_
  refine z_i2c C dL_law_645 ?_
  refine z_callM 2 [zi (V (i + 1)), zi (((V (i + 2)).toUInt32 % 65536).toInt32)] C rfl (hmc.off G) rfl (zgoodV3 LWl_good (fun w h => ul_m h) wq255 wq256 wq257 (ul_m wm37) wq258) rfl rfl rfl (by decide +kernel) rfl (by rw [hR]; exact ⟨Nat.le_of_ble_eq_true rfl, Nat.le_of_ble_eq_true rfl⟩) hM1.k (rmK hR (by omega) (by omega)) (Nat.le_of_ble_eq_true rfl) dL_law_646 (fun v2 S2 h2 => ?_) (fun E2 S2 h2 => ?_)
  · obtain ⟨S2, hp, rfl, -⟩ := h2
    obtain ⟨z, rfl, hfl, hq⟩ := hPM _ _ hp
    obtain ⟨D', hm, hI', hA'⟩ := hL.back hF hfl
    refine z_istore [_, _, _, _, _, _, _, _, _] C (by decide) rfl dL_law_649 ?_
    refine z_aload_n C rfl dL_law_651 ?_
    refine z_callM 0 [] C rfl (M_thrown hl0 hm) rfl (zgoodV3 LWl_good (fun w h => ul_m h) wq213 wq214 wq215 (ul_m wm37) wq216) rfl rfl rfl (by decide +kernel) rfl (by rw [hR]; exact ⟨Nat.le_of_ble_eq_true rfl, Nat.le_of_ble_eq_true rfl⟩) hm.1 (rmK hR (by omega) (by omega)) (Nat.le_of_ble_eq_true rfl) dL_law_652 (fun v3 S3 h3 => ?_) (fun E3 S3 h3 => h3.elim)
    obtain ⟨rfl, hS3⟩ := h3
    subst hS3
    refine z_iload C rfl dL_law_655 ?_
    refine z_icmp_eq 662 C dL_law_657 (by decide) (fun c9 => ?_) (fun c9 => absurd (rfl : (s39 D' k9) 39 0 = k9) c9)
    refine z_iload C rfl dL_law_662 ?_
    refine z_if_ne 679 C dL_law_664 (by decide) (fun c8 => ?_) (fun c8 => ?_)
    · refine z_goto 3254 C dL_law_679 (by decide) ?_
      exact kk _ _ _ _ _ _ _ _ _ _ _ (by omega) (by omega) hI' ⟨k9, hm⟩ hA'
    · obtain ⟨S0, hA0, hS1⟩ := hq c8
      subst hS1
      refine z_aload_n C rfl dL_law_667 ?_
      refine z_iconst 0 (by decide) C dL_law_668 ?_
      refine z_laload C hA'.2.1.1 (by rw [hA'.2.1.2]; exact vp01) dL_law_669 ?_
      refine z_lng ((congrFun (mrg_in hF.2.2.2.2.1).2.2.2.2.2.1 _).trans (ptI_at o1 S0 z)) ?_
      refine z_iload C rfl dL_law_670 ?_
      refine z_i2l C dL_law_672 ?_
      refine z_lcmp C dL_law_673 ?_
      refine z_if_eq 679 C dL_law_674 (by decide) (fun c6 => ?_) (fun c6 => absurd (lg_self _) c6)
      refine z_goto 3254 C dL_law_679 (by decide) ?_
      exact kk _ _ _ _ _ _ _ _ _ _ _ (by omega) (by omega) hI' ⟨k9, hm⟩ hA'
  · obtain ⟨S2, hp, -⟩ := h2
    exact absurd hp (hno _ _)
set_option maxRecDepth 100000 in
set_option maxHeartbeats 1000000 in
theorem K_tag {X : zX} (hl0 : (xl X).stackTraces = false) {F G : Nat → Bool} {s o1 o2 M : Nat} {r : Nat → Nat} {V : Nat → Int32} {N : Nat} {S : ZM} {D : ZD} {J : Nat → Int64} {lk : ZL} {as L T : Nat → Nat} {k n i : Nat} {q6 q7 q8 : Option ZV} (C : zC X RL cL_law 9 LWl) (Nc : zNc (xs X)) (hR : xR X = room_1) (hF : LF F G s o1 o2 M r) (hI : LI D J lk as (rsOff F S) L T) (hM : iM D J S M r) (hA : LA F s o1 o2 V N S) (hXs : LX X s N V) (hi : i + 3 < N) (hN : N ≤ 2048) (hk : k + 100 ≤ 60000 ∧ n + 1000 ≤ 600000) (kk : LK X F G s o1 o2 M r V N L k n i) : zW X 9 k n S 682 [some (zr (some s)), some (zr (some (L 0))), some (zr (some M)), some (zr (some o1)), some (zr (some o2)), some (zi (nI i)), q6, q7, q8] [] := by
  have hX := fun (Sm : ZM) (h : iM D J Sm M r) => X_tag hl0 hI h (V (i + 1)) (V (i + 2))
  have hx6 := LI.k6 hI
  refine z_aload_n C rfl dL_law_682 ?_
  refine z_aload_n C rfl dL_law_683 ?_
  refine z_iload C rfl dL_law_684 ?_
  refine z_iconst 1 (by decide) C dL_law_686 ?_
  refine z_iadd C dL_law_687 ?_
  refine z_sld C hXs (ld_in1 hi hN) dL_law_688 ?_
  refine z_int (ld_v1 hi hN) ?_
  refine z_aload_n C rfl dL_law_689 ?_
  refine z_iload C rfl dL_law_690 ?_
  refine z_iconst 2 (by decide) C dL_law_692 ?_
  refine z_iadd C dL_law_693 ?_
  refine z_sld C hXs (ld_in2 hi hN) dL_law_694 ?_
  refine z_int (ld_v2 hi hN) ?_
  refine z_aload_n C rfl dL_law_695 ?_
  refine z_callSH 4 [zr (some (L 0)), zi (V (i + 1)), zi (V (i + 2)), zr (some o1)] C Nc (W_tag hl0 (V (i + 1)) (V (i + 2)) hF.1.2.1 hA.2.1.1 hA.2.1.2 hx6 hA.2.2.2 (C_tag hl0 hI.1 (V (i + 1)) (V (i + 2))) (hvO (hX S hM)) (fun E S1 hp => es_2 ((hX S hM).2 E S1 hp))) rfl (zgoodS3 LWl_good (fun w h => h) wq259 wq260 wq207 wq261) rfl rfl rfl (by decide +kernel) rfl (by rw [hR]; exact ⟨Nat.le_of_ble_eq_true rfl, Nat.le_of_ble_eq_true rfl⟩) (rmK hR (by omega) (by omega)) (Nat.le_of_ble_eq_true rfl) dL_law_696 (fun v1 S1 h1 => ?_) (fun E1 S1 h1 => h1.elim)
  obtain ⟨k9, D1, J1, lk1, as1, T1, PM, rfl, hL, hM1, hmc, hPM, hno⟩ := LM.of2 hI hM hA hF (pOk_I o1) hX h1
  refine z_istore [_, _, _, _, _, _, _, _, _] C (by decide) rfl dL_law_699 ?_
  refine z_aload_n C rfl dL_law_701 ?_
  refine z_aload_n C rfl dL_law_702 ?_
  refine z_iload C rfl dL_law_703 ?_
  refine z_iconst 1 (by decide) C dL_law_705 ?_
  refine z_iadd C dL_law_706 ?_
  refine z_sld C hXs (ld_in1 hi hN) dL_law_707 ?_
  refine z_int (ld_v1 hi hN) ?_
  refine z_aload_n C rfl dL_law_708 ?_
  refine z_iload C rfl dL_law_709 ?_
  refine z_iconst 2 (by decide) C dL_law_711 ?_
  refine z_iadd C dL_law_712 ?_
  refine z_sld C hXs (ld_in2 hi hN) dL_law_713 ?_
  refine z_int (ld_v2 hi hN) ?_
  refine z_callM 2 [zi (V (i + 1)), zi (V (i + 2))] C rfl (hmc.off G) rfl (zgoodV3 LWl_good (fun w h => ul_m h) wq262 wq263 wq264 (ul_m wm37) wq265) rfl rfl rfl (by decide +kernel) rfl (by rw [hR]; exact ⟨Nat.le_of_ble_eq_true rfl, Nat.le_of_ble_eq_true rfl⟩) hM1.k (rmK hR (by omega) (by omega)) (Nat.le_of_ble_eq_true rfl) dL_law_714 (fun v2 S2 h2 => ?_) (fun E2 S2 h2 => ?_)
  · obtain ⟨S2, hp, rfl, -⟩ := h2
    obtain ⟨z, rfl, hfl, hq⟩ := hPM _ _ hp
    obtain ⟨D', hm, hI', hA'⟩ := hL.back hF hfl
    refine z_istore [_, _, _, _, _, _, _, _, _] C (by decide) rfl dL_law_717 ?_
    refine z_aload_n C rfl dL_law_719 ?_
    refine z_callM 0 [] C rfl (M_thrown hl0 hm) rfl (zgoodV3 LWl_good (fun w h => ul_m h) wq213 wq214 wq215 (ul_m wm37) wq216) rfl rfl rfl (by decide +kernel) rfl (by rw [hR]; exact ⟨Nat.le_of_ble_eq_true rfl, Nat.le_of_ble_eq_true rfl⟩) hm.1 (rmK hR (by omega) (by omega)) (Nat.le_of_ble_eq_true rfl) dL_law_720 (fun v3 S3 h3 => ?_) (fun E3 S3 h3 => h3.elim)
    obtain ⟨rfl, hS3⟩ := h3
    subst hS3
    refine z_iload C rfl dL_law_723 ?_
    refine z_icmp_eq 730 C dL_law_725 (by decide) (fun c9 => ?_) (fun c9 => absurd (rfl : (s39 D' k9) 39 0 = k9) c9)
    refine z_iload C rfl dL_law_730 ?_
    refine z_if_ne 747 C dL_law_732 (by decide) (fun c8 => ?_) (fun c8 => ?_)
    · refine z_goto 3254 C dL_law_747 (by decide) ?_
      exact kk _ _ _ _ _ _ _ _ _ _ _ (by omega) (by omega) hI' ⟨k9, hm⟩ hA'
    · obtain ⟨S0, hA0, hS1⟩ := hq c8
      subst hS1
      refine z_aload_n C rfl dL_law_735 ?_
      refine z_iconst 0 (by decide) C dL_law_736 ?_
      refine z_laload C hA'.2.1.1 (by rw [hA'.2.1.2]; exact vp01) dL_law_737 ?_
      refine z_lng ((congrFun (mrg_in hF.2.2.2.2.1).2.2.2.2.2.1 _).trans (ptI_at o1 S0 z)) ?_
      refine z_iload C rfl dL_law_738 ?_
      refine z_i2l C dL_law_740 ?_
      refine z_lcmp C dL_law_741 ?_
      refine z_if_eq 747 C dL_law_742 (by decide) (fun c6 => ?_) (fun c6 => absurd (lg_self _) c6)
      refine z_goto 3254 C dL_law_747 (by decide) ?_
      exact kk _ _ _ _ _ _ _ _ _ _ _ (by omega) (by omega) hI' ⟨k9, hm⟩ hA'
  · obtain ⟨S2, hp, -⟩ := h2
    exact absurd hp (hno _ _)
set_option maxRecDepth 100000 in
set_option maxHeartbeats 1000000 in
theorem K_untag {X : zX} (hl0 : (xl X).stackTraces = false) {F G : Nat → Bool} {s o1 o2 M : Nat} {r : Nat → Nat} {V : Nat → Int32} {N : Nat} {S : ZM} {D : ZD} {J : Nat → Int64} {lk : ZL} {as L T : Nat → Nat} {k n i : Nat} {q6 q7 q8 : Option ZV} (C : zC X RL cL_law 9 LWl) (Nc : zNc (xs X)) (hR : xR X = room_1) (hF : LF F G s o1 o2 M r) (hI : LI D J lk as (rsOff F S) L T) (hM : iM D J S M r) (hA : LA F s o1 o2 V N S) (hXs : LX X s N V) (hi : i + 3 < N) (hN : N ≤ 2048) (hk : k + 100 ≤ 60000 ∧ n + 1000 ≤ 600000) (kk : LK X F G s o1 o2 M r V N L k n i) : zW X 9 k n S 750 [some (zr (some s)), some (zr (some (L 0))), some (zr (some M)), some (zr (some o1)), some (zr (some o2)), some (zi (nI i)), q6, q7, q8] [] := by
  have hX := fun (Sm : ZM) (h : iM D J Sm M r) => X_untag hl0 hI h (V (i + 1)) (V (i + 2))
  have hx6 := LI.k6 hI
  refine z_aload_n C rfl dL_law_750 ?_
  refine z_aload_n C rfl dL_law_751 ?_
  refine z_iload C rfl dL_law_752 ?_
  refine z_iconst 1 (by decide) C dL_law_754 ?_
  refine z_iadd C dL_law_755 ?_
  refine z_sld C hXs (ld_in1 hi hN) dL_law_756 ?_
  refine z_int (ld_v1 hi hN) ?_
  refine z_aload_n C rfl dL_law_757 ?_
  refine z_iload C rfl dL_law_758 ?_
  refine z_iconst 2 (by decide) C dL_law_760 ?_
  refine z_iadd C dL_law_761 ?_
  refine z_sld C hXs (ld_in2 hi hN) dL_law_762 ?_
  refine z_int (ld_v2 hi hN) ?_
  refine z_aload_n C rfl dL_law_763 ?_
  refine z_callSH 4 [zr (some (L 0)), zi (V (i + 1)), zi (V (i + 2)), zr (some o1)] C Nc (W_untag hl0 (V (i + 1)) (V (i + 2)) hF.1.2.1 hA.2.1.1 hA.2.1.2 hx6 hA.2.2.2 (C_untag hl0 hI.1 (V (i + 1)) (V (i + 2))) (hvO (hX S hM)) (fun E S1 hp => es_2 ((hX S hM).2 E S1 hp))) rfl (zgoodS3 LWl_good (fun w h => h) wq266 wq267 wq207 wq268) rfl rfl rfl (by decide +kernel) rfl (by rw [hR]; exact ⟨Nat.le_of_ble_eq_true rfl, Nat.le_of_ble_eq_true rfl⟩) (rmK hR (by omega) (by omega)) (Nat.le_of_ble_eq_true rfl) dL_law_764 (fun v1 S1 h1 => ?_) (fun E1 S1 h1 => h1.elim)
  obtain ⟨k9, D1, J1, lk1, as1, T1, PM, rfl, hL, hM1, hmc, hPM, hno⟩ := LM.of2 hI hM hA hF (pOk_I o1) hX h1
  refine z_istore [_, _, _, _, _, _, _, _, _] C (by decide) rfl dL_law_767 ?_
  refine z_aload_n C rfl dL_law_769 ?_
  refine z_aload_n C rfl dL_law_770 ?_
  refine z_iload C rfl dL_law_771 ?_
  refine z_iconst 1 (by decide) C dL_law_773 ?_
  refine z_iadd C dL_law_774 ?_
  refine z_sld C hXs (ld_in1 hi hN) dL_law_775 ?_
  refine z_int (ld_v1 hi hN) ?_
  refine z_aload_n C rfl dL_law_776 ?_
  refine z_iload C rfl dL_law_777 ?_
  refine z_iconst 2 (by decide) C dL_law_779 ?_
  refine z_iadd C dL_law_780 ?_
  refine z_sld C hXs (ld_in2 hi hN) dL_law_781 ?_
  refine z_int (ld_v2 hi hN) ?_
  refine z_callM 2 [zi (V (i + 1)), zi (V (i + 2))] C rfl (hmc.off G) rfl (zgoodV3 LWl_good (fun w h => ul_m h) wq269 wq270 wq271 (ul_m wm37) wq272) rfl rfl rfl (by decide +kernel) rfl (by rw [hR]; exact ⟨Nat.le_of_ble_eq_true rfl, Nat.le_of_ble_eq_true rfl⟩) hM1.k (rmK hR (by omega) (by omega)) (Nat.le_of_ble_eq_true rfl) dL_law_782 (fun v2 S2 h2 => ?_) (fun E2 S2 h2 => ?_)
  · obtain ⟨S2, hp, rfl, -⟩ := h2
    obtain ⟨z, rfl, hfl, hq⟩ := hPM _ _ hp
    obtain ⟨D', hm, hI', hA'⟩ := hL.back hF hfl
    refine z_istore [_, _, _, _, _, _, _, _, _] C (by decide) rfl dL_law_785 ?_
    refine z_aload_n C rfl dL_law_787 ?_
    refine z_callM 0 [] C rfl (M_thrown hl0 hm) rfl (zgoodV3 LWl_good (fun w h => ul_m h) wq213 wq214 wq215 (ul_m wm37) wq216) rfl rfl rfl (by decide +kernel) rfl (by rw [hR]; exact ⟨Nat.le_of_ble_eq_true rfl, Nat.le_of_ble_eq_true rfl⟩) hm.1 (rmK hR (by omega) (by omega)) (Nat.le_of_ble_eq_true rfl) dL_law_788 (fun v3 S3 h3 => ?_) (fun E3 S3 h3 => h3.elim)
    obtain ⟨rfl, hS3⟩ := h3
    subst hS3
    refine z_iload C rfl dL_law_791 ?_
    refine z_icmp_eq 798 C dL_law_793 (by decide) (fun c9 => ?_) (fun c9 => absurd (rfl : (s39 D' k9) 39 0 = k9) c9)
    refine z_iload C rfl dL_law_798 ?_
    refine z_if_ne 815 C dL_law_800 (by decide) (fun c8 => ?_) (fun c8 => ?_)
    · refine z_goto 3254 C dL_law_815 (by decide) ?_
      exact kk _ _ _ _ _ _ _ _ _ _ _ (by omega) (by omega) hI' ⟨k9, hm⟩ hA'
    · obtain ⟨S0, hA0, hS1⟩ := hq c8
      subst hS1
      refine z_aload_n C rfl dL_law_803 ?_
      refine z_iconst 0 (by decide) C dL_law_804 ?_
      refine z_laload C hA'.2.1.1 (by rw [hA'.2.1.2]; exact vp01) dL_law_805 ?_
      refine z_lng ((congrFun (mrg_in hF.2.2.2.2.1).2.2.2.2.2.1 _).trans (ptI_at o1 S0 z)) ?_
      refine z_iload C rfl dL_law_806 ?_
      refine z_i2l C dL_law_808 ?_
      refine z_lcmp C dL_law_809 ?_
      refine z_if_eq 815 C dL_law_810 (by decide) (fun c6 => ?_) (fun c6 => absurd (lg_self _) c6)
      refine z_goto 3254 C dL_law_815 (by decide) ?_
      exact kk _ _ _ _ _ _ _ _ _ _ _ (by omega) (by omega) hI' ⟨k9, hm⟩ hA'
  · obtain ⟨S2, hp, -⟩ := h2
    exact absurd hp (hno _ _)
set_option maxRecDepth 100000 in
set_option maxHeartbeats 1000000 in
theorem K_tidy {X : zX} (hl0 : (xl X).stackTraces = false) {F G : Nat → Bool} {s o1 o2 M : Nat} {r : Nat → Nat} {V : Nat → Int32} {N : Nat} {S : ZM} {D : ZD} {J : Nat → Int64} {lk : ZL} {as L T : Nat → Nat} {k n i : Nat} {q6 q7 q8 : Option ZV} (C : zC X RL cL_law 9 LWl) (Nc : zNc (xs X)) (hR : xR X = room_1) (hF : LF F G s o1 o2 M r) (hI : LI D J lk as (rsOff F S) L T) (hM : iM D J S M r) (hA : LA F s o1 o2 V N S) (hXs : LX X s N V) (hi : i + 3 < N) (hN : N ≤ 2048) (hk : k + 100 ≤ 60000 ∧ n + 1000 ≤ 600000) (kk : LK X F G s o1 o2 M r V N L k n i) : zW X 9 k n S 818 [some (zr (some s)), some (zr (some (L 0))), some (zr (some M)), some (zr (some o1)), some (zr (some o2)), some (zi (nI i)), q6, q7, q8] [] := by
  have hX := fun (Sm : ZM) (h : iM D J Sm M r) => X_tidy hl0 hI h (V (i + 1)) (V (i + 2))
  have hx6 := LI.k6 hI
  refine z_aload_n C rfl dL_law_818 ?_
  refine z_aload_n C rfl dL_law_819 ?_
  refine z_iload C rfl dL_law_820 ?_
  refine z_iconst 1 (by decide) C dL_law_822 ?_
  refine z_iadd C dL_law_823 ?_
  refine z_sld C hXs (ld_in1 hi hN) dL_law_824 ?_
  refine z_int (ld_v1 hi hN) ?_
  refine z_aload_n C rfl dL_law_825 ?_
  refine z_iload C rfl dL_law_826 ?_
  refine z_iconst 2 (by decide) C dL_law_828 ?_
  refine z_iadd C dL_law_829 ?_
  refine z_sld C hXs (ld_in2 hi hN) dL_law_830 ?_
  refine z_int (ld_v2 hi hN) ?_
  refine z_aload_n C rfl dL_law_831 ?_
  refine z_callSH 4 [zr (some (L 0)), zi (V (i + 1)), zi (V (i + 2)), zr (some o1)] C Nc (W_tidy hl0 (V (i + 1)) (V (i + 2)) hF.1.2.1 hA.2.1.1 hA.2.1.2 hx6 hA.2.2.2 (C_tidy hl0 hI.1 (V (i + 1)) (V (i + 2)) (jT_1 hI) (jT_2 hI (V (i + 2)))) (hvO (hX S hM)) (fun E S1 hp => es_3 ((hX S hM).2 E S1 hp))) rfl (zgoodS3 LWl_good (fun w h => h) wq273 wq274 wq207 wq275) rfl rfl rfl (by decide +kernel) rfl (by rw [hR]; exact ⟨Nat.le_of_ble_eq_true rfl, Nat.le_of_ble_eq_true rfl⟩) (rmK hR (by omega) (by omega)) (Nat.le_of_ble_eq_true rfl) dL_law_832 (fun v1 S1 h1 => ?_) (fun E1 S1 h1 => h1.elim)
  obtain ⟨k9, D1, J1, lk1, as1, T1, PM, rfl, hL, hM1, hmc, hPM, hno⟩ := LM.of2 hI hM hA hF (pOk_I o1) hX h1
  refine z_istore [_, _, _, _, _, _, _, _, _] C (by decide) rfl dL_law_835 ?_
  refine z_aload_n C rfl dL_law_837 ?_
  refine z_aload_n C rfl dL_law_838 ?_
  refine z_iload C rfl dL_law_839 ?_
  refine z_iconst 1 (by decide) C dL_law_841 ?_
  refine z_iadd C dL_law_842 ?_
  refine z_sld C hXs (ld_in1 hi hN) dL_law_843 ?_
  refine z_int (ld_v1 hi hN) ?_
  refine z_aload_n C rfl dL_law_844 ?_
  refine z_iload C rfl dL_law_845 ?_
  refine z_iconst 2 (by decide) C dL_law_847 ?_
  refine z_iadd C dL_law_848 ?_
  refine z_sld C hXs (ld_in2 hi hN) dL_law_849 ?_
  refine z_int (ld_v2 hi hN) ?_
  refine z_callM 2 [zi (V (i + 1)), zi (V (i + 2))] C rfl (hmc.off G) rfl (zgoodV3 LWl_good (fun w h => ul_m h) wq276 wq277 wq278 (ul_m wm37) wq279) rfl rfl rfl (by decide +kernel) rfl (by rw [hR]; exact ⟨Nat.le_of_ble_eq_true rfl, Nat.le_of_ble_eq_true rfl⟩) hM1.k (rmK hR (by omega) (by omega)) (Nat.le_of_ble_eq_true rfl) dL_law_850 (fun v2 S2 h2 => ?_) (fun E2 S2 h2 => ?_)
  · obtain ⟨S2, hp, rfl, -⟩ := h2
    obtain ⟨z, rfl, hfl, hq⟩ := hPM _ _ hp
    obtain ⟨D', hm, hI', hA'⟩ := hL.back hF hfl
    refine z_istore [_, _, _, _, _, _, _, _, _] C (by decide) rfl dL_law_853 ?_
    refine z_aload_n C rfl dL_law_855 ?_
    refine z_callM 0 [] C rfl (M_thrown hl0 hm) rfl (zgoodV3 LWl_good (fun w h => ul_m h) wq213 wq214 wq215 (ul_m wm37) wq216) rfl rfl rfl (by decide +kernel) rfl (by rw [hR]; exact ⟨Nat.le_of_ble_eq_true rfl, Nat.le_of_ble_eq_true rfl⟩) hm.1 (rmK hR (by omega) (by omega)) (Nat.le_of_ble_eq_true rfl) dL_law_856 (fun v3 S3 h3 => ?_) (fun E3 S3 h3 => h3.elim)
    obtain ⟨rfl, hS3⟩ := h3
    subst hS3
    refine z_iload C rfl dL_law_859 ?_
    refine z_icmp_eq 866 C dL_law_861 (by decide) (fun c9 => ?_) (fun c9 => absurd (rfl : (s39 D' k9) 39 0 = k9) c9)
    refine z_iload C rfl dL_law_866 ?_
    refine z_if_ne 883 C dL_law_868 (by decide) (fun c8 => ?_) (fun c8 => ?_)
    · refine z_goto 3254 C dL_law_883 (by decide) ?_
      exact kk _ _ _ _ _ _ _ _ _ _ _ (by omega) (by omega) hI' ⟨k9, hm⟩ hA'
    · obtain ⟨S0, hA0, hS1⟩ := hq c8
      subst hS1
      refine z_aload_n C rfl dL_law_871 ?_
      refine z_iconst 0 (by decide) C dL_law_872 ?_
      refine z_laload C hA'.2.1.1 (by rw [hA'.2.1.2]; exact vp01) dL_law_873 ?_
      refine z_lng ((congrFun (mrg_in hF.2.2.2.2.1).2.2.2.2.2.1 _).trans (ptI_at o1 S0 z)) ?_
      refine z_iload C rfl dL_law_874 ?_
      refine z_i2l C dL_law_876 ?_
      refine z_lcmp C dL_law_877 ?_
      refine z_if_eq 883 C dL_law_878 (by decide) (fun c6 => ?_) (fun c6 => absurd (lg_self _) c6)
      refine z_goto 3254 C dL_law_883 (by decide) ?_
      exact kk _ _ _ _ _ _ _ _ _ _ _ (by omega) (by omega) hI' ⟨k9, hm⟩ hA'
  · obtain ⟨S2, hp, -⟩ := h2
    exact absurd hp (hno _ _)
set_option maxRecDepth 100000 in
set_option maxHeartbeats 1000000 in
theorem K_undoTidy {X : zX} (hl0 : (xl X).stackTraces = false) {F G : Nat → Bool} {s o1 o2 M : Nat} {r : Nat → Nat} {V : Nat → Int32} {N : Nat} {S : ZM} {D : ZD} {J : Nat → Int64} {lk : ZL} {as L T : Nat → Nat} {k n i : Nat} {q6 q7 q8 : Option ZV} (C : zC X RL cL_law 9 LWl) (Nc : zNc (xs X)) (hR : xR X = room_1) (hF : LF F G s o1 o2 M r) (hI : LI D J lk as (rsOff F S) L T) (hM : iM D J S M r) (hA : LA F s o1 o2 V N S) (hXs : LX X s N V) (hi : i + 3 < N) (hN : N ≤ 2048) (hk : k + 100 ≤ 60000 ∧ n + 1000 ≤ 600000) (kk : LK X F G s o1 o2 M r V N L k n i) : zW X 9 k n S 886 [some (zr (some s)), some (zr (some (L 0))), some (zr (some M)), some (zr (some o1)), some (zr (some o2)), some (zi (nI i)), q6, q7, q8] [] := by
  have hX := fun (Sm : ZM) (h : iM D J Sm M r) => X_undoTidy hl0 hI h 
  have hx6 := LI.k6 hI
  refine z_aload_n C rfl dL_law_886 ?_
  refine z_aload_n C rfl dL_law_887 ?_
  refine z_callSH 2 [zr (some (L 0)), zr (some o1)] C Nc (W_undoTidy hl0  hF.1.2.1 hA.2.1.1 hA.2.1.2 hx6 hA.2.2.2 (C_undoTidy hl0 hI.1 hI.2.1 ) (hvO (hX S hM)) (fun E S1 hp => es_1 ((hX S hM).2 E S1 hp))) rfl (zgoodS3 LWl_good (fun w h => h) wq280 wq281 wq207 wq282) rfl rfl rfl (by decide +kernel) rfl (by rw [hR]; exact ⟨Nat.le_of_ble_eq_true rfl, Nat.le_of_ble_eq_true rfl⟩) (rmK hR (by omega) (by omega)) (Nat.le_of_ble_eq_true rfl) dL_law_888 (fun v1 S1 h1 => ?_) (fun E1 S1 h1 => h1.elim)
  obtain ⟨k9, D1, J1, lk1, as1, T1, PM, rfl, hL, hM1, hmc, hPM, hno⟩ := LM.of2 hI hM hA hF (pOk_I o1) hX h1
  refine z_istore [_, _, _, _, _, _, _, _, _] C (by decide) rfl dL_law_891 ?_
  refine z_aload_n C rfl dL_law_893 ?_
  refine z_callM 0 [] C rfl (hmc.off G) rfl (zgoodV3 LWl_good (fun w h => ul_m h) wq283 wq284 wq285 (ul_m wm37) wq286) rfl rfl rfl (by decide +kernel) rfl (by rw [hR]; exact ⟨Nat.le_of_ble_eq_true rfl, Nat.le_of_ble_eq_true rfl⟩) hM1.k (rmK hR (by omega) (by omega)) (Nat.le_of_ble_eq_true rfl) dL_law_894 (fun v2 S2 h2 => ?_) (fun E2 S2 h2 => ?_)
  · obtain ⟨S2, hp, rfl, -⟩ := h2
    obtain ⟨z, rfl, hfl, hq⟩ := hPM _ _ hp
    obtain ⟨D', hm, hI', hA'⟩ := hL.back hF hfl
    refine z_istore [_, _, _, _, _, _, _, _, _] C (by decide) rfl dL_law_897 ?_
    refine z_aload_n C rfl dL_law_899 ?_
    refine z_callM 0 [] C rfl (M_thrown hl0 hm) rfl (zgoodV3 LWl_good (fun w h => ul_m h) wq213 wq214 wq215 (ul_m wm37) wq216) rfl rfl rfl (by decide +kernel) rfl (by rw [hR]; exact ⟨Nat.le_of_ble_eq_true rfl, Nat.le_of_ble_eq_true rfl⟩) hm.1 (rmK hR (by omega) (by omega)) (Nat.le_of_ble_eq_true rfl) dL_law_900 (fun v3 S3 h3 => ?_) (fun E3 S3 h3 => h3.elim)
    obtain ⟨rfl, hS3⟩ := h3
    subst hS3
    refine z_iload C rfl dL_law_903 ?_
    refine z_icmp_eq 910 C dL_law_905 (by decide) (fun c9 => ?_) (fun c9 => absurd (rfl : (s39 D' k9) 39 0 = k9) c9)
    refine z_iload C rfl dL_law_910 ?_
    refine z_if_ne 927 C dL_law_912 (by decide) (fun c8 => ?_) (fun c8 => ?_)
    · refine z_goto 3254 C dL_law_927 (by decide) ?_
      exact kk _ _ _ _ _ _ _ _ _ _ _ (by omega) (by omega) hI' ⟨k9, hm⟩ hA'
    · obtain ⟨S0, hA0, hS1⟩ := hq c8
      subst hS1
      refine z_aload_n C rfl dL_law_915 ?_
      refine z_iconst 0 (by decide) C dL_law_916 ?_
      refine z_laload C hA'.2.1.1 (by rw [hA'.2.1.2]; exact vp01) dL_law_917 ?_
      refine z_lng ((congrFun (mrg_in hF.2.2.2.2.1).2.2.2.2.2.1 _).trans (ptI_at o1 S0 z)) ?_
      refine z_iload C rfl dL_law_918 ?_
      refine z_i2l C dL_law_920 ?_
      refine z_lcmp C dL_law_921 ?_
      refine z_if_eq 927 C dL_law_922 (by decide) (fun c6 => ?_) (fun c6 => absurd (lg_self _) c6)
      refine z_goto 3254 C dL_law_927 (by decide) ?_
      exact kk _ _ _ _ _ _ _ _ _ _ _ (by omega) (by omega) hI' ⟨k9, hm⟩ hA'
  · obtain ⟨S2, hp, -⟩ := h2
    exact absurd hp (hno _ _)
set_option maxRecDepth 100000 in
set_option maxHeartbeats 1000000 in
theorem K_hasTag {X : zX} (hl0 : (xl X).stackTraces = false) {F G : Nat → Bool} {s o1 o2 M : Nat} {r : Nat → Nat} {V : Nat → Int32} {N : Nat} {S : ZM} {D : ZD} {J : Nat → Int64} {lk : ZL} {as L T : Nat → Nat} {k n i : Nat} {q6 q7 q8 : Option ZV} (C : zC X RL cL_law 9 LWl) (Nc : zNc (xs X)) (hR : xR X = room_1) (hF : LF F G s o1 o2 M r) (hI : LI D J lk as (rsOff F S) L T) (hM : iM D J S M r) (hA : LA F s o1 o2 V N S) (hXs : LX X s N V) (hi : i + 3 < N) (hN : N ≤ 2048) (hk : k + 100 ≤ 60000 ∧ n + 1000 ≤ 600000) (kk : LK X F G s o1 o2 M r V N L k n i) : zW X 9 k n S 930 [some (zr (some s)), some (zr (some (L 0))), some (zr (some M)), some (zr (some o1)), some (zr (some o2)), some (zi (nI i)), q6, q7, q8] [] := by
  have hX := fun (Sm : ZM) (h : iM D J Sm M r) => X_hasTag hl0 hI h (V (i + 1))
  have hx6 := LI.k6 hI
  refine z_aload_n C rfl dL_law_930 ?_
  refine z_aload_n C rfl dL_law_931 ?_
  refine z_iload C rfl dL_law_932 ?_
  refine z_iconst 1 (by decide) C dL_law_934 ?_
  refine z_iadd C dL_law_935 ?_
  refine z_sld C hXs (ld_in1 hi hN) dL_law_936 ?_
  refine z_int (ld_v1 hi hN) ?_
  refine z_aload_n C rfl dL_law_937 ?_
  refine z_callSH 3 [zr (some (L 0)), zi (V (i + 1)), zr (some o1)] C Nc (W_hasTag hl0 (V (i + 1)) hF.1.2.1 hA.2.1.1 hA.2.1.2 hx6 hA.2.2.2 (C_hasTag hl0 hI.1 (V (i + 1))) (hvO (hX S hM)) (fun E S1 hp => es_2 ((hX S hM).2 E S1 hp))) rfl (zgoodS3 LWl_good (fun w h => h) wq287 wq288 wq207 wq289) rfl rfl rfl (by decide +kernel) rfl (by rw [hR]; exact ⟨Nat.le_of_ble_eq_true rfl, Nat.le_of_ble_eq_true rfl⟩) (rmK hR (by omega) (by omega)) (Nat.le_of_ble_eq_true rfl) dL_law_938 (fun v1 S1 h1 => ?_) (fun E1 S1 h1 => h1.elim)
  obtain ⟨k9, D1, J1, lk1, as1, T1, PM, rfl, hL, hM1, hmc, hPM, hno⟩ := LM.of2 hI hM hA hF (pOk_I o1) hX h1
  refine z_istore [_, _, _, _, _, _, _, _, _] C (by decide) rfl dL_law_941 ?_
  refine z_aload_n C rfl dL_law_943 ?_
  refine z_aload_n C rfl dL_law_944 ?_
  refine z_iload C rfl dL_law_945 ?_
  refine z_iconst 1 (by decide) C dL_law_947 ?_
  refine z_iadd C dL_law_948 ?_
  refine z_sld C hXs (ld_in1 hi hN) dL_law_949 ?_
  refine z_int (ld_v1 hi hN) ?_
  refine z_callM 1 [zi (V (i + 1))] C rfl (hmc.off G) rfl (zgoodV3 LWl_good (fun w h => ul_m h) wq290 wq291 wq292 (ul_m wm37) wq293) rfl rfl rfl (by decide +kernel) rfl (by rw [hR]; exact ⟨Nat.le_of_ble_eq_true rfl, Nat.le_of_ble_eq_true rfl⟩) hM1.k (rmK hR (by omega) (by omega)) (Nat.le_of_ble_eq_true rfl) dL_law_950 (fun v2 S2 h2 => ?_) (fun E2 S2 h2 => ?_)
  · obtain ⟨S2, hp, rfl, -⟩ := h2
    obtain ⟨z, rfl, hfl, hq⟩ := hPM _ _ hp
    obtain ⟨D', hm, hI', hA'⟩ := hL.back hF hfl
    refine z_istore [_, _, _, _, _, _, _, _, _] C (by decide) rfl dL_law_953 ?_
    refine z_aload_n C rfl dL_law_955 ?_
    refine z_callM 0 [] C rfl (M_thrown hl0 hm) rfl (zgoodV3 LWl_good (fun w h => ul_m h) wq213 wq214 wq215 (ul_m wm37) wq216) rfl rfl rfl (by decide +kernel) rfl (by rw [hR]; exact ⟨Nat.le_of_ble_eq_true rfl, Nat.le_of_ble_eq_true rfl⟩) hm.1 (rmK hR (by omega) (by omega)) (Nat.le_of_ble_eq_true rfl) dL_law_956 (fun v3 S3 h3 => ?_) (fun E3 S3 h3 => h3.elim)
    obtain ⟨rfl, hS3⟩ := h3
    subst hS3
    refine z_iload C rfl dL_law_959 ?_
    refine z_icmp_eq 966 C dL_law_961 (by decide) (fun c9 => ?_) (fun c9 => absurd (rfl : (s39 D' k9) 39 0 = k9) c9)
    refine z_iload C rfl dL_law_966 ?_
    refine z_if_ne 983 C dL_law_968 (by decide) (fun c8 => ?_) (fun c8 => ?_)
    · refine z_goto 3254 C dL_law_983 (by decide) ?_
      exact kk _ _ _ _ _ _ _ _ _ _ _ (by omega) (by omega) hI' ⟨k9, hm⟩ hA'
    · obtain ⟨S0, hA0, hS1⟩ := hq c8
      subst hS1
      refine z_aload_n C rfl dL_law_971 ?_
      refine z_iconst 0 (by decide) C dL_law_972 ?_
      refine z_laload C hA'.2.1.1 (by rw [hA'.2.1.2]; exact vp01) dL_law_973 ?_
      refine z_lng ((congrFun (mrg_in hF.2.2.2.2.1).2.2.2.2.2.1 _).trans (ptI_at o1 S0 z)) ?_
      refine z_iload C rfl dL_law_974 ?_
      refine z_i2l C dL_law_976 ?_
      refine z_lcmp C dL_law_977 ?_
      refine z_if_eq 983 C dL_law_978 (by decide) (fun c6 => ?_) (fun c6 => absurd (lg_self _) c6)
      refine z_goto 3254 C dL_law_983 (by decide) ?_
      exact kk _ _ _ _ _ _ _ _ _ _ _ (by omega) (by omega) hI' ⟨k9, hm⟩ hA'
  · obtain ⟨S2, hp, -⟩ := h2
    exact absurd hp (hno _ _)
set_option maxRecDepth 100000 in
set_option maxHeartbeats 1000000 in
theorem K_rated {X : zX} (hl0 : (xl X).stackTraces = false) {F G : Nat → Bool} {s o1 o2 M : Nat} {r : Nat → Nat} {V : Nat → Int32} {N : Nat} {S : ZM} {D : ZD} {J : Nat → Int64} {lk : ZL} {as L T : Nat → Nat} {k n i : Nat} {q6 q7 q8 : Option ZV} (C : zC X RL cL_law 9 LWl) (Nc : zNc (xs X)) (hR : xR X = room_1) (hF : LF F G s o1 o2 M r) (hI : LI D J lk as (rsOff F S) L T) (hM : iM D J S M r) (hA : LA F s o1 o2 V N S) (hXs : LX X s N V) (hi : i + 3 < N) (hN : N ≤ 2048) (hk : k + 100 ≤ 60000 ∧ n + 1000 ≤ 600000) (kk : LK X F G s o1 o2 M r V N L k n i) : zW X 9 k n S 986 [some (zr (some s)), some (zr (some (L 0))), some (zr (some M)), some (zr (some o1)), some (zr (some o2)), some (zi (nI i)), q6, q7, q8] [] := by
  have hX := fun (Sm : ZM) (h : iM D J Sm M r) => X_rated hl0 hI h (V (i + 1))
  have hx6 := LI.k6 hI
  refine z_aload_n C rfl dL_law_986 ?_
  refine z_aload_n C rfl dL_law_987 ?_
  refine z_iload C rfl dL_law_988 ?_
  refine z_iconst 1 (by decide) C dL_law_990 ?_
  refine z_iadd C dL_law_991 ?_
  refine z_sld C hXs (ld_in1 hi hN) dL_law_992 ?_
  refine z_int (ld_v1 hi hN) ?_
  refine z_aload_n C rfl dL_law_993 ?_
  refine z_callSH 3 [zr (some (L 0)), zi (V (i + 1)), zr (some o1)] C Nc (W_rated hl0 (V (i + 1)) hF.1.2.1 hA.2.1.1 hA.2.1.2 hx6 hA.2.2.2 (C_rated hl0 hI.1 (V (i + 1))) (hvO (hX S hM)) (fun E S1 hp => es_2 ((hX S hM).2 E S1 hp))) rfl (zgoodS3 LWl_good (fun w h => h) wq294 wq295 wq207 wq296) rfl rfl rfl (by decide +kernel) rfl (by rw [hR]; exact ⟨Nat.le_of_ble_eq_true rfl, Nat.le_of_ble_eq_true rfl⟩) (rmK hR (by omega) (by omega)) (Nat.le_of_ble_eq_true rfl) dL_law_994 (fun v1 S1 h1 => ?_) (fun E1 S1 h1 => h1.elim)
  obtain ⟨k9, D1, J1, lk1, as1, T1, PM, rfl, hL, hM1, hmc, hPM, hno⟩ := LM.of2 hI hM hA hF (pOk_I o1) hX h1
  refine z_istore [_, _, _, _, _, _, _, _, _] C (by decide) rfl dL_law_997 ?_
  refine z_aload_n C rfl dL_law_999 ?_
  refine z_aload_n C rfl dL_law_1000 ?_
  refine z_iload C rfl dL_law_1001 ?_
  refine z_iconst 1 (by decide) C dL_law_1003 ?_
  refine z_iadd C dL_law_1004 ?_
  refine z_sld C hXs (ld_in1 hi hN) dL_law_1005 ?_
  refine z_int (ld_v1 hi hN) ?_
  refine z_callM 1 [zi (V (i + 1))] C rfl (hmc.off G) rfl (zgoodV3 LWl_good (fun w h => ul_m h) wq297 wq298 wq299 (ul_m wm37) wq300) rfl rfl rfl (by decide +kernel) rfl (by rw [hR]; exact ⟨Nat.le_of_ble_eq_true rfl, Nat.le_of_ble_eq_true rfl⟩) hM1.k (rmK hR (by omega) (by omega)) (Nat.le_of_ble_eq_true rfl) dL_law_1006 (fun v2 S2 h2 => ?_) (fun E2 S2 h2 => ?_)
  · obtain ⟨S2, hp, rfl, -⟩ := h2
    obtain ⟨z, rfl, hfl, hq⟩ := hPM _ _ hp
    obtain ⟨D', hm, hI', hA'⟩ := hL.back hF hfl
    refine z_istore [_, _, _, _, _, _, _, _, _] C (by decide) rfl dL_law_1009 ?_
    refine z_aload_n C rfl dL_law_1011 ?_
    refine z_callM 0 [] C rfl (M_thrown hl0 hm) rfl (zgoodV3 LWl_good (fun w h => ul_m h) wq213 wq214 wq215 (ul_m wm37) wq216) rfl rfl rfl (by decide +kernel) rfl (by rw [hR]; exact ⟨Nat.le_of_ble_eq_true rfl, Nat.le_of_ble_eq_true rfl⟩) hm.1 (rmK hR (by omega) (by omega)) (Nat.le_of_ble_eq_true rfl) dL_law_1012 (fun v3 S3 h3 => ?_) (fun E3 S3 h3 => h3.elim)
    obtain ⟨rfl, hS3⟩ := h3
    subst hS3
    refine z_iload C rfl dL_law_1015 ?_
    refine z_icmp_eq 1022 C dL_law_1017 (by decide) (fun c9 => ?_) (fun c9 => absurd (rfl : (s39 D' k9) 39 0 = k9) c9)
    refine z_iload C rfl dL_law_1022 ?_
    refine z_if_ne 1039 C dL_law_1024 (by decide) (fun c8 => ?_) (fun c8 => ?_)
    · refine z_goto 3254 C dL_law_1039 (by decide) ?_
      exact kk _ _ _ _ _ _ _ _ _ _ _ (by omega) (by omega) hI' ⟨k9, hm⟩ hA'
    · obtain ⟨S0, hA0, hS1⟩ := hq c8
      subst hS1
      refine z_aload_n C rfl dL_law_1027 ?_
      refine z_iconst 0 (by decide) C dL_law_1028 ?_
      refine z_laload C hA'.2.1.1 (by rw [hA'.2.1.2]; exact vp01) dL_law_1029 ?_
      refine z_lng ((congrFun (mrg_in hF.2.2.2.2.1).2.2.2.2.2.1 _).trans (ptI_at o1 S0 z)) ?_
      refine z_iload C rfl dL_law_1030 ?_
      refine z_i2l C dL_law_1032 ?_
      refine z_lcmp C dL_law_1033 ?_
      refine z_if_eq 1039 C dL_law_1034 (by decide) (fun c6 => ?_) (fun c6 => absurd (lg_self _) c6)
      refine z_goto 3254 C dL_law_1039 (by decide) ?_
      exact kk _ _ _ _ _ _ _ _ _ _ _ (by omega) (by omega) hI' ⟨k9, hm⟩ hA'
  · obtain ⟨S2, hp, -⟩ := h2
    exact absurd hp (hno _ _)
set_option maxRecDepth 100000 in
set_option maxHeartbeats 1000000 in
theorem K_playedAtMost {X : zX} (hl0 : (xl X).stackTraces = false) {F G : Nat → Bool} {s o1 o2 M : Nat} {r : Nat → Nat} {V : Nat → Int32} {N : Nat} {S : ZM} {D : ZD} {J : Nat → Int64} {lk : ZL} {as L T : Nat → Nat} {k n i : Nat} {q6 q7 q8 : Option ZV} (C : zC X RL cL_law 9 LWl) (Nc : zNc (xs X)) (hR : xR X = room_1) (hF : LF F G s o1 o2 M r) (hI : LI D J lk as (rsOff F S) L T) (hM : iM D J S M r) (hA : LA F s o1 o2 V N S) (hXs : LX X s N V) (hi : i + 3 < N) (hN : N ≤ 2048) (hk : k + 100 ≤ 60000 ∧ n + 1000 ≤ 600000) (kk : LK X F G s o1 o2 M r V N L k n i) : zW X 9 k n S 1042 [some (zr (some s)), some (zr (some (L 0))), some (zr (some M)), some (zr (some o1)), some (zr (some o2)), some (zi (nI i)), q6, q7, q8] [] := by
  have hX := fun (Sm : ZM) (h : iM D J Sm M r) => X_playedAtMost hl0 hI h (V (i + 1))
  have hx6 := LI.k6 hI
  refine z_aload_n C rfl dL_law_1042 ?_
  refine z_aload_n C rfl dL_law_1043 ?_
  refine z_iload C rfl dL_law_1044 ?_
  refine z_iconst 1 (by decide) C dL_law_1046 ?_
  refine z_iadd C dL_law_1047 ?_
  refine z_sld C hXs (ld_in1 hi hN) dL_law_1048 ?_
  refine z_int (ld_v1 hi hN) ?_
  refine z_aload_n C rfl dL_law_1049 ?_
  refine z_callSH 3 [zr (some (L 0)), zi (V (i + 1)), zr (some o1)] C Nc (W_playedAtMost hl0 (V (i + 1)) hF.1.2.1 hA.2.1.1 hA.2.1.2 hx6 hA.2.2.2 (C_playedAtMost hl0 hI.1 (V (i + 1))) (hvO (hX S hM)) (fun E S1 hp => es_2 ((hX S hM).2 E S1 hp))) rfl (zgoodS3 LWl_good (fun w h => h) wq301 wq302 wq207 wq303) rfl rfl rfl (by decide +kernel) rfl (by rw [hR]; exact ⟨Nat.le_of_ble_eq_true rfl, Nat.le_of_ble_eq_true rfl⟩) (rmK hR (by omega) (by omega)) (Nat.le_of_ble_eq_true rfl) dL_law_1050 (fun v1 S1 h1 => ?_) (fun E1 S1 h1 => h1.elim)
  obtain ⟨k9, D1, J1, lk1, as1, T1, PM, rfl, hL, hM1, hmc, hPM, hno⟩ := LM.of2 hI hM hA hF (pOk_I o1) hX h1
  refine z_istore [_, _, _, _, _, _, _, _, _] C (by decide) rfl dL_law_1053 ?_
  refine z_aload_n C rfl dL_law_1055 ?_
  refine z_aload_n C rfl dL_law_1056 ?_
  refine z_iload C rfl dL_law_1057 ?_
  refine z_iconst 1 (by decide) C dL_law_1059 ?_
  refine z_iadd C dL_law_1060 ?_
  refine z_sld C hXs (ld_in1 hi hN) dL_law_1061 ?_
  refine z_int (ld_v1 hi hN) ?_
  refine z_callM 1 [zi (V (i + 1))] C rfl (hmc.off G) rfl (zgoodV3 LWl_good (fun w h => ul_m h) wq304 wq305 wq306 (ul_m wm37) wq307) rfl rfl rfl (by decide +kernel) rfl (by rw [hR]; exact ⟨Nat.le_of_ble_eq_true rfl, Nat.le_of_ble_eq_true rfl⟩) hM1.k (rmK hR (by omega) (by omega)) (Nat.le_of_ble_eq_true rfl) dL_law_1062 (fun v2 S2 h2 => ?_) (fun E2 S2 h2 => ?_)
  · obtain ⟨S2, hp, rfl, -⟩ := h2
    obtain ⟨z, rfl, hfl, hq⟩ := hPM _ _ hp
    obtain ⟨D', hm, hI', hA'⟩ := hL.back hF hfl
    refine z_istore [_, _, _, _, _, _, _, _, _] C (by decide) rfl dL_law_1065 ?_
    refine z_aload_n C rfl dL_law_1067 ?_
    refine z_callM 0 [] C rfl (M_thrown hl0 hm) rfl (zgoodV3 LWl_good (fun w h => ul_m h) wq213 wq214 wq215 (ul_m wm37) wq216) rfl rfl rfl (by decide +kernel) rfl (by rw [hR]; exact ⟨Nat.le_of_ble_eq_true rfl, Nat.le_of_ble_eq_true rfl⟩) hm.1 (rmK hR (by omega) (by omega)) (Nat.le_of_ble_eq_true rfl) dL_law_1068 (fun v3 S3 h3 => ?_) (fun E3 S3 h3 => h3.elim)
    obtain ⟨rfl, hS3⟩ := h3
    subst hS3
    refine z_iload C rfl dL_law_1071 ?_
    refine z_icmp_eq 1078 C dL_law_1073 (by decide) (fun c9 => ?_) (fun c9 => absurd (rfl : (s39 D' k9) 39 0 = k9) c9)
    refine z_iload C rfl dL_law_1078 ?_
    refine z_if_ne 1095 C dL_law_1080 (by decide) (fun c8 => ?_) (fun c8 => ?_)
    · refine z_goto 3254 C dL_law_1095 (by decide) ?_
      exact kk _ _ _ _ _ _ _ _ _ _ _ (by omega) (by omega) hI' ⟨k9, hm⟩ hA'
    · obtain ⟨S0, hA0, hS1⟩ := hq c8
      subst hS1
      refine z_aload_n C rfl dL_law_1083 ?_
      refine z_iconst 0 (by decide) C dL_law_1084 ?_
      refine z_laload C hA'.2.1.1 (by rw [hA'.2.1.2]; exact vp01) dL_law_1085 ?_
      refine z_lng ((congrFun (mrg_in hF.2.2.2.2.1).2.2.2.2.2.1 _).trans (ptI_at o1 S0 z)) ?_
      refine z_iload C rfl dL_law_1086 ?_
      refine z_i2l C dL_law_1088 ?_
      refine z_lcmp C dL_law_1089 ?_
      refine z_if_eq 1095 C dL_law_1090 (by decide) (fun c6 => ?_) (fun c6 => absurd (lg_self _) c6)
      refine z_goto 3254 C dL_law_1095 (by decide) ?_
      exact kk _ _ _ _ _ _ _ _ _ _ _ (by omega) (by omega) hI' ⟨k9, hm⟩ hA'
  · obtain ⟨S2, hp, -⟩ := h2
    exact absurd hp (hno _ _)
set_option maxRecDepth 100000 in
set_option maxHeartbeats 1000000 in
theorem K_asLongAs {X : zX} (hl0 : (xl X).stackTraces = false) {F G : Nat → Bool} {s o1 o2 M : Nat} {r : Nat → Nat} {V : Nat → Int32} {N : Nat} {S : ZM} {D : ZD} {J : Nat → Int64} {lk : ZL} {as L T : Nat → Nat} {k n i : Nat} {q6 q7 q8 : Option ZV} (C : zC X RL cL_law 9 LWl) (Nc : zNc (xs X)) (hR : xR X = room_1) (hF : LF F G s o1 o2 M r) (hI : LI D J lk as (rsOff F S) L T) (hM : iM D J S M r) (hA : LA F s o1 o2 V N S) (hXs : LX X s N V) (hi : i + 3 < N) (hN : N ≤ 2048) (hk : k + 100 ≤ 60000 ∧ n + 1000 ≤ 600000) (kk : LK X F G s o1 o2 M r V N L k n i) : zW X 9 k n S 1098 [some (zr (some s)), some (zr (some (L 0))), some (zr (some M)), some (zr (some o1)), some (zr (some o2)), some (zi (nI i)), q6, q7, q8] [] := by
  have hX := fun (Sm : ZM) (h : iM D J Sm M r) => X_asLongAs hl0 hI h (V (i + 1))
  have hx6 := LI.k6 hI
  refine z_aload_n C rfl dL_law_1098 ?_
  refine z_aload_n C rfl dL_law_1099 ?_
  refine z_iload C rfl dL_law_1100 ?_
  refine z_iconst 1 (by decide) C dL_law_1102 ?_
  refine z_iadd C dL_law_1103 ?_
  refine z_sld C hXs (ld_in1 hi hN) dL_law_1104 ?_
  refine z_int (ld_v1 hi hN) ?_
  refine z_aload_n C rfl dL_law_1105 ?_
  refine z_callSH 3 [zr (some (L 0)), zi (V (i + 1)), zr (some o1)] C Nc (W_asLongAs hl0 (V (i + 1)) hF.1.2.1 hA.2.1.1 hA.2.1.2 hx6 hA.2.2.2 (C_asLongAs hl0 hI.1 (V (i + 1))) (hvO (hX S hM)) (fun E S1 hp => es_2 ((hX S hM).2 E S1 hp))) rfl (zgoodS3 LWl_good (fun w h => h) wq308 wq309 wq207 wq310) rfl rfl rfl (by decide +kernel) rfl (by rw [hR]; exact ⟨Nat.le_of_ble_eq_true rfl, Nat.le_of_ble_eq_true rfl⟩) (rmK hR (by omega) (by omega)) (Nat.le_of_ble_eq_true rfl) dL_law_1106 (fun v1 S1 h1 => ?_) (fun E1 S1 h1 => h1.elim)
  obtain ⟨k9, D1, J1, lk1, as1, T1, PM, rfl, hL, hM1, hmc, hPM, hno⟩ := LM.of2 hI hM hA hF (pOk_I o1) hX h1
  refine z_istore [_, _, _, _, _, _, _, _, _] C (by decide) rfl dL_law_1109 ?_
  refine z_aload_n C rfl dL_law_1111 ?_
  refine z_aload_n C rfl dL_law_1112 ?_
  refine z_iload C rfl dL_law_1113 ?_
  refine z_iconst 1 (by decide) C dL_law_1115 ?_
  refine z_iadd C dL_law_1116 ?_
  refine z_sld C hXs (ld_in1 hi hN) dL_law_1117 ?_
  refine z_int (ld_v1 hi hN) ?_
  refine z_callM 1 [zi (V (i + 1))] C rfl (hmc.off G) rfl (zgoodV3 LWl_good (fun w h => ul_m h) wq311 wq312 wq313 (ul_m wm37) wq314) rfl rfl rfl (by decide +kernel) rfl (by rw [hR]; exact ⟨Nat.le_of_ble_eq_true rfl, Nat.le_of_ble_eq_true rfl⟩) hM1.k (rmK hR (by omega) (by omega)) (Nat.le_of_ble_eq_true rfl) dL_law_1118 (fun v2 S2 h2 => ?_) (fun E2 S2 h2 => ?_)
  · obtain ⟨S2, hp, rfl, -⟩ := h2
    obtain ⟨z, rfl, hfl, hq⟩ := hPM _ _ hp
    obtain ⟨D', hm, hI', hA'⟩ := hL.back hF hfl
    refine z_istore [_, _, _, _, _, _, _, _, _] C (by decide) rfl dL_law_1121 ?_
    refine z_aload_n C rfl dL_law_1123 ?_
    refine z_callM 0 [] C rfl (M_thrown hl0 hm) rfl (zgoodV3 LWl_good (fun w h => ul_m h) wq213 wq214 wq215 (ul_m wm37) wq216) rfl rfl rfl (by decide +kernel) rfl (by rw [hR]; exact ⟨Nat.le_of_ble_eq_true rfl, Nat.le_of_ble_eq_true rfl⟩) hm.1 (rmK hR (by omega) (by omega)) (Nat.le_of_ble_eq_true rfl) dL_law_1124 (fun v3 S3 h3 => ?_) (fun E3 S3 h3 => h3.elim)
    obtain ⟨rfl, hS3⟩ := h3
    subst hS3
    refine z_iload C rfl dL_law_1127 ?_
    refine z_icmp_eq 1134 C dL_law_1129 (by decide) (fun c9 => ?_) (fun c9 => absurd (rfl : (s39 D' k9) 39 0 = k9) c9)
    refine z_iload C rfl dL_law_1134 ?_
    refine z_if_ne 1151 C dL_law_1136 (by decide) (fun c8 => ?_) (fun c8 => ?_)
    · refine z_goto 3254 C dL_law_1151 (by decide) ?_
      exact kk _ _ _ _ _ _ _ _ _ _ _ (by omega) (by omega) hI' ⟨k9, hm⟩ hA'
    · obtain ⟨S0, hA0, hS1⟩ := hq c8
      subst hS1
      refine z_aload_n C rfl dL_law_1139 ?_
      refine z_iconst 0 (by decide) C dL_law_1140 ?_
      refine z_laload C hA'.2.1.1 (by rw [hA'.2.1.2]; exact vp01) dL_law_1141 ?_
      refine z_lng ((congrFun (mrg_in hF.2.2.2.2.1).2.2.2.2.2.1 _).trans (ptI_at o1 S0 z)) ?_
      refine z_iload C rfl dL_law_1142 ?_
      refine z_i2l C dL_law_1144 ?_
      refine z_lcmp C dL_law_1145 ?_
      refine z_if_eq 1151 C dL_law_1146 (by decide) (fun c6 => ?_) (fun c6 => absurd (lg_self _) c6)
      refine z_goto 3254 C dL_law_1151 (by decide) ?_
      exact kk _ _ _ _ _ _ _ _ _ _ _ (by omega) (by omega) hI' ⟨k9, hm⟩ hA'
  · obtain ⟨S2, hp, -⟩ := h2
    exact absurd hp (hno _ _)
set_option maxRecDepth 100000 in
set_option maxHeartbeats 1000000 in
theorem K_playedWithin {X : zX} (hl0 : (xl X).stackTraces = false) {F G : Nat → Bool} {s o1 o2 M : Nat} {r : Nat → Nat} {V : Nat → Int32} {N : Nat} {S : ZM} {D : ZD} {J : Nat → Int64} {lk : ZL} {as L T : Nat → Nat} {k n i : Nat} {q6 q7 q8 : Option ZV} (C : zC X RL cL_law 9 LWl) (Nc : zNc (xs X)) (hR : xR X = room_1) (hF : LF F G s o1 o2 M r) (hI : LI D J lk as (rsOff F S) L T) (hM : iM D J S M r) (hA : LA F s o1 o2 V N S) (hXs : LX X s N V) (hi : i + 3 < N) (hN : N ≤ 2048) (hk : k + 100 ≤ 60000 ∧ n + 1000 ≤ 600000) (kk : LK X F G s o1 o2 M r V N L k n i) : zW X 9 k n S 1154 [some (zr (some s)), some (zr (some (L 0))), some (zr (some M)), some (zr (some o1)), some (zr (some o2)), some (zi (nI i)), q6, q7, q8] [] := by
  have hX := fun (Sm : ZM) (h : iM D J Sm M r) => X_playedWithin hl0 hI h (V (i + 1))
  have hx6 := LI.k6 hI
  refine z_aload_n C rfl dL_law_1154 ?_
  refine z_aload_n C rfl dL_law_1155 ?_
  refine z_iload C rfl dL_law_1156 ?_
  refine z_iconst 1 (by decide) C dL_law_1158 ?_
  refine z_iadd C dL_law_1159 ?_
  refine z_sld C hXs (ld_in1 hi hN) dL_law_1160 ?_
  refine z_int (ld_v1 hi hN) ?_
  refine z_aload_n C rfl dL_law_1161 ?_
  refine z_callSH 3 [zr (some (L 0)), zi (V (i + 1)), zr (some o1)] C Nc (W_playedWithin hl0 (V (i + 1)) hF.1.2.1 hA.2.1.1 hA.2.1.2 hx6 hA.2.2.2 (C_playedWithin hl0 hI.1 (V (i + 1))) (hvO (hX S hM)) (fun E S1 hp => es_2 ((hX S hM).2 E S1 hp))) rfl (zgoodS3 LWl_good (fun w h => h) wq315 wq316 wq207 wq317) rfl rfl rfl (by decide +kernel) rfl (by rw [hR]; exact ⟨Nat.le_of_ble_eq_true rfl, Nat.le_of_ble_eq_true rfl⟩) (rmK hR (by omega) (by omega)) (Nat.le_of_ble_eq_true rfl) dL_law_1162 (fun v1 S1 h1 => ?_) (fun E1 S1 h1 => h1.elim)
  obtain ⟨k9, D1, J1, lk1, as1, T1, PM, rfl, hL, hM1, hmc, hPM, hno⟩ := LM.of2 hI hM hA hF (pOk_I o1) hX h1
  refine z_istore [_, _, _, _, _, _, _, _, _] C (by decide) rfl dL_law_1165 ?_
  refine z_aload_n C rfl dL_law_1167 ?_
  refine z_aload_n C rfl dL_law_1168 ?_
  refine z_iload C rfl dL_law_1169 ?_
  refine z_iconst 1 (by decide) C dL_law_1171 ?_
  refine z_iadd C dL_law_1172 ?_
  refine z_sld C hXs (ld_in1 hi hN) dL_law_1173 ?_
  refine z_int (ld_v1 hi hN) ?_
  refine z_callM 1 [zi (V (i + 1))] C rfl (hmc.off G) rfl (zgoodV3 LWl_good (fun w h => ul_m h) wq318 wq319 wq320 (ul_m wm37) wq321) rfl rfl rfl (by decide +kernel) rfl (by rw [hR]; exact ⟨Nat.le_of_ble_eq_true rfl, Nat.le_of_ble_eq_true rfl⟩) hM1.k (rmK hR (by omega) (by omega)) (Nat.le_of_ble_eq_true rfl) dL_law_1174 (fun v2 S2 h2 => ?_) (fun E2 S2 h2 => ?_)
  · obtain ⟨S2, hp, rfl, -⟩ := h2
    obtain ⟨z, rfl, hfl, hq⟩ := hPM _ _ hp
    obtain ⟨D', hm, hI', hA'⟩ := hL.back hF hfl
    refine z_istore [_, _, _, _, _, _, _, _, _] C (by decide) rfl dL_law_1177 ?_
    refine z_aload_n C rfl dL_law_1179 ?_
    refine z_callM 0 [] C rfl (M_thrown hl0 hm) rfl (zgoodV3 LWl_good (fun w h => ul_m h) wq213 wq214 wq215 (ul_m wm37) wq216) rfl rfl rfl (by decide +kernel) rfl (by rw [hR]; exact ⟨Nat.le_of_ble_eq_true rfl, Nat.le_of_ble_eq_true rfl⟩) hm.1 (rmK hR (by omega) (by omega)) (Nat.le_of_ble_eq_true rfl) dL_law_1180 (fun v3 S3 h3 => ?_) (fun E3 S3 h3 => h3.elim)
    obtain ⟨rfl, hS3⟩ := h3
    subst hS3
    refine z_iload C rfl dL_law_1183 ?_
    refine z_icmp_eq 1190 C dL_law_1185 (by decide) (fun c9 => ?_) (fun c9 => absurd (rfl : (s39 D' k9) 39 0 = k9) c9)
    refine z_iload C rfl dL_law_1190 ?_
    refine z_if_ne 1207 C dL_law_1192 (by decide) (fun c8 => ?_) (fun c8 => ?_)
    · refine z_goto 3254 C dL_law_1207 (by decide) ?_
      exact kk _ _ _ _ _ _ _ _ _ _ _ (by omega) (by omega) hI' ⟨k9, hm⟩ hA'
    · obtain ⟨S0, hA0, hS1⟩ := hq c8
      subst hS1
      refine z_aload_n C rfl dL_law_1195 ?_
      refine z_iconst 0 (by decide) C dL_law_1196 ?_
      refine z_laload C hA'.2.1.1 (by rw [hA'.2.1.2]; exact vp01) dL_law_1197 ?_
      refine z_lng ((congrFun (mrg_in hF.2.2.2.2.1).2.2.2.2.2.1 _).trans (ptI_at o1 S0 z)) ?_
      refine z_iload C rfl dL_law_1198 ?_
      refine z_i2l C dL_law_1200 ?_
      refine z_lcmp C dL_law_1201 ?_
      refine z_if_eq 1207 C dL_law_1202 (by decide) (fun c6 => ?_) (fun c6 => absurd (lg_self _) c6)
      refine z_goto 3254 C dL_law_1207 (by decide) ?_
      exact kk _ _ _ _ _ _ _ _ _ _ _ (by omega) (by omega) hI' ⟨k9, hm⟩ hA'
  · obtain ⟨S2, hp, -⟩ := h2
    exact absurd hp (hno _ _)
set_option maxRecDepth 100000 in
set_option maxHeartbeats 1000000 in
theorem K_inList {X : zX} (hl0 : (xl X).stackTraces = false) {F G : Nat → Bool} {s o1 o2 M : Nat} {r : Nat → Nat} {V : Nat → Int32} {N : Nat} {S : ZM} {D : ZD} {J : Nat → Int64} {lk : ZL} {as L T : Nat → Nat} {k n i : Nat} {q6 q7 q8 : Option ZV} (C : zC X RL cL_law 9 LWl) (Nc : zNc (xs X)) (hR : xR X = room_1) (hF : LF F G s o1 o2 M r) (hI : LI D J lk as (rsOff F S) L T) (hM : iM D J S M r) (hA : LA F s o1 o2 V N S) (hXs : LX X s N V) (hi : i + 3 < N) (hN : N ≤ 2048) (hk : k + 100 ≤ 60000 ∧ n + 1000 ≤ 600000) (kk : LK X F G s o1 o2 M r V N L k n i) : zW X 9 k n S 1210 [some (zr (some s)), some (zr (some (L 0))), some (zr (some M)), some (zr (some o1)), some (zr (some o2)), some (zi (nI i)), q6, q7, q8] [] := by
  have hX := fun (Sm : ZM) (h : iM D J Sm M r) => X_inList hl0 hI h (V (i + 1))
  have hx6 := LI.k6 hI
  refine z_aload_n C rfl dL_law_1210 ?_
  refine z_aload_n C rfl dL_law_1211 ?_
  refine z_iload C rfl dL_law_1212 ?_
  refine z_iconst 1 (by decide) C dL_law_1214 ?_
  refine z_iadd C dL_law_1215 ?_
  refine z_sld C hXs (ld_in1 hi hN) dL_law_1216 ?_
  refine z_int (ld_v1 hi hN) ?_
  refine z_aload_n C rfl dL_law_1217 ?_
  refine z_callSH 3 [zr (some (L 0)), zi (V (i + 1)), zr (some o1)] C Nc (W_inList hl0 (V (i + 1)) hF.1.2.1 hA.2.1.1 hA.2.1.2 hx6 hA.2.2.2 (C_inList hl0 hI.1 (V (i + 1))) (hvO (hX S hM)) (fun E S1 hp => es_2 ((hX S hM).2 E S1 hp))) rfl (zgoodS3 LWl_good (fun w h => h) wq322 wq323 wq207 wq324) rfl rfl rfl (by decide +kernel) rfl (by rw [hR]; exact ⟨Nat.le_of_ble_eq_true rfl, Nat.le_of_ble_eq_true rfl⟩) (rmK hR (by omega) (by omega)) (Nat.le_of_ble_eq_true rfl) dL_law_1218 (fun v1 S1 h1 => ?_) (fun E1 S1 h1 => h1.elim)
  obtain ⟨k9, D1, J1, lk1, as1, T1, PM, rfl, hL, hM1, hmc, hPM, hno⟩ := LM.of2 hI hM hA hF (pOk_I o1) hX h1
  refine z_istore [_, _, _, _, _, _, _, _, _] C (by decide) rfl dL_law_1221 ?_
  refine z_aload_n C rfl dL_law_1223 ?_
  refine z_aload_n C rfl dL_law_1224 ?_
  refine z_iload C rfl dL_law_1225 ?_
  refine z_iconst 1 (by decide) C dL_law_1227 ?_
  refine z_iadd C dL_law_1228 ?_
  refine z_sld C hXs (ld_in1 hi hN) dL_law_1229 ?_
  refine z_int (ld_v1 hi hN) ?_
  refine z_callM 1 [zi (V (i + 1))] C rfl (hmc.off G) rfl (zgoodV3 LWl_good (fun w h => ul_m h) wq325 wq326 wq327 (ul_m wm37) wq328) rfl rfl rfl (by decide +kernel) rfl (by rw [hR]; exact ⟨Nat.le_of_ble_eq_true rfl, Nat.le_of_ble_eq_true rfl⟩) hM1.k (rmK hR (by omega) (by omega)) (Nat.le_of_ble_eq_true rfl) dL_law_1230 (fun v2 S2 h2 => ?_) (fun E2 S2 h2 => ?_)
  · obtain ⟨S2, hp, rfl, -⟩ := h2
    obtain ⟨z, rfl, hfl, hq⟩ := hPM _ _ hp
    obtain ⟨D', hm, hI', hA'⟩ := hL.back hF hfl
    refine z_istore [_, _, _, _, _, _, _, _, _] C (by decide) rfl dL_law_1233 ?_
    refine z_aload_n C rfl dL_law_1235 ?_
    refine z_callM 0 [] C rfl (M_thrown hl0 hm) rfl (zgoodV3 LWl_good (fun w h => ul_m h) wq213 wq214 wq215 (ul_m wm37) wq216) rfl rfl rfl (by decide +kernel) rfl (by rw [hR]; exact ⟨Nat.le_of_ble_eq_true rfl, Nat.le_of_ble_eq_true rfl⟩) hm.1 (rmK hR (by omega) (by omega)) (Nat.le_of_ble_eq_true rfl) dL_law_1236 (fun v3 S3 h3 => ?_) (fun E3 S3 h3 => h3.elim)
    obtain ⟨rfl, hS3⟩ := h3
    subst hS3
    refine z_iload C rfl dL_law_1239 ?_
    refine z_icmp_eq 1246 C dL_law_1241 (by decide) (fun c9 => ?_) (fun c9 => absurd (rfl : (s39 D' k9) 39 0 = k9) c9)
    refine z_iload C rfl dL_law_1246 ?_
    refine z_if_ne 1263 C dL_law_1248 (by decide) (fun c8 => ?_) (fun c8 => ?_)
    · refine z_goto 3254 C dL_law_1263 (by decide) ?_
      exact kk _ _ _ _ _ _ _ _ _ _ _ (by omega) (by omega) hI' ⟨k9, hm⟩ hA'
    · obtain ⟨S0, hA0, hS1⟩ := hq c8
      subst hS1
      refine z_aload_n C rfl dL_law_1251 ?_
      refine z_iconst 0 (by decide) C dL_law_1252 ?_
      refine z_laload C hA'.2.1.1 (by rw [hA'.2.1.2]; exact vp01) dL_law_1253 ?_
      refine z_lng ((congrFun (mrg_in hF.2.2.2.2.1).2.2.2.2.2.1 _).trans (ptI_at o1 S0 z)) ?_
      refine z_iload C rfl dL_law_1254 ?_
      refine z_i2l C dL_law_1256 ?_
      refine z_lcmp C dL_law_1257 ?_
      refine z_if_eq 1263 C dL_law_1258 (by decide) (fun c6 => ?_) (fun c6 => absurd (lg_self _) c6)
      refine z_goto 3254 C dL_law_1263 (by decide) ?_
      exact kk _ _ _ _ _ _ _ _ _ _ _ (by omega) (by omega) hI' ⟨k9, hm⟩ hA'
  · obtain ⟨S2, hp, -⟩ := h2
    exact absurd hp (hno _ _)
set_option maxRecDepth 100000 in
set_option maxHeartbeats 1000000 in
theorem K_both {X : zX} (hl0 : (xl X).stackTraces = false) {F G : Nat → Bool} {s o1 o2 M : Nat} {r : Nat → Nat} {V : Nat → Int32} {N : Nat} {S : ZM} {D : ZD} {J : Nat → Int64} {lk : ZL} {as L T : Nat → Nat} {k n i : Nat} {q6 q7 q8 : Option ZV} (C : zC X RL cL_law 9 LWl) (Nc : zNc (xs X)) (hR : xR X = room_1) (hF : LF F G s o1 o2 M r) (hI : LI D J lk as (rsOff F S) L T) (hM : iM D J S M r) (hA : LA F s o1 o2 V N S) (hXs : LX X s N V) (hi : i + 3 < N) (hN : N ≤ 2048) (hk : k + 100 ≤ 60000 ∧ n + 1000 ≤ 600000) (kk : LK X F G s o1 o2 M r V N L k n i) : zW X 9 k n S 1266 [some (zr (some s)), some (zr (some (L 0))), some (zr (some M)), some (zr (some o1)), some (zr (some o2)), some (zi (nI i)), q6, q7, q8] [] := by
  have hX := fun (Sm : ZM) (h : iM D J Sm M r) => X_both hl0 hI h (V (i + 1)) (V (i + 2))
  have hx6 := LI.k6 hI
  refine z_aload_n C rfl dL_law_1266 ?_
  refine z_aload_n C rfl dL_law_1267 ?_
  refine z_iload C rfl dL_law_1268 ?_
  refine z_iconst 1 (by decide) C dL_law_1270 ?_
  refine z_iadd C dL_law_1271 ?_
  refine z_sld C hXs (ld_in1 hi hN) dL_law_1272 ?_
  refine z_int (ld_v1 hi hN) ?_
  refine z_aload_n C rfl dL_law_1273 ?_
  refine z_iload C rfl dL_law_1274 ?_
  refine z_iconst 2 (by decide) C dL_law_1276 ?_
  refine z_iadd C dL_law_1277 ?_
  refine z_sld C hXs (ld_in2 hi hN) dL_law_1278 ?_
  refine z_int (ld_v2 hi hN) ?_
  refine z_aload_n C rfl dL_law_1279 ?_
  refine z_callSH 4 [zr (some (L 0)), zi (V (i + 1)), zi (V (i + 2)), zr (some o1)] C Nc (W_both hl0 (V (i + 1)) (V (i + 2)) hF.1.2.1 hA.2.1.1 hA.2.1.2 hx6 hA.2.2.2 (C_both hl0 hI.1 (V (i + 1)) (V (i + 2))) (hvO (hX S hM)) (fun E S1 hp => es_3 ((hX S hM).2 E S1 hp))) rfl (zgoodS3 LWl_good (fun w h => h) wq329 wq330 wq207 wq331) rfl rfl rfl (by decide +kernel) rfl (by rw [hR]; exact ⟨Nat.le_of_ble_eq_true rfl, Nat.le_of_ble_eq_true rfl⟩) (rmK hR (by omega) (by omega)) (Nat.le_of_ble_eq_true rfl) dL_law_1280 (fun v1 S1 h1 => ?_) (fun E1 S1 h1 => h1.elim)
  obtain ⟨k9, D1, J1, lk1, as1, T1, PM, rfl, hL, hM1, hmc, hPM, hno⟩ := LM.of2 hI hM hA hF (pOk_I o1) hX h1
  refine z_istore [_, _, _, _, _, _, _, _, _] C (by decide) rfl dL_law_1283 ?_
  refine z_aload_n C rfl dL_law_1285 ?_
  refine z_aload_n C rfl dL_law_1286 ?_
  refine z_iload C rfl dL_law_1287 ?_
  refine z_iconst 1 (by decide) C dL_law_1289 ?_
  refine z_iadd C dL_law_1290 ?_
  refine z_sld C hXs (ld_in1 hi hN) dL_law_1291 ?_
  refine z_int (ld_v1 hi hN) ?_
  refine z_aload_n C rfl dL_law_1292 ?_
  refine z_iload C rfl dL_law_1293 ?_
  refine z_iconst 2 (by decide) C dL_law_1295 ?_
  refine z_iadd C dL_law_1296 ?_
  refine z_sld C hXs (ld_in2 hi hN) dL_law_1297 ?_
  refine z_int (ld_v2 hi hN) ?_
  refine z_callM 2 [zi (V (i + 1)), zi (V (i + 2))] C rfl (hmc.off G) rfl (zgoodV3 LWl_good (fun w h => ul_m h) wq332 wq333 wq334 (ul_m wm37) wq335) rfl rfl rfl (by decide +kernel) rfl (by rw [hR]; exact ⟨Nat.le_of_ble_eq_true rfl, Nat.le_of_ble_eq_true rfl⟩) hM1.k (rmK hR (by omega) (by omega)) (Nat.le_of_ble_eq_true rfl) dL_law_1298 (fun v2 S2 h2 => ?_) (fun E2 S2 h2 => ?_)
  · obtain ⟨S2, hp, rfl, -⟩ := h2
    obtain ⟨z, rfl, hfl, hq⟩ := hPM _ _ hp
    obtain ⟨D', hm, hI', hA'⟩ := hL.back hF hfl
    refine z_istore [_, _, _, _, _, _, _, _, _] C (by decide) rfl dL_law_1301 ?_
    refine z_aload_n C rfl dL_law_1303 ?_
    refine z_callM 0 [] C rfl (M_thrown hl0 hm) rfl (zgoodV3 LWl_good (fun w h => ul_m h) wq213 wq214 wq215 (ul_m wm37) wq216) rfl rfl rfl (by decide +kernel) rfl (by rw [hR]; exact ⟨Nat.le_of_ble_eq_true rfl, Nat.le_of_ble_eq_true rfl⟩) hm.1 (rmK hR (by omega) (by omega)) (Nat.le_of_ble_eq_true rfl) dL_law_1304 (fun v3 S3 h3 => ?_) (fun E3 S3 h3 => h3.elim)
    obtain ⟨rfl, hS3⟩ := h3
    subst hS3
    refine z_iload C rfl dL_law_1307 ?_
    refine z_icmp_eq 1314 C dL_law_1309 (by decide) (fun c9 => ?_) (fun c9 => absurd (rfl : (s39 D' k9) 39 0 = k9) c9)
    refine z_iload C rfl dL_law_1314 ?_
    refine z_if_ne 1331 C dL_law_1316 (by decide) (fun c8 => ?_) (fun c8 => ?_)
    · refine z_goto 3254 C dL_law_1331 (by decide) ?_
      exact kk _ _ _ _ _ _ _ _ _ _ _ (by omega) (by omega) hI' ⟨k9, hm⟩ hA'
    · obtain ⟨S0, hA0, hS1⟩ := hq c8
      subst hS1
      refine z_aload_n C rfl dL_law_1319 ?_
      refine z_iconst 0 (by decide) C dL_law_1320 ?_
      refine z_laload C hA'.2.1.1 (by rw [hA'.2.1.2]; exact vp01) dL_law_1321 ?_
      refine z_lng ((congrFun (mrg_in hF.2.2.2.2.1).2.2.2.2.2.1 _).trans (ptI_at o1 S0 z)) ?_
      refine z_iload C rfl dL_law_1322 ?_
      refine z_i2l C dL_law_1324 ?_
      refine z_lcmp C dL_law_1325 ?_
      refine z_if_eq 1331 C dL_law_1326 (by decide) (fun c6 => ?_) (fun c6 => absurd (lg_self _) c6)
      refine z_goto 3254 C dL_law_1331 (by decide) ?_
      exact kk _ _ _ _ _ _ _ _ _ _ _ (by omega) (by omega) hI' ⟨k9, hm⟩ hA'
  · obtain ⟨S2, hp, -⟩ := h2
    exact absurd hp (hno _ _)
set_option maxRecDepth 100000 in
set_option maxHeartbeats 1000000 in
theorem K_either {X : zX} (hl0 : (xl X).stackTraces = false) {F G : Nat → Bool} {s o1 o2 M : Nat} {r : Nat → Nat} {V : Nat → Int32} {N : Nat} {S : ZM} {D : ZD} {J : Nat → Int64} {lk : ZL} {as L T : Nat → Nat} {k n i : Nat} {q6 q7 q8 : Option ZV} (C : zC X RL cL_law 9 LWl) (Nc : zNc (xs X)) (hR : xR X = room_1) (hF : LF F G s o1 o2 M r) (hI : LI D J lk as (rsOff F S) L T) (hM : iM D J S M r) (hA : LA F s o1 o2 V N S) (hXs : LX X s N V) (hi : i + 3 < N) (hN : N ≤ 2048) (hk : k + 100 ≤ 60000 ∧ n + 1000 ≤ 600000) (kk : LK X F G s o1 o2 M r V N L k n i) : zW X 9 k n S 1334 [some (zr (some s)), some (zr (some (L 0))), some (zr (some M)), some (zr (some o1)), some (zr (some o2)), some (zi (nI i)), q6, q7, q8] [] := by
  have hX := fun (Sm : ZM) (h : iM D J Sm M r) => X_either hl0 hI h (V (i + 1)) (V (i + 2))
  have hx6 := LI.k6 hI
  refine z_aload_n C rfl dL_law_1334 ?_
  refine z_aload_n C rfl dL_law_1335 ?_
  refine z_iload C rfl dL_law_1336 ?_
  refine z_iconst 1 (by decide) C dL_law_1338 ?_
  refine z_iadd C dL_law_1339 ?_
  refine z_sld C hXs (ld_in1 hi hN) dL_law_1340 ?_
  refine z_int (ld_v1 hi hN) ?_
  refine z_aload_n C rfl dL_law_1341 ?_
  refine z_iload C rfl dL_law_1342 ?_
  refine z_iconst 2 (by decide) C dL_law_1344 ?_
  refine z_iadd C dL_law_1345 ?_
  refine z_sld C hXs (ld_in2 hi hN) dL_law_1346 ?_
  refine z_int (ld_v2 hi hN) ?_
  refine z_aload_n C rfl dL_law_1347 ?_
  refine z_callSH 4 [zr (some (L 0)), zi (V (i + 1)), zi (V (i + 2)), zr (some o1)] C Nc (W_either hl0 (V (i + 1)) (V (i + 2)) hF.1.2.1 hA.2.1.1 hA.2.1.2 hx6 hA.2.2.2 (C_either hl0 hI.1 (V (i + 1)) (V (i + 2))) (hvO (hX S hM)) (fun E S1 hp => es_3 ((hX S hM).2 E S1 hp))) rfl (zgoodS3 LWl_good (fun w h => h) wq336 wq337 wq207 wq338) rfl rfl rfl (by decide +kernel) rfl (by rw [hR]; exact ⟨Nat.le_of_ble_eq_true rfl, Nat.le_of_ble_eq_true rfl⟩) (rmK hR (by omega) (by omega)) (Nat.le_of_ble_eq_true rfl) dL_law_1348 (fun v1 S1 h1 => ?_) (fun E1 S1 h1 => h1.elim)
  obtain ⟨k9, D1, J1, lk1, as1, T1, PM, rfl, hL, hM1, hmc, hPM, hno⟩ := LM.of2 hI hM hA hF (pOk_I o1) hX h1
  refine z_istore [_, _, _, _, _, _, _, _, _] C (by decide) rfl dL_law_1351 ?_
  refine z_aload_n C rfl dL_law_1353 ?_
  refine z_aload_n C rfl dL_law_1354 ?_
  refine z_iload C rfl dL_law_1355 ?_
  refine z_iconst 1 (by decide) C dL_law_1357 ?_
  refine z_iadd C dL_law_1358 ?_
  refine z_sld C hXs (ld_in1 hi hN) dL_law_1359 ?_
  refine z_int (ld_v1 hi hN) ?_
  refine z_aload_n C rfl dL_law_1360 ?_
  refine z_iload C rfl dL_law_1361 ?_
  refine z_iconst 2 (by decide) C dL_law_1363 ?_
  refine z_iadd C dL_law_1364 ?_
  refine z_sld C hXs (ld_in2 hi hN) dL_law_1365 ?_
  refine z_int (ld_v2 hi hN) ?_
  refine z_callM 2 [zi (V (i + 1)), zi (V (i + 2))] C rfl (hmc.off G) rfl (zgoodV3 LWl_good (fun w h => ul_m h) wq339 wq340 wq341 (ul_m wm37) wq342) rfl rfl rfl (by decide +kernel) rfl (by rw [hR]; exact ⟨Nat.le_of_ble_eq_true rfl, Nat.le_of_ble_eq_true rfl⟩) hM1.k (rmK hR (by omega) (by omega)) (Nat.le_of_ble_eq_true rfl) dL_law_1366 (fun v2 S2 h2 => ?_) (fun E2 S2 h2 => ?_)
  · obtain ⟨S2, hp, rfl, -⟩ := h2
    obtain ⟨z, rfl, hfl, hq⟩ := hPM _ _ hp
    obtain ⟨D', hm, hI', hA'⟩ := hL.back hF hfl
    refine z_istore [_, _, _, _, _, _, _, _, _] C (by decide) rfl dL_law_1369 ?_
    refine z_aload_n C rfl dL_law_1371 ?_
    refine z_callM 0 [] C rfl (M_thrown hl0 hm) rfl (zgoodV3 LWl_good (fun w h => ul_m h) wq213 wq214 wq215 (ul_m wm37) wq216) rfl rfl rfl (by decide +kernel) rfl (by rw [hR]; exact ⟨Nat.le_of_ble_eq_true rfl, Nat.le_of_ble_eq_true rfl⟩) hm.1 (rmK hR (by omega) (by omega)) (Nat.le_of_ble_eq_true rfl) dL_law_1372 (fun v3 S3 h3 => ?_) (fun E3 S3 h3 => h3.elim)
    obtain ⟨rfl, hS3⟩ := h3
    subst hS3
    refine z_iload C rfl dL_law_1375 ?_
    refine z_icmp_eq 1382 C dL_law_1377 (by decide) (fun c9 => ?_) (fun c9 => absurd (rfl : (s39 D' k9) 39 0 = k9) c9)
    refine z_iload C rfl dL_law_1382 ?_
    refine z_if_ne 1399 C dL_law_1384 (by decide) (fun c8 => ?_) (fun c8 => ?_)
    · refine z_goto 3254 C dL_law_1399 (by decide) ?_
      exact kk _ _ _ _ _ _ _ _ _ _ _ (by omega) (by omega) hI' ⟨k9, hm⟩ hA'
    · obtain ⟨S0, hA0, hS1⟩ := hq c8
      subst hS1
      refine z_aload_n C rfl dL_law_1387 ?_
      refine z_iconst 0 (by decide) C dL_law_1388 ?_
      refine z_laload C hA'.2.1.1 (by rw [hA'.2.1.2]; exact vp01) dL_law_1389 ?_
      refine z_lng ((congrFun (mrg_in hF.2.2.2.2.1).2.2.2.2.2.1 _).trans (ptI_at o1 S0 z)) ?_
      refine z_iload C rfl dL_law_1390 ?_
      refine z_i2l C dL_law_1392 ?_
      refine z_lcmp C dL_law_1393 ?_
      refine z_if_eq 1399 C dL_law_1394 (by decide) (fun c6 => ?_) (fun c6 => absurd (lg_self _) c6)
      refine z_goto 3254 C dL_law_1399 (by decide) ?_
      exact kk _ _ _ _ _ _ _ _ _ _ _ (by omega) (by omega) hI' ⟨k9, hm⟩ hA'
  · obtain ⟨S2, hp, -⟩ := h2
    exact absurd hp (hno _ _)
set_option maxRecDepth 100000 in
set_option maxHeartbeats 1000000 in
theorem K_not {X : zX} (hl0 : (xl X).stackTraces = false) {F G : Nat → Bool} {s o1 o2 M : Nat} {r : Nat → Nat} {V : Nat → Int32} {N : Nat} {S : ZM} {D : ZD} {J : Nat → Int64} {lk : ZL} {as L T : Nat → Nat} {k n i : Nat} {q6 q7 q8 : Option ZV} (C : zC X RL cL_law 9 LWl) (Nc : zNc (xs X)) (hR : xR X = room_1) (hF : LF F G s o1 o2 M r) (hI : LI D J lk as (rsOff F S) L T) (hM : iM D J S M r) (hA : LA F s o1 o2 V N S) (hXs : LX X s N V) (hi : i + 3 < N) (hN : N ≤ 2048) (hk : k + 100 ≤ 60000 ∧ n + 1000 ≤ 600000) (kk : LK X F G s o1 o2 M r V N L k n i) : zW X 9 k n S 1402 [some (zr (some s)), some (zr (some (L 0))), some (zr (some M)), some (zr (some o1)), some (zr (some o2)), some (zi (nI i)), q6, q7, q8] [] := by
  have hX := fun (Sm : ZM) (h : iM D J Sm M r) => X_not hl0 hI h (V (i + 1))
  have hx6 := LI.k6 hI
  refine z_aload_n C rfl dL_law_1402 ?_
  refine z_aload_n C rfl dL_law_1403 ?_
  refine z_iload C rfl dL_law_1404 ?_
  refine z_iconst 1 (by decide) C dL_law_1406 ?_
  refine z_iadd C dL_law_1407 ?_
  refine z_sld C hXs (ld_in1 hi hN) dL_law_1408 ?_
  refine z_int (ld_v1 hi hN) ?_
  refine z_aload_n C rfl dL_law_1409 ?_
  refine z_callSH 3 [zr (some (L 0)), zi (V (i + 1)), zr (some o1)] C Nc (W_not hl0 (V (i + 1)) hF.1.2.1 hA.2.1.1 hA.2.1.2 hx6 hA.2.2.2 (C_not hl0 hI.1 (V (i + 1))) (hvO (hX S hM)) (fun E S1 hp => es_3 ((hX S hM).2 E S1 hp))) rfl (zgoodS3 LWl_good (fun w h => h) wq343 wq344 wq207 wq345) rfl rfl rfl (by decide +kernel) rfl (by rw [hR]; exact ⟨Nat.le_of_ble_eq_true rfl, Nat.le_of_ble_eq_true rfl⟩) (rmK hR (by omega) (by omega)) (Nat.le_of_ble_eq_true rfl) dL_law_1410 (fun v1 S1 h1 => ?_) (fun E1 S1 h1 => h1.elim)
  obtain ⟨k9, D1, J1, lk1, as1, T1, PM, rfl, hL, hM1, hmc, hPM, hno⟩ := LM.of2 hI hM hA hF (pOk_I o1) hX h1
  refine z_istore [_, _, _, _, _, _, _, _, _] C (by decide) rfl dL_law_1413 ?_
  refine z_aload_n C rfl dL_law_1415 ?_
  refine z_aload_n C rfl dL_law_1416 ?_
  refine z_iload C rfl dL_law_1417 ?_
  refine z_iconst 1 (by decide) C dL_law_1419 ?_
  refine z_iadd C dL_law_1420 ?_
  refine z_sld C hXs (ld_in1 hi hN) dL_law_1421 ?_
  refine z_int (ld_v1 hi hN) ?_
  refine z_callM 1 [zi (V (i + 1))] C rfl (hmc.off G) rfl (zgoodV3 LWl_good (fun w h => ul_m h) wq346 wq347 wq348 (ul_m wm37) wq349) rfl rfl rfl (by decide +kernel) rfl (by rw [hR]; exact ⟨Nat.le_of_ble_eq_true rfl, Nat.le_of_ble_eq_true rfl⟩) hM1.k (rmK hR (by omega) (by omega)) (Nat.le_of_ble_eq_true rfl) dL_law_1422 (fun v2 S2 h2 => ?_) (fun E2 S2 h2 => ?_)
  · obtain ⟨S2, hp, rfl, -⟩ := h2
    obtain ⟨z, rfl, hfl, hq⟩ := hPM _ _ hp
    obtain ⟨D', hm, hI', hA'⟩ := hL.back hF hfl
    refine z_istore [_, _, _, _, _, _, _, _, _] C (by decide) rfl dL_law_1425 ?_
    refine z_aload_n C rfl dL_law_1427 ?_
    refine z_callM 0 [] C rfl (M_thrown hl0 hm) rfl (zgoodV3 LWl_good (fun w h => ul_m h) wq213 wq214 wq215 (ul_m wm37) wq216) rfl rfl rfl (by decide +kernel) rfl (by rw [hR]; exact ⟨Nat.le_of_ble_eq_true rfl, Nat.le_of_ble_eq_true rfl⟩) hm.1 (rmK hR (by omega) (by omega)) (Nat.le_of_ble_eq_true rfl) dL_law_1428 (fun v3 S3 h3 => ?_) (fun E3 S3 h3 => h3.elim)
    obtain ⟨rfl, hS3⟩ := h3
    subst hS3
    refine z_iload C rfl dL_law_1431 ?_
    refine z_icmp_eq 1438 C dL_law_1433 (by decide) (fun c9 => ?_) (fun c9 => absurd (rfl : (s39 D' k9) 39 0 = k9) c9)
    refine z_iload C rfl dL_law_1438 ?_
    refine z_if_ne 1455 C dL_law_1440 (by decide) (fun c8 => ?_) (fun c8 => ?_)
    · refine z_goto 3254 C dL_law_1455 (by decide) ?_
      exact kk _ _ _ _ _ _ _ _ _ _ _ (by omega) (by omega) hI' ⟨k9, hm⟩ hA'
    · obtain ⟨S0, hA0, hS1⟩ := hq c8
      subst hS1
      refine z_aload_n C rfl dL_law_1443 ?_
      refine z_iconst 0 (by decide) C dL_law_1444 ?_
      refine z_laload C hA'.2.1.1 (by rw [hA'.2.1.2]; exact vp01) dL_law_1445 ?_
      refine z_lng ((congrFun (mrg_in hF.2.2.2.2.1).2.2.2.2.2.1 _).trans (ptI_at o1 S0 z)) ?_
      refine z_iload C rfl dL_law_1446 ?_
      refine z_i2l C dL_law_1448 ?_
      refine z_lcmp C dL_law_1449 ?_
      refine z_if_eq 1455 C dL_law_1450 (by decide) (fun c6 => ?_) (fun c6 => absurd (lg_self _) c6)
      refine z_goto 3254 C dL_law_1455 (by decide) ?_
      exact kk _ _ _ _ _ _ _ _ _ _ _ (by omega) (by omega) hI' ⟨k9, hm⟩ hA'
  · obtain ⟨S2, hp, -⟩ := h2
    exact absurd hp (hno _ _)
set_option maxRecDepth 100000 in
set_option maxHeartbeats 1000000 in
theorem K_addList {X : zX} (hl0 : (xl X).stackTraces = false) {F G : Nat → Bool} {s o1 o2 M : Nat} {r : Nat → Nat} {V : Nat → Int32} {N : Nat} {S : ZM} {D : ZD} {J : Nat → Int64} {lk : ZL} {as L T : Nat → Nat} {k n i : Nat} {q6 q7 q8 : Option ZV} (C : zC X RL cL_law 9 LWl) (Nc : zNc (xs X)) (hR : xR X = room_1) (hF : LF F G s o1 o2 M r) (hI : LI D J lk as (rsOff F S) L T) (hM : iM D J S M r) (hA : LA F s o1 o2 V N S) (hXs : LX X s N V) (hi : i + 3 < N) (hN : N ≤ 2048) (hk : k + 100 ≤ 60000 ∧ n + 1000 ≤ 600000) (kk : LK X F G s o1 o2 M r V N L k n i) : zW X 9 k n S 1458 [some (zr (some s)), some (zr (some (L 0))), some (zr (some M)), some (zr (some o1)), some (zr (some o2)), some (zi (nI i)), q6, q7, q8] [] := by
  have hX := fun (Sm : ZM) (h : iM D J Sm M r) => X_addList hl0 hI h (V (i + 1)) (((V (i + 2)).toUInt32 % 65536).toInt32) (V (i + 3))
  have hx6 := LI.k6 hI
  refine z_aload_n C rfl dL_law_1458 ?_
  refine z_aload_n C rfl dL_law_1459 ?_
  refine z_iload C rfl dL_law_1460 ?_
  refine z_iconst 1 (by decide) C dL_law_1462 ?_
  refine z_iadd C dL_law_1463 ?_
  refine z_sld C hXs (ld_in1 hi hN) dL_law_1464 ?_
  refine z_int (ld_v1 hi hN) ?_
  refine z_aload_n C rfl dL_law_1465 ?_
  refine z_iload C rfl dL_law_1466 ?_
  refine z_iconst 2 (by decide) C dL_law_1468 ?_
  refine z_iadd C dL_law_1469 ?_
  refine z_sld C hXs (ld_in2 hi hN) dL_law_1470 ?_
  refine z_int (ld_v2 hi hN) ?_
  refine z_i2c C dL_law_1471 ?_
  refine z_aload_n C rfl dL_law_1472 ?_
  refine z_iload C rfl dL_law_1473 ?_
  refine z_iconst 3 (by decide) C dL_law_1475 ?_
  refine z_iadd C dL_law_1476 ?_
  refine z_sld C hXs (ld_in3 hi hN) dL_law_1477 ?_
  refine z_int (ld_v3 hi hN) ?_
  refine z_aload_n C rfl dL_law_1478 ?_
  refine z_callSH 5 [zr (some (L 0)), zi (V (i + 1)), zi (((V (i + 2)).toUInt32 % 65536).toInt32), zi (V (i + 3)), zr (some o1)] C Nc (W_addList hl0 (V (i + 1)) (((V (i + 2)).toUInt32 % 65536).toInt32) (V (i + 3)) hF.1.2.1 hA.2.1.1 hA.2.1.2 hx6 hA.2.2.2 (C_addList hl0 hI.1 (V (i + 1)) (((V (i + 2)).toUInt32 % 65536).toInt32) (V (i + 3))) (hvO (hX S hM)) (fun E S1 hp => es_3 ((hX S hM).2 E S1 hp))) rfl (zgoodS3 LWl_good (fun w h => h) wq350 wq351 wq207 wq352) rfl rfl rfl (by decide +kernel) rfl (by rw [hR]; exact ⟨Nat.le_of_ble_eq_true rfl, Nat.le_of_ble_eq_true rfl⟩) (rmK hR (by omega) (by omega)) (Nat.le_of_ble_eq_true rfl) dL_law_1479 (fun v1 S1 h1 => ?_) (fun E1 S1 h1 => h1.elim)
  obtain ⟨k9, D1, J1, lk1, as1, T1, PM, rfl, hL, hM1, hmc, hPM, hno⟩ := LM.of2 hI hM hA hF (pOk_I o1) hX h1
  refine z_istore [_, _, _, _, _, _, _, _, _] C (by decide) rfl dL_law_1482 ?_
  refine z_aload_n C rfl dL_law_1484 ?_
  refine z_aload_n C rfl dL_law_1485 ?_
  refine z_iload C rfl dL_law_1486 ?_
  refine z_iconst 1 (by decide) C dL_law_1488 ?_
  refine z_iadd C dL_law_1489 ?_
  refine z_sld C hXs (ld_in1 hi hN) dL_law_1490 ?_
  refine z_int (ld_v1 hi hN) ?_
  refine z_aload_n C rfl dL_law_1491 ?_
  refine z_iload C rfl dL_law_1492 ?_
  refine z_iconst 2 (by decide) C dL_law_1494 ?_
  refine z_iadd C dL_law_1495 ?_
  refine z_sld C hXs (ld_in2 hi hN) dL_law_1496 ?_
  refine z_int (ld_v2 hi hN) ?_
  refine z_i2c C dL_law_1497 ?_
  refine z_aload_n C rfl dL_law_1498 ?_
  refine z_iload C rfl dL_law_1499 ?_
  refine z_iconst 3 (by decide) C dL_law_1501 ?_
  refine z_iadd C dL_law_1502 ?_
  refine z_sld C hXs (ld_in3 hi hN) dL_law_1503 ?_
  refine z_int (ld_v3 hi hN) ?_
  refine z_callM 3 [zi (V (i + 1)), zi (((V (i + 2)).toUInt32 % 65536).toInt32), zi (V (i + 3))] C rfl (hmc.off G) rfl (zgoodV3 LWl_good (fun w h => ul_m h) wq353 wq354 wq355 (ul_m wm37) wq356) rfl rfl rfl (by decide +kernel) rfl (by rw [hR]; exact ⟨Nat.le_of_ble_eq_true rfl, Nat.le_of_ble_eq_true rfl⟩) hM1.k (rmK hR (by omega) (by omega)) (Nat.le_of_ble_eq_true rfl) dL_law_1504 (fun v2 S2 h2 => ?_) (fun E2 S2 h2 => ?_)
  · obtain ⟨S2, hp, rfl, -⟩ := h2
    obtain ⟨z, rfl, hfl, hq⟩ := hPM _ _ hp
    obtain ⟨D', hm, hI', hA'⟩ := hL.back hF hfl
    refine z_istore [_, _, _, _, _, _, _, _, _] C (by decide) rfl dL_law_1507 ?_
    refine z_aload_n C rfl dL_law_1509 ?_
    refine z_callM 0 [] C rfl (M_thrown hl0 hm) rfl (zgoodV3 LWl_good (fun w h => ul_m h) wq213 wq214 wq215 (ul_m wm37) wq216) rfl rfl rfl (by decide +kernel) rfl (by rw [hR]; exact ⟨Nat.le_of_ble_eq_true rfl, Nat.le_of_ble_eq_true rfl⟩) hm.1 (rmK hR (by omega) (by omega)) (Nat.le_of_ble_eq_true rfl) dL_law_1510 (fun v3 S3 h3 => ?_) (fun E3 S3 h3 => h3.elim)
    obtain ⟨rfl, hS3⟩ := h3
    subst hS3
    refine z_iload C rfl dL_law_1513 ?_
    refine z_icmp_eq 1520 C dL_law_1515 (by decide) (fun c9 => ?_) (fun c9 => absurd (rfl : (s39 D' k9) 39 0 = k9) c9)
    refine z_iload C rfl dL_law_1520 ?_
    refine z_if_ne 1537 C dL_law_1522 (by decide) (fun c8 => ?_) (fun c8 => ?_)
    · refine z_goto 3254 C dL_law_1537 (by decide) ?_
      exact kk _ _ _ _ _ _ _ _ _ _ _ (by omega) (by omega) hI' ⟨k9, hm⟩ hA'
    · obtain ⟨S0, hA0, hS1⟩ := hq c8
      subst hS1
      refine z_aload_n C rfl dL_law_1525 ?_
      refine z_iconst 0 (by decide) C dL_law_1526 ?_
      refine z_laload C hA'.2.1.1 (by rw [hA'.2.1.2]; exact vp01) dL_law_1527 ?_
      refine z_lng ((congrFun (mrg_in hF.2.2.2.2.1).2.2.2.2.2.1 _).trans (ptI_at o1 S0 z)) ?_
      refine z_iload C rfl dL_law_1528 ?_
      refine z_i2l C dL_law_1530 ?_
      refine z_lcmp C dL_law_1531 ?_
      refine z_if_eq 1537 C dL_law_1532 (by decide) (fun c6 => ?_) (fun c6 => absurd (lg_self _) c6)
      refine z_goto 3254 C dL_law_1537 (by decide) ?_
      exact kk _ _ _ _ _ _ _ _ _ _ _ (by omega) (by omega) hI' ⟨k9, hm⟩ hA'
  · obtain ⟨S2, hp, -⟩ := h2
    exact absurd hp (hno _ _)
set_option maxRecDepth 100000 in
set_option maxHeartbeats 1000000 in
theorem K_setRule {X : zX} (hl0 : (xl X).stackTraces = false) {F G : Nat → Bool} {s o1 o2 M : Nat} {r : Nat → Nat} {V : Nat → Int32} {N : Nat} {S : ZM} {D : ZD} {J : Nat → Int64} {lk : ZL} {as L T : Nat → Nat} {k n i : Nat} {q6 q7 q8 : Option ZV} (C : zC X RL cL_law 9 LWl) (Nc : zNc (xs X)) (hR : xR X = room_1) (hF : LF F G s o1 o2 M r) (hI : LI D J lk as (rsOff F S) L T) (hM : iM D J S M r) (hA : LA F s o1 o2 V N S) (hXs : LX X s N V) (hi : i + 3 < N) (hN : N ≤ 2048) (hk : k + 100 ≤ 60000 ∧ n + 1000 ≤ 600000) (kk : LK X F G s o1 o2 M r V N L k n i) : zW X 9 k n S 1540 [some (zr (some s)), some (zr (some (L 0))), some (zr (some M)), some (zr (some o1)), some (zr (some o2)), some (zi (nI i)), q6, q7, q8] [] := by
  have hX := fun (Sm : ZM) (h : iM D J Sm M r) => X_setRule hl0 hI h (V (i + 1)) (V (i + 2))
  have hx6 := LI.k6 hI
  refine z_aload_n C rfl dL_law_1540 ?_
  refine z_aload_n C rfl dL_law_1541 ?_
  refine z_iload C rfl dL_law_1542 ?_
  refine z_iconst 1 (by decide) C dL_law_1544 ?_
  refine z_iadd C dL_law_1545 ?_
  refine z_sld C hXs (ld_in1 hi hN) dL_law_1546 ?_
  refine z_int (ld_v1 hi hN) ?_
  refine z_aload_n C rfl dL_law_1547 ?_
  refine z_iload C rfl dL_law_1548 ?_
  refine z_iconst 2 (by decide) C dL_law_1550 ?_
  refine z_iadd C dL_law_1551 ?_
  refine z_sld C hXs (ld_in2 hi hN) dL_law_1552 ?_
  refine z_int (ld_v2 hi hN) ?_
  refine z_aload_n C rfl dL_law_1553 ?_
  refine z_callSH 4 [zr (some (L 0)), zi (V (i + 1)), zi (V (i + 2)), zr (some o1)] C Nc (W_setRule hl0 (V (i + 1)) (V (i + 2)) hF.1.2.1 hA.2.1.1 hA.2.1.2 hx6 hA.2.2.2 (C_setRule hl0 hI.1 (V (i + 1)) (V (i + 2))) (hvO (hX S hM)) (fun E S1 hp => es_2 ((hX S hM).2 E S1 hp))) rfl (zgoodS3 LWl_good (fun w h => h) wq357 wq358 wq207 wq359) rfl rfl rfl (by decide +kernel) rfl (by rw [hR]; exact ⟨Nat.le_of_ble_eq_true rfl, Nat.le_of_ble_eq_true rfl⟩) (rmK hR (by omega) (by omega)) (Nat.le_of_ble_eq_true rfl) dL_law_1554 (fun v1 S1 h1 => ?_) (fun E1 S1 h1 => h1.elim)
  obtain ⟨k9, D1, J1, lk1, as1, T1, PM, rfl, hL, hM1, hmc, hPM, hno⟩ := LM.of2 hI hM hA hF (pOk_I o1) hX h1
  refine z_istore [_, _, _, _, _, _, _, _, _] C (by decide) rfl dL_law_1557 ?_
  refine z_aload_n C rfl dL_law_1559 ?_
  refine z_aload_n C rfl dL_law_1560 ?_
  refine z_iload C rfl dL_law_1561 ?_
  refine z_iconst 1 (by decide) C dL_law_1563 ?_
  refine z_iadd C dL_law_1564 ?_
  refine z_sld C hXs (ld_in1 hi hN) dL_law_1565 ?_
  refine z_int (ld_v1 hi hN) ?_
  refine z_aload_n C rfl dL_law_1566 ?_
  refine z_iload C rfl dL_law_1567 ?_
  refine z_iconst 2 (by decide) C dL_law_1569 ?_
  refine z_iadd C dL_law_1570 ?_
  refine z_sld C hXs (ld_in2 hi hN) dL_law_1571 ?_
  refine z_int (ld_v2 hi hN) ?_
  refine z_callM 2 [zi (V (i + 1)), zi (V (i + 2))] C rfl (hmc.off G) rfl (zgoodV3 LWl_good (fun w h => ul_m h) wq360 wq361 wq362 (ul_m wm37) wq363) rfl rfl rfl (by decide +kernel) rfl (by rw [hR]; exact ⟨Nat.le_of_ble_eq_true rfl, Nat.le_of_ble_eq_true rfl⟩) hM1.k (rmK hR (by omega) (by omega)) (Nat.le_of_ble_eq_true rfl) dL_law_1572 (fun v2 S2 h2 => ?_) (fun E2 S2 h2 => ?_)
  · obtain ⟨S2, hp, rfl, -⟩ := h2
    obtain ⟨z, rfl, hfl, hq⟩ := hPM _ _ hp
    obtain ⟨D', hm, hI', hA'⟩ := hL.back hF hfl
    refine z_istore [_, _, _, _, _, _, _, _, _] C (by decide) rfl dL_law_1575 ?_
    refine z_aload_n C rfl dL_law_1577 ?_
    refine z_callM 0 [] C rfl (M_thrown hl0 hm) rfl (zgoodV3 LWl_good (fun w h => ul_m h) wq213 wq214 wq215 (ul_m wm37) wq216) rfl rfl rfl (by decide +kernel) rfl (by rw [hR]; exact ⟨Nat.le_of_ble_eq_true rfl, Nat.le_of_ble_eq_true rfl⟩) hm.1 (rmK hR (by omega) (by omega)) (Nat.le_of_ble_eq_true rfl) dL_law_1578 (fun v3 S3 h3 => ?_) (fun E3 S3 h3 => h3.elim)
    obtain ⟨rfl, hS3⟩ := h3
    subst hS3
    refine z_iload C rfl dL_law_1581 ?_
    refine z_icmp_eq 1588 C dL_law_1583 (by decide) (fun c9 => ?_) (fun c9 => absurd (rfl : (s39 D' k9) 39 0 = k9) c9)
    refine z_iload C rfl dL_law_1588 ?_
    refine z_if_ne 1605 C dL_law_1590 (by decide) (fun c8 => ?_) (fun c8 => ?_)
    · refine z_goto 3254 C dL_law_1605 (by decide) ?_
      exact kk _ _ _ _ _ _ _ _ _ _ _ (by omega) (by omega) hI' ⟨k9, hm⟩ hA'
    · obtain ⟨S0, hA0, hS1⟩ := hq c8
      subst hS1
      refine z_aload_n C rfl dL_law_1593 ?_
      refine z_iconst 0 (by decide) C dL_law_1594 ?_
      refine z_laload C hA'.2.1.1 (by rw [hA'.2.1.2]; exact vp01) dL_law_1595 ?_
      refine z_lng ((congrFun (mrg_in hF.2.2.2.2.1).2.2.2.2.2.1 _).trans (ptI_at o1 S0 z)) ?_
      refine z_iload C rfl dL_law_1596 ?_
      refine z_i2l C dL_law_1598 ?_
      refine z_lcmp C dL_law_1599 ?_
      refine z_if_eq 1605 C dL_law_1600 (by decide) (fun c6 => ?_) (fun c6 => absurd (lg_self _) c6)
      refine z_goto 3254 C dL_law_1605 (by decide) ?_
      exact kk _ _ _ _ _ _ _ _ _ _ _ (by omega) (by omega) hI' ⟨k9, hm⟩ hA'
  · obtain ⟨S2, hp, -⟩ := h2
    exact absurd hp (hno _ _)
set_option maxRecDepth 100000 in
set_option maxHeartbeats 1000000 in
theorem K_setOrder {X : zX} (hl0 : (xl X).stackTraces = false) {F G : Nat → Bool} {s o1 o2 M : Nat} {r : Nat → Nat} {V : Nat → Int32} {N : Nat} {S : ZM} {D : ZD} {J : Nat → Int64} {lk : ZL} {as L T : Nat → Nat} {k n i : Nat} {q6 q7 q8 : Option ZV} (C : zC X RL cL_law 9 LWl) (Nc : zNc (xs X)) (hR : xR X = room_1) (hF : LF F G s o1 o2 M r) (hI : LI D J lk as (rsOff F S) L T) (hM : iM D J S M r) (hA : LA F s o1 o2 V N S) (hXs : LX X s N V) (hi : i + 3 < N) (hN : N ≤ 2048) (hk : k + 100 ≤ 60000 ∧ n + 1000 ≤ 600000) (kk : LK X F G s o1 o2 M r V N L k n i) : zW X 9 k n S 1608 [some (zr (some s)), some (zr (some (L 0))), some (zr (some M)), some (zr (some o1)), some (zr (some o2)), some (zi (nI i)), q6, q7, q8] [] := by
  have hX := fun (Sm : ZM) (h : iM D J Sm M r) => X_setOrder hl0 hI h (V (i + 1)) (((V (i + 2)).toUInt32 % 65536).toInt32)
  have hx6 := LI.k6 hI
  refine z_aload_n C rfl dL_law_1608 ?_
  refine z_aload_n C rfl dL_law_1609 ?_
  refine z_iload C rfl dL_law_1610 ?_
  refine z_iconst 1 (by decide) C dL_law_1612 ?_
  refine z_iadd C dL_law_1613 ?_
  refine z_sld C hXs (ld_in1 hi hN) dL_law_1614 ?_
  refine z_int (ld_v1 hi hN) ?_
  refine z_aload_n C rfl dL_law_1615 ?_
  refine z_iload C rfl dL_law_1616 ?_
  refine z_iconst 2 (by decide) C dL_law_1618 ?_
  refine z_iadd C dL_law_1619 ?_
  refine z_sld C hXs (ld_in2 hi hN) dL_law_1620 ?_
  refine z_int (ld_v2 hi hN) ?_
  refine z_i2c C dL_law_1621 ?_
  refine z_aload_n C rfl dL_law_1622 ?_
  refine z_callSH 4 [zr (some (L 0)), zi (V (i + 1)), zi (((V (i + 2)).toUInt32 % 65536).toInt32), zr (some o1)] C Nc (W_setOrder hl0 (V (i + 1)) (((V (i + 2)).toUInt32 % 65536).toInt32) hF.1.2.1 hA.2.1.1 hA.2.1.2 hx6 hA.2.2.2 (C_setOrder hl0 hI.1 (V (i + 1)) (((V (i + 2)).toUInt32 % 65536).toInt32)) (hvO (hX S hM)) (fun E S1 hp => es_2 ((hX S hM).2 E S1 hp))) rfl (zgoodS3 LWl_good (fun w h => h) wq364 wq365 wq207 wq366) rfl rfl rfl (by decide +kernel) rfl (by rw [hR]; exact ⟨Nat.le_of_ble_eq_true rfl, Nat.le_of_ble_eq_true rfl⟩) (rmK hR (by omega) (by omega)) (Nat.le_of_ble_eq_true rfl) dL_law_1623 (fun v1 S1 h1 => ?_) (fun E1 S1 h1 => h1.elim)
  obtain ⟨k9, D1, J1, lk1, as1, T1, PM, rfl, hL, hM1, hmc, hPM, hno⟩ := LM.of2 hI hM hA hF (pOk_I o1) hX h1
  refine z_istore [_, _, _, _, _, _, _, _, _] C (by decide) rfl dL_law_1626 ?_
  refine z_aload_n C rfl dL_law_1628 ?_
  refine z_aload_n C rfl dL_law_1629 ?_
  refine z_iload C rfl dL_law_1630 ?_
  refine z_iconst 1 (by decide) C dL_law_1632 ?_
  refine z_iadd C dL_law_1633 ?_
  refine z_sld C hXs (ld_in1 hi hN) dL_law_1634 ?_
  refine z_int (ld_v1 hi hN) ?_
  refine z_aload_n C rfl dL_law_1635 ?_
  refine z_iload C rfl dL_law_1636 ?_
  refine z_iconst 2 (by decide) C dL_law_1638 ?_
  refine z_iadd C dL_law_1639 ?_
  refine z_sld C hXs (ld_in2 hi hN) dL_law_1640 ?_
  refine z_int (ld_v2 hi hN) ?_
  refine z_i2c C dL_law_1641 ?_
  refine z_callM 2 [zi (V (i + 1)), zi (((V (i + 2)).toUInt32 % 65536).toInt32)] C rfl (hmc.off G) rfl (zgoodV3 LWl_good (fun w h => ul_m h) wq367 wq368 wq369 (ul_m wm37) wq370) rfl rfl rfl (by decide +kernel) rfl (by rw [hR]; exact ⟨Nat.le_of_ble_eq_true rfl, Nat.le_of_ble_eq_true rfl⟩) hM1.k (rmK hR (by omega) (by omega)) (Nat.le_of_ble_eq_true rfl) dL_law_1642 (fun v2 S2 h2 => ?_) (fun E2 S2 h2 => ?_)
  · obtain ⟨S2, hp, rfl, -⟩ := h2
    obtain ⟨z, rfl, hfl, hq⟩ := hPM _ _ hp
    obtain ⟨D', hm, hI', hA'⟩ := hL.back hF hfl
    refine z_istore [_, _, _, _, _, _, _, _, _] C (by decide) rfl dL_law_1645 ?_
    refine z_aload_n C rfl dL_law_1647 ?_
    refine z_callM 0 [] C rfl (M_thrown hl0 hm) rfl (zgoodV3 LWl_good (fun w h => ul_m h) wq213 wq214 wq215 (ul_m wm37) wq216) rfl rfl rfl (by decide +kernel) rfl (by rw [hR]; exact ⟨Nat.le_of_ble_eq_true rfl, Nat.le_of_ble_eq_true rfl⟩) hm.1 (rmK hR (by omega) (by omega)) (Nat.le_of_ble_eq_true rfl) dL_law_1648 (fun v3 S3 h3 => ?_) (fun E3 S3 h3 => h3.elim)
    obtain ⟨rfl, hS3⟩ := h3
    subst hS3
    refine z_iload C rfl dL_law_1651 ?_
    refine z_icmp_eq 1658 C dL_law_1653 (by decide) (fun c9 => ?_) (fun c9 => absurd (rfl : (s39 D' k9) 39 0 = k9) c9)
    refine z_iload C rfl dL_law_1658 ?_
    refine z_if_ne 1675 C dL_law_1660 (by decide) (fun c8 => ?_) (fun c8 => ?_)
    · refine z_goto 3254 C dL_law_1675 (by decide) ?_
      exact kk _ _ _ _ _ _ _ _ _ _ _ (by omega) (by omega) hI' ⟨k9, hm⟩ hA'
    · obtain ⟨S0, hA0, hS1⟩ := hq c8
      subst hS1
      refine z_aload_n C rfl dL_law_1663 ?_
      refine z_iconst 0 (by decide) C dL_law_1664 ?_
      refine z_laload C hA'.2.1.1 (by rw [hA'.2.1.2]; exact vp01) dL_law_1665 ?_
      refine z_lng ((congrFun (mrg_in hF.2.2.2.2.1).2.2.2.2.2.1 _).trans (ptI_at o1 S0 z)) ?_
      refine z_iload C rfl dL_law_1666 ?_
      refine z_i2l C dL_law_1668 ?_
      refine z_lcmp C dL_law_1669 ?_
      refine z_if_eq 1675 C dL_law_1670 (by decide) (fun c6 => ?_) (fun c6 => absurd (lg_self _) c6)
      refine z_goto 3254 C dL_law_1675 (by decide) ?_
      exact kk _ _ _ _ _ _ _ _ _ _ _ (by omega) (by omega) hI' ⟨k9, hm⟩ hA'
  · obtain ⟨S2, hp, -⟩ := h2
    exact absurd hp (hno _ _)
set_option maxRecDepth 100000 in
set_option maxHeartbeats 1000000 in
theorem K_setLimit {X : zX} (hl0 : (xl X).stackTraces = false) {F G : Nat → Bool} {s o1 o2 M : Nat} {r : Nat → Nat} {V : Nat → Int32} {N : Nat} {S : ZM} {D : ZD} {J : Nat → Int64} {lk : ZL} {as L T : Nat → Nat} {k n i : Nat} {q6 q7 q8 : Option ZV} (C : zC X RL cL_law 9 LWl) (Nc : zNc (xs X)) (hR : xR X = room_1) (hF : LF F G s o1 o2 M r) (hI : LI D J lk as (rsOff F S) L T) (hM : iM D J S M r) (hA : LA F s o1 o2 V N S) (hXs : LX X s N V) (hi : i + 3 < N) (hN : N ≤ 2048) (hk : k + 100 ≤ 60000 ∧ n + 1000 ≤ 600000) (kk : LK X F G s o1 o2 M r V N L k n i) : zW X 9 k n S 1678 [some (zr (some s)), some (zr (some (L 0))), some (zr (some M)), some (zr (some o1)), some (zr (some o2)), some (zi (nI i)), q6, q7, q8] [] := by
  have hX := fun (Sm : ZM) (h : iM D J Sm M r) => X_setLimit hl0 hI h (V (i + 1)) (V (i + 2))
  have hx6 := LI.k6 hI
  refine z_aload_n C rfl dL_law_1678 ?_
  refine z_aload_n C rfl dL_law_1679 ?_
  refine z_iload C rfl dL_law_1680 ?_
  refine z_iconst 1 (by decide) C dL_law_1682 ?_
  refine z_iadd C dL_law_1683 ?_
  refine z_sld C hXs (ld_in1 hi hN) dL_law_1684 ?_
  refine z_int (ld_v1 hi hN) ?_
  refine z_aload_n C rfl dL_law_1685 ?_
  refine z_iload C rfl dL_law_1686 ?_
  refine z_iconst 2 (by decide) C dL_law_1688 ?_
  refine z_iadd C dL_law_1689 ?_
  refine z_sld C hXs (ld_in2 hi hN) dL_law_1690 ?_
  refine z_int (ld_v2 hi hN) ?_
  refine z_aload_n C rfl dL_law_1691 ?_
  refine z_callSH 4 [zr (some (L 0)), zi (V (i + 1)), zi (V (i + 2)), zr (some o1)] C Nc (W_setLimit hl0 (V (i + 1)) (V (i + 2)) hF.1.2.1 hA.2.1.1 hA.2.1.2 hx6 hA.2.2.2 (C_setLimit hl0 hI.1 (V (i + 1)) (V (i + 2))) (hvO (hX S hM)) (fun E S1 hp => es_2 ((hX S hM).2 E S1 hp))) rfl (zgoodS3 LWl_good (fun w h => h) wq371 wq372 wq207 wq373) rfl rfl rfl (by decide +kernel) rfl (by rw [hR]; exact ⟨Nat.le_of_ble_eq_true rfl, Nat.le_of_ble_eq_true rfl⟩) (rmK hR (by omega) (by omega)) (Nat.le_of_ble_eq_true rfl) dL_law_1692 (fun v1 S1 h1 => ?_) (fun E1 S1 h1 => h1.elim)
  obtain ⟨k9, D1, J1, lk1, as1, T1, PM, rfl, hL, hM1, hmc, hPM, hno⟩ := LM.of2 hI hM hA hF (pOk_I o1) hX h1
  refine z_istore [_, _, _, _, _, _, _, _, _] C (by decide) rfl dL_law_1695 ?_
  refine z_aload_n C rfl dL_law_1697 ?_
  refine z_aload_n C rfl dL_law_1698 ?_
  refine z_iload C rfl dL_law_1699 ?_
  refine z_iconst 1 (by decide) C dL_law_1701 ?_
  refine z_iadd C dL_law_1702 ?_
  refine z_sld C hXs (ld_in1 hi hN) dL_law_1703 ?_
  refine z_int (ld_v1 hi hN) ?_
  refine z_aload_n C rfl dL_law_1704 ?_
  refine z_iload C rfl dL_law_1705 ?_
  refine z_iconst 2 (by decide) C dL_law_1707 ?_
  refine z_iadd C dL_law_1708 ?_
  refine z_sld C hXs (ld_in2 hi hN) dL_law_1709 ?_
  refine z_int (ld_v2 hi hN) ?_
  refine z_callM 2 [zi (V (i + 1)), zi (V (i + 2))] C rfl (hmc.off G) rfl (zgoodV3 LWl_good (fun w h => ul_m h) wq374 wq375 wq376 (ul_m wm37) wq377) rfl rfl rfl (by decide +kernel) rfl (by rw [hR]; exact ⟨Nat.le_of_ble_eq_true rfl, Nat.le_of_ble_eq_true rfl⟩) hM1.k (rmK hR (by omega) (by omega)) (Nat.le_of_ble_eq_true rfl) dL_law_1710 (fun v2 S2 h2 => ?_) (fun E2 S2 h2 => ?_)
  · obtain ⟨S2, hp, rfl, -⟩ := h2
    obtain ⟨z, rfl, hfl, hq⟩ := hPM _ _ hp
    obtain ⟨D', hm, hI', hA'⟩ := hL.back hF hfl
    refine z_istore [_, _, _, _, _, _, _, _, _] C (by decide) rfl dL_law_1713 ?_
    refine z_aload_n C rfl dL_law_1715 ?_
    refine z_callM 0 [] C rfl (M_thrown hl0 hm) rfl (zgoodV3 LWl_good (fun w h => ul_m h) wq213 wq214 wq215 (ul_m wm37) wq216) rfl rfl rfl (by decide +kernel) rfl (by rw [hR]; exact ⟨Nat.le_of_ble_eq_true rfl, Nat.le_of_ble_eq_true rfl⟩) hm.1 (rmK hR (by omega) (by omega)) (Nat.le_of_ble_eq_true rfl) dL_law_1716 (fun v3 S3 h3 => ?_) (fun E3 S3 h3 => h3.elim)
    obtain ⟨rfl, hS3⟩ := h3
    subst hS3
    refine z_iload C rfl dL_law_1719 ?_
    refine z_icmp_eq 1726 C dL_law_1721 (by decide) (fun c9 => ?_) (fun c9 => absurd (rfl : (s39 D' k9) 39 0 = k9) c9)
    refine z_iload C rfl dL_law_1726 ?_
    refine z_if_ne 1743 C dL_law_1728 (by decide) (fun c8 => ?_) (fun c8 => ?_)
    · refine z_goto 3254 C dL_law_1743 (by decide) ?_
      exact kk _ _ _ _ _ _ _ _ _ _ _ (by omega) (by omega) hI' ⟨k9, hm⟩ hA'
    · obtain ⟨S0, hA0, hS1⟩ := hq c8
      subst hS1
      refine z_aload_n C rfl dL_law_1731 ?_
      refine z_iconst 0 (by decide) C dL_law_1732 ?_
      refine z_laload C hA'.2.1.1 (by rw [hA'.2.1.2]; exact vp01) dL_law_1733 ?_
      refine z_lng ((congrFun (mrg_in hF.2.2.2.2.1).2.2.2.2.2.1 _).trans (ptI_at o1 S0 z)) ?_
      refine z_iload C rfl dL_law_1734 ?_
      refine z_i2l C dL_law_1736 ?_
      refine z_lcmp C dL_law_1737 ?_
      refine z_if_eq 1743 C dL_law_1738 (by decide) (fun c6 => ?_) (fun c6 => absurd (lg_self _) c6)
      refine z_goto 3254 C dL_law_1743 (by decide) ?_
      exact kk _ _ _ _ _ _ _ _ _ _ _ (by omega) (by omega) hI' ⟨k9, hm⟩ hA'
  · obtain ⟨S2, hp, -⟩ := h2
    exact absurd hp (hno _ _)
set_option maxRecDepth 100000 in
set_option maxHeartbeats 1000000 in
theorem K_lengthOf {X : zX} (hl0 : (xl X).stackTraces = false) {F G : Nat → Bool} {s o1 o2 M : Nat} {r : Nat → Nat} {V : Nat → Int32} {N : Nat} {S : ZM} {D : ZD} {J : Nat → Int64} {lk : ZL} {as L T : Nat → Nat} {k n i : Nat} {q6 q7 q8 : Option ZV} (C : zC X RL cL_law 9 LWl) (Nc : zNc (xs X)) (hR : xR X = room_1) (hF : LF F G s o1 o2 M r) (hI : LI D J lk as (rsOff F S) L T) (hM : iM D J S M r) (hA : LA F s o1 o2 V N S) (hXs : LX X s N V) (hi : i + 3 < N) (hN : N ≤ 2048) (hk : k + 100 ≤ 60000 ∧ n + 1000 ≤ 600000) (kk : LK X F G s o1 o2 M r V N L k n i) : zW X 9 k n S 1772 [some (zr (some s)), some (zr (some (L 0))), some (zr (some M)), some (zr (some o1)), some (zr (some o2)), some (zi (nI i)), q6, q7, q8] [] := by
  have hX := fun (Sm : ZM) (h : iM D J Sm M r) => X_lengthOf hl0 hI h (V (i + 1))
  have hx6 := LI.k6 hI
  refine z_aload_n C rfl dL_law_1772 ?_
  refine z_aload_n C rfl dL_law_1773 ?_
  refine z_iload C rfl dL_law_1774 ?_
  refine z_iconst 1 (by decide) C dL_law_1776 ?_
  refine z_iadd C dL_law_1777 ?_
  refine z_sld C hXs (ld_in1 hi hN) dL_law_1778 ?_
  refine z_int (ld_v1 hi hN) ?_
  refine z_aload_n C rfl dL_law_1779 ?_
  refine z_callSH 3 [zr (some (L 0)), zi (V (i + 1)), zr (some o1)] C Nc (W_lengthOf hl0 (V (i + 1)) hF.1.2.1 hA.2.1.1 hA.2.1.2 hx6 hA.2.2.2 (C_lengthOf hl0 hI.1 (V (i + 1))) (hvO (hX S hM)) (fun E S1 hp => es_1 ((hX S hM).2 E S1 hp))) rfl (zgoodS3 LWl_good (fun w h => h) wq394 wq395 wq207 wq396) rfl rfl rfl (by decide +kernel) rfl (by rw [hR]; exact ⟨Nat.le_of_ble_eq_true rfl, Nat.le_of_ble_eq_true rfl⟩) (rmK hR (by omega) (by omega)) (Nat.le_of_ble_eq_true rfl) dL_law_1780 (fun v1 S1 h1 => ?_) (fun E1 S1 h1 => h1.elim)
  obtain ⟨k9, D1, J1, lk1, as1, T1, PM, rfl, hL, hM1, hmc, hPM, hno⟩ := LM.of2 hI hM hA hF (pOk_I o1) hX h1
  refine z_istore [_, _, _, _, _, _, _, _, _] C (by decide) rfl dL_law_1783 ?_
  refine z_aload_n C rfl dL_law_1785 ?_
  refine z_aload_n C rfl dL_law_1786 ?_
  refine z_iload C rfl dL_law_1787 ?_
  refine z_iconst 1 (by decide) C dL_law_1789 ?_
  refine z_iadd C dL_law_1790 ?_
  refine z_sld C hXs (ld_in1 hi hN) dL_law_1791 ?_
  refine z_int (ld_v1 hi hN) ?_
  refine z_callM 1 [zi (V (i + 1))] C rfl (hmc.off G) rfl (zgoodV3 LWl_good (fun w h => ul_m h) wq397 wq398 wq399 (ul_m wm37) wq400) rfl rfl rfl (by decide +kernel) rfl (by rw [hR]; exact ⟨Nat.le_of_ble_eq_true rfl, Nat.le_of_ble_eq_true rfl⟩) hM1.k (rmK hR (by omega) (by omega)) (Nat.le_of_ble_eq_true rfl) dL_law_1792 (fun v2 S2 h2 => ?_) (fun E2 S2 h2 => ?_)
  · obtain ⟨S2, hp, rfl, -⟩ := h2
    obtain ⟨z, rfl, hfl, hq⟩ := hPM _ _ hp
    obtain ⟨D', hm, hI', hA'⟩ := hL.back hF hfl
    refine z_istore [_, _, _, _, _, _, _, _, _] C (by decide) rfl dL_law_1795 ?_
    refine z_aload_n C rfl dL_law_1797 ?_
    refine z_callM 0 [] C rfl (M_thrown hl0 hm) rfl (zgoodV3 LWl_good (fun w h => ul_m h) wq213 wq214 wq215 (ul_m wm37) wq216) rfl rfl rfl (by decide +kernel) rfl (by rw [hR]; exact ⟨Nat.le_of_ble_eq_true rfl, Nat.le_of_ble_eq_true rfl⟩) hm.1 (rmK hR (by omega) (by omega)) (Nat.le_of_ble_eq_true rfl) dL_law_1798 (fun v3 S3 h3 => ?_) (fun E3 S3 h3 => h3.elim)
    obtain ⟨rfl, hS3⟩ := h3
    subst hS3
    refine z_iload C rfl dL_law_1801 ?_
    refine z_icmp_eq 1808 C dL_law_1803 (by decide) (fun c9 => ?_) (fun c9 => absurd (rfl : (s39 D' k9) 39 0 = k9) c9)
    refine z_iload C rfl dL_law_1808 ?_
    refine z_if_ne 1825 C dL_law_1810 (by decide) (fun c8 => ?_) (fun c8 => ?_)
    · refine z_goto 3254 C dL_law_1825 (by decide) ?_
      exact kk _ _ _ _ _ _ _ _ _ _ _ (by omega) (by omega) hI' ⟨k9, hm⟩ hA'
    · obtain ⟨S0, hA0, hS1⟩ := hq c8
      subst hS1
      refine z_aload_n C rfl dL_law_1813 ?_
      refine z_iconst 0 (by decide) C dL_law_1814 ?_
      refine z_laload C hA'.2.1.1 (by rw [hA'.2.1.2]; exact vp01) dL_law_1815 ?_
      refine z_lng ((congrFun (mrg_in hF.2.2.2.2.1).2.2.2.2.2.1 _).trans (ptI_at o1 S0 z)) ?_
      refine z_iload C rfl dL_law_1816 ?_
      refine z_i2l C dL_law_1818 ?_
      refine z_lcmp C dL_law_1819 ?_
      refine z_if_eq 1825 C dL_law_1820 (by decide) (fun c6 => ?_) (fun c6 => absurd (lg_self _) c6)
      refine z_goto 3254 C dL_law_1825 (by decide) ?_
      exact kk _ _ _ _ _ _ _ _ _ _ _ (by omega) (by omega) hI' ⟨k9, hm⟩ hA'
  · obtain ⟨S2, hp, -⟩ := h2
    exact absurd hp (hno _ _)
set_option maxRecDepth 100000 in
set_option maxHeartbeats 1000000 in
theorem K_ratingOf {X : zX} (hl0 : (xl X).stackTraces = false) {F G : Nat → Bool} {s o1 o2 M : Nat} {r : Nat → Nat} {V : Nat → Int32} {N : Nat} {S : ZM} {D : ZD} {J : Nat → Int64} {lk : ZL} {as L T : Nat → Nat} {k n i : Nat} {q6 q7 q8 : Option ZV} (C : zC X RL cL_law 9 LWl) (Nc : zNc (xs X)) (hR : xR X = room_1) (hF : LF F G s o1 o2 M r) (hI : LI D J lk as (rsOff F S) L T) (hM : iM D J S M r) (hA : LA F s o1 o2 V N S) (hXs : LX X s N V) (hi : i + 3 < N) (hN : N ≤ 2048) (hk : k + 100 ≤ 60000 ∧ n + 1000 ≤ 600000) (kk : LK X F G s o1 o2 M r V N L k n i) : zW X 9 k n S 1828 [some (zr (some s)), some (zr (some (L 0))), some (zr (some M)), some (zr (some o1)), some (zr (some o2)), some (zi (nI i)), q6, q7, q8] [] := by
  have hX := fun (Sm : ZM) (h : iM D J Sm M r) => X_ratingOf hl0 hI h (V (i + 1))
  have hx6 := LI.k6 hI
  refine z_aload_n C rfl dL_law_1828 ?_
  refine z_aload_n C rfl dL_law_1829 ?_
  refine z_iload C rfl dL_law_1830 ?_
  refine z_iconst 1 (by decide) C dL_law_1832 ?_
  refine z_iadd C dL_law_1833 ?_
  refine z_sld C hXs (ld_in1 hi hN) dL_law_1834 ?_
  refine z_int (ld_v1 hi hN) ?_
  refine z_aload_n C rfl dL_law_1835 ?_
  refine z_callSH 3 [zr (some (L 0)), zi (V (i + 1)), zr (some o1)] C Nc (W_ratingOf hl0 (V (i + 1)) hF.1.2.1 hA.2.1.1 hA.2.1.2 hx6 hA.2.2.2 (C_ratingOf hl0 hI.1 (V (i + 1))) (hvO (hX S hM)) (fun E S1 hp => es_1 ((hX S hM).2 E S1 hp))) rfl (zgoodS3 LWl_good (fun w h => h) wq401 wq402 wq207 wq403) rfl rfl rfl (by decide +kernel) rfl (by rw [hR]; exact ⟨Nat.le_of_ble_eq_true rfl, Nat.le_of_ble_eq_true rfl⟩) (rmK hR (by omega) (by omega)) (Nat.le_of_ble_eq_true rfl) dL_law_1836 (fun v1 S1 h1 => ?_) (fun E1 S1 h1 => h1.elim)
  obtain ⟨k9, D1, J1, lk1, as1, T1, PM, rfl, hL, hM1, hmc, hPM, hno⟩ := LM.of2 hI hM hA hF (pOk_I o1) hX h1
  refine z_istore [_, _, _, _, _, _, _, _, _] C (by decide) rfl dL_law_1839 ?_
  refine z_aload_n C rfl dL_law_1841 ?_
  refine z_aload_n C rfl dL_law_1842 ?_
  refine z_iload C rfl dL_law_1843 ?_
  refine z_iconst 1 (by decide) C dL_law_1845 ?_
  refine z_iadd C dL_law_1846 ?_
  refine z_sld C hXs (ld_in1 hi hN) dL_law_1847 ?_
  refine z_int (ld_v1 hi hN) ?_
  refine z_callM 1 [zi (V (i + 1))] C rfl (hmc.off G) rfl (zgoodV3 LWl_good (fun w h => ul_m h) wq404 wq405 wq406 (ul_m wm37) wq407) rfl rfl rfl (by decide +kernel) rfl (by rw [hR]; exact ⟨Nat.le_of_ble_eq_true rfl, Nat.le_of_ble_eq_true rfl⟩) hM1.k (rmK hR (by omega) (by omega)) (Nat.le_of_ble_eq_true rfl) dL_law_1848 (fun v2 S2 h2 => ?_) (fun E2 S2 h2 => ?_)
  · obtain ⟨S2, hp, rfl, -⟩ := h2
    obtain ⟨z, rfl, hfl, hq⟩ := hPM _ _ hp
    obtain ⟨D', hm, hI', hA'⟩ := hL.back hF hfl
    refine z_istore [_, _, _, _, _, _, _, _, _] C (by decide) rfl dL_law_1851 ?_
    refine z_aload_n C rfl dL_law_1853 ?_
    refine z_callM 0 [] C rfl (M_thrown hl0 hm) rfl (zgoodV3 LWl_good (fun w h => ul_m h) wq213 wq214 wq215 (ul_m wm37) wq216) rfl rfl rfl (by decide +kernel) rfl (by rw [hR]; exact ⟨Nat.le_of_ble_eq_true rfl, Nat.le_of_ble_eq_true rfl⟩) hm.1 (rmK hR (by omega) (by omega)) (Nat.le_of_ble_eq_true rfl) dL_law_1854 (fun v3 S3 h3 => ?_) (fun E3 S3 h3 => h3.elim)
    obtain ⟨rfl, hS3⟩ := h3
    subst hS3
    refine z_iload C rfl dL_law_1857 ?_
    refine z_icmp_eq 1864 C dL_law_1859 (by decide) (fun c9 => ?_) (fun c9 => absurd (rfl : (s39 D' k9) 39 0 = k9) c9)
    refine z_iload C rfl dL_law_1864 ?_
    refine z_if_ne 1881 C dL_law_1866 (by decide) (fun c8 => ?_) (fun c8 => ?_)
    · refine z_goto 3254 C dL_law_1881 (by decide) ?_
      exact kk _ _ _ _ _ _ _ _ _ _ _ (by omega) (by omega) hI' ⟨k9, hm⟩ hA'
    · obtain ⟨S0, hA0, hS1⟩ := hq c8
      subst hS1
      refine z_aload_n C rfl dL_law_1869 ?_
      refine z_iconst 0 (by decide) C dL_law_1870 ?_
      refine z_laload C hA'.2.1.1 (by rw [hA'.2.1.2]; exact vp01) dL_law_1871 ?_
      refine z_lng ((congrFun (mrg_in hF.2.2.2.2.1).2.2.2.2.2.1 _).trans (ptI_at o1 S0 z)) ?_
      refine z_iload C rfl dL_law_1872 ?_
      refine z_i2l C dL_law_1874 ?_
      refine z_lcmp C dL_law_1875 ?_
      refine z_if_eq 1881 C dL_law_1876 (by decide) (fun c6 => ?_) (fun c6 => absurd (lg_self _) c6)
      refine z_goto 3254 C dL_law_1881 (by decide) ?_
      exact kk _ _ _ _ _ _ _ _ _ _ _ (by omega) (by omega) hI' ⟨k9, hm⟩ hA'
  · obtain ⟨S2, hp, -⟩ := h2
    exact absurd hp (hno _ _)
set_option maxRecDepth 100000 in
set_option maxHeartbeats 1000000 in
theorem K_playsOf {X : zX} (hl0 : (xl X).stackTraces = false) {F G : Nat → Bool} {s o1 o2 M : Nat} {r : Nat → Nat} {V : Nat → Int32} {N : Nat} {S : ZM} {D : ZD} {J : Nat → Int64} {lk : ZL} {as L T : Nat → Nat} {k n i : Nat} {q6 q7 q8 : Option ZV} (C : zC X RL cL_law 9 LWl) (Nc : zNc (xs X)) (hR : xR X = room_1) (hF : LF F G s o1 o2 M r) (hI : LI D J lk as (rsOff F S) L T) (hM : iM D J S M r) (hA : LA F s o1 o2 V N S) (hXs : LX X s N V) (hi : i + 3 < N) (hN : N ≤ 2048) (hk : k + 100 ≤ 60000 ∧ n + 1000 ≤ 600000) (kk : LK X F G s o1 o2 M r V N L k n i) : zW X 9 k n S 1884 [some (zr (some s)), some (zr (some (L 0))), some (zr (some M)), some (zr (some o1)), some (zr (some o2)), some (zi (nI i)), q6, q7, q8] [] := by
  have hX := fun (Sm : ZM) (h : iM D J Sm M r) => X_playsOf hl0 hI h (V (i + 1))
  have hx6 := LI.k6 hI
  refine z_aload_n C rfl dL_law_1884 ?_
  refine z_aload_n C rfl dL_law_1885 ?_
  refine z_iload C rfl dL_law_1886 ?_
  refine z_iconst 1 (by decide) C dL_law_1888 ?_
  refine z_iadd C dL_law_1889 ?_
  refine z_sld C hXs (ld_in1 hi hN) dL_law_1890 ?_
  refine z_int (ld_v1 hi hN) ?_
  refine z_aload_n C rfl dL_law_1891 ?_
  refine z_callSH 3 [zr (some (L 0)), zi (V (i + 1)), zr (some o1)] C Nc (W_playsOf hl0 (V (i + 1)) hF.1.2.1 hA.2.1.1 hA.2.1.2 hx6 hA.2.2.2 (C_playsOf hl0 hI.1 (V (i + 1))) (hvO (hX S hM)) (fun E S1 hp => es_1 ((hX S hM).2 E S1 hp))) rfl (zgoodS3 LWl_good (fun w h => h) wq408 wq409 wq207 wq410) rfl rfl rfl (by decide +kernel) rfl (by rw [hR]; exact ⟨Nat.le_of_ble_eq_true rfl, Nat.le_of_ble_eq_true rfl⟩) (rmK hR (by omega) (by omega)) (Nat.le_of_ble_eq_true rfl) dL_law_1892 (fun v1 S1 h1 => ?_) (fun E1 S1 h1 => h1.elim)
  obtain ⟨k9, D1, J1, lk1, as1, T1, PM, rfl, hL, hM1, hmc, hPM, hno⟩ := LM.of2 hI hM hA hF (pOk_I o1) hX h1
  refine z_istore [_, _, _, _, _, _, _, _, _] C (by decide) rfl dL_law_1895 ?_
  refine z_aload_n C rfl dL_law_1897 ?_
  refine z_aload_n C rfl dL_law_1898 ?_
  refine z_iload C rfl dL_law_1899 ?_
  refine z_iconst 1 (by decide) C dL_law_1901 ?_
  refine z_iadd C dL_law_1902 ?_
  refine z_sld C hXs (ld_in1 hi hN) dL_law_1903 ?_
  refine z_int (ld_v1 hi hN) ?_
  refine z_callM 1 [zi (V (i + 1))] C rfl (hmc.off G) rfl (zgoodV3 LWl_good (fun w h => ul_m h) wq411 wq412 wq413 (ul_m wm37) wq414) rfl rfl rfl (by decide +kernel) rfl (by rw [hR]; exact ⟨Nat.le_of_ble_eq_true rfl, Nat.le_of_ble_eq_true rfl⟩) hM1.k (rmK hR (by omega) (by omega)) (Nat.le_of_ble_eq_true rfl) dL_law_1904 (fun v2 S2 h2 => ?_) (fun E2 S2 h2 => ?_)
  · obtain ⟨S2, hp, rfl, -⟩ := h2
    obtain ⟨z, rfl, hfl, hq⟩ := hPM _ _ hp
    obtain ⟨D', hm, hI', hA'⟩ := hL.back hF hfl
    refine z_istore [_, _, _, _, _, _, _, _, _] C (by decide) rfl dL_law_1907 ?_
    refine z_aload_n C rfl dL_law_1909 ?_
    refine z_callM 0 [] C rfl (M_thrown hl0 hm) rfl (zgoodV3 LWl_good (fun w h => ul_m h) wq213 wq214 wq215 (ul_m wm37) wq216) rfl rfl rfl (by decide +kernel) rfl (by rw [hR]; exact ⟨Nat.le_of_ble_eq_true rfl, Nat.le_of_ble_eq_true rfl⟩) hm.1 (rmK hR (by omega) (by omega)) (Nat.le_of_ble_eq_true rfl) dL_law_1910 (fun v3 S3 h3 => ?_) (fun E3 S3 h3 => h3.elim)
    obtain ⟨rfl, hS3⟩ := h3
    subst hS3
    refine z_iload C rfl dL_law_1913 ?_
    refine z_icmp_eq 1920 C dL_law_1915 (by decide) (fun c9 => ?_) (fun c9 => absurd (rfl : (s39 D' k9) 39 0 = k9) c9)
    refine z_iload C rfl dL_law_1920 ?_
    refine z_if_ne 1937 C dL_law_1922 (by decide) (fun c8 => ?_) (fun c8 => ?_)
    · refine z_goto 3254 C dL_law_1937 (by decide) ?_
      exact kk _ _ _ _ _ _ _ _ _ _ _ (by omega) (by omega) hI' ⟨k9, hm⟩ hA'
    · obtain ⟨S0, hA0, hS1⟩ := hq c8
      subst hS1
      refine z_aload_n C rfl dL_law_1925 ?_
      refine z_iconst 0 (by decide) C dL_law_1926 ?_
      refine z_laload C hA'.2.1.1 (by rw [hA'.2.1.2]; exact vp01) dL_law_1927 ?_
      refine z_lng ((congrFun (mrg_in hF.2.2.2.2.1).2.2.2.2.2.1 _).trans (ptI_at o1 S0 z)) ?_
      refine z_iload C rfl dL_law_1928 ?_
      refine z_i2l C dL_law_1930 ?_
      refine z_lcmp C dL_law_1931 ?_
      refine z_if_eq 1937 C dL_law_1932 (by decide) (fun c6 => ?_) (fun c6 => absurd (lg_self _) c6)
      refine z_goto 3254 C dL_law_1937 (by decide) ?_
      exact kk _ _ _ _ _ _ _ _ _ _ _ (by omega) (by omega) hI' ⟨k9, hm⟩ hA'
  · obtain ⟨S2, hp, -⟩ := h2
    exact absurd hp (hno _ _)
set_option maxRecDepth 100000 in
set_option maxHeartbeats 1000000 in
theorem K_playedLast {X : zX} (hl0 : (xl X).stackTraces = false) {F G : Nat → Bool} {s o1 o2 M : Nat} {r : Nat → Nat} {V : Nat → Int32} {N : Nat} {S : ZM} {D : ZD} {J : Nat → Int64} {lk : ZL} {as L T : Nat → Nat} {k n i : Nat} {q6 q7 q8 : Option ZV} (C : zC X RL cL_law 9 LWl) (Nc : zNc (xs X)) (hR : xR X = room_1) (hF : LF F G s o1 o2 M r) (hI : LI D J lk as (rsOff F S) L T) (hM : iM D J S M r) (hA : LA F s o1 o2 V N S) (hXs : LX X s N V) (hi : i + 3 < N) (hN : N ≤ 2048) (hk : k + 100 ≤ 60000 ∧ n + 1000 ≤ 600000) (kk : LK X F G s o1 o2 M r V N L k n i) : zW X 9 k n S 1940 [some (zr (some s)), some (zr (some (L 0))), some (zr (some M)), some (zr (some o1)), some (zr (some o2)), some (zi (nI i)), q6, q7, q8] [] := by
  have hX := fun (Sm : ZM) (h : iM D J Sm M r) => X_playedLast hl0 hI h (V (i + 1))
  have hx6 := LI.k6 hI
  refine z_aload_n C rfl dL_law_1940 ?_
  refine z_aload_n C rfl dL_law_1941 ?_
  refine z_iload C rfl dL_law_1942 ?_
  refine z_iconst 1 (by decide) C dL_law_1944 ?_
  refine z_iadd C dL_law_1945 ?_
  refine z_sld C hXs (ld_in1 hi hN) dL_law_1946 ?_
  refine z_int (ld_v1 hi hN) ?_
  refine z_aload_n C rfl dL_law_1947 ?_
  refine z_callSH 3 [zr (some (L 0)), zi (V (i + 1)), zr (some o1)] C Nc (W_playedLast hl0 (V (i + 1)) hF.1.2.1 hA.2.1.1 hA.2.1.2 hx6 hA.2.2.2 (C_playedLast hl0 hI.1 (V (i + 1))) (hvO (hX S hM)) (fun E S1 hp => es_2 ((hX S hM).2 E S1 hp))) rfl (zgoodS3 LWl_good (fun w h => h) wq415 wq416 wq207 wq417) rfl rfl rfl (by decide +kernel) rfl (by rw [hR]; exact ⟨Nat.le_of_ble_eq_true rfl, Nat.le_of_ble_eq_true rfl⟩) (rmK hR (by omega) (by omega)) (Nat.le_of_ble_eq_true rfl) dL_law_1948 (fun v1 S1 h1 => ?_) (fun E1 S1 h1 => h1.elim)
  obtain ⟨k9, D1, J1, lk1, as1, T1, PM, rfl, hL, hM1, hmc, hPM, hno⟩ := LM.of2 hI hM hA hF (pOk_I o1) hX h1
  refine z_istore [_, _, _, _, _, _, _, _, _] C (by decide) rfl dL_law_1951 ?_
  refine z_aload_n C rfl dL_law_1953 ?_
  refine z_aload_n C rfl dL_law_1954 ?_
  refine z_iload C rfl dL_law_1955 ?_
  refine z_iconst 1 (by decide) C dL_law_1957 ?_
  refine z_iadd C dL_law_1958 ?_
  refine z_sld C hXs (ld_in1 hi hN) dL_law_1959 ?_
  refine z_int (ld_v1 hi hN) ?_
  refine z_callM 1 [zi (V (i + 1))] C rfl (hmc.off G) rfl (zgoodV3 LWl_good (fun w h => ul_m h) wq418 wq419 wq420 (ul_m wm37) wq421) rfl rfl rfl (by decide +kernel) rfl (by rw [hR]; exact ⟨Nat.le_of_ble_eq_true rfl, Nat.le_of_ble_eq_true rfl⟩) hM1.k (rmK hR (by omega) (by omega)) (Nat.le_of_ble_eq_true rfl) dL_law_1960 (fun v2 S2 h2 => ?_) (fun E2 S2 h2 => ?_)
  · obtain ⟨S2, hp, rfl, -⟩ := h2
    obtain ⟨z, rfl, hfl, hq⟩ := hPM _ _ hp
    obtain ⟨D', hm, hI', hA'⟩ := hL.back hF hfl
    refine z_istore [_, _, _, _, _, _, _, _, _] C (by decide) rfl dL_law_1963 ?_
    refine z_aload_n C rfl dL_law_1965 ?_
    refine z_callM 0 [] C rfl (M_thrown hl0 hm) rfl (zgoodV3 LWl_good (fun w h => ul_m h) wq213 wq214 wq215 (ul_m wm37) wq216) rfl rfl rfl (by decide +kernel) rfl (by rw [hR]; exact ⟨Nat.le_of_ble_eq_true rfl, Nat.le_of_ble_eq_true rfl⟩) hm.1 (rmK hR (by omega) (by omega)) (Nat.le_of_ble_eq_true rfl) dL_law_1966 (fun v3 S3 h3 => ?_) (fun E3 S3 h3 => h3.elim)
    obtain ⟨rfl, hS3⟩ := h3
    subst hS3
    refine z_iload C rfl dL_law_1969 ?_
    refine z_icmp_eq 1976 C dL_law_1971 (by decide) (fun c9 => ?_) (fun c9 => absurd (rfl : (s39 D' k9) 39 0 = k9) c9)
    refine z_iload C rfl dL_law_1976 ?_
    refine z_if_ne 1993 C dL_law_1978 (by decide) (fun c8 => ?_) (fun c8 => ?_)
    · refine z_goto 3254 C dL_law_1993 (by decide) ?_
      exact kk _ _ _ _ _ _ _ _ _ _ _ (by omega) (by omega) hI' ⟨k9, hm⟩ hA'
    · obtain ⟨S0, hA0, hS1⟩ := hq c8
      subst hS1
      refine z_aload_n C rfl dL_law_1981 ?_
      refine z_iconst 0 (by decide) C dL_law_1982 ?_
      refine z_laload C hA'.2.1.1 (by rw [hA'.2.1.2]; exact vp01) dL_law_1983 ?_
      refine z_lng ((congrFun (mrg_in hF.2.2.2.2.1).2.2.2.2.2.1 _).trans (ptI_at o1 S0 z)) ?_
      refine z_iload C rfl dL_law_1984 ?_
      refine z_i2l C dL_law_1986 ?_
      refine z_lcmp C dL_law_1987 ?_
      refine z_if_eq 1993 C dL_law_1988 (by decide) (fun c6 => ?_) (fun c6 => absurd (lg_self _) c6)
      refine z_goto 3254 C dL_law_1993 (by decide) ?_
      exact kk _ _ _ _ _ _ _ _ _ _ _ (by omega) (by omega) hI' ⟨k9, hm⟩ hA'
  · obtain ⟨S2, hp, -⟩ := h2
    exact absurd hp (hno _ _)
set_option maxRecDepth 100000 in
set_option maxHeartbeats 1000000 in
theorem K_tagBits {X : zX} (hl0 : (xl X).stackTraces = false) {F G : Nat → Bool} {s o1 o2 M : Nat} {r : Nat → Nat} {V : Nat → Int32} {N : Nat} {S : ZM} {D : ZD} {J : Nat → Int64} {lk : ZL} {as L T : Nat → Nat} {k n i : Nat} {q6 q7 q8 : Option ZV} (C : zC X RL cL_law 9 LWl) (Nc : zNc (xs X)) (hR : xR X = room_1) (hF : LF F G s o1 o2 M r) (hI : LI D J lk as (rsOff F S) L T) (hM : iM D J S M r) (hA : LA F s o1 o2 V N S) (hXs : LX X s N V) (hi : i + 3 < N) (hN : N ≤ 2048) (hk : k + 100 ≤ 60000 ∧ n + 1000 ≤ 600000) (kk : LK X F G s o1 o2 M r V N L k n i) : zW X 9 k n S 1996 [some (zr (some s)), some (zr (some (L 0))), some (zr (some M)), some (zr (some o1)), some (zr (some o2)), some (zi (nI i)), q6, q7, q8] [] := by
  have hX := fun (Sm : ZM) (h : iM D J Sm M r) => X_tagBits hl0 hI h (V (i + 1))
  have hx6 := LI.k6 hI
  refine z_aload_n C rfl dL_law_1996 ?_
  refine z_aload_n C rfl dL_law_1997 ?_
  refine z_iload C rfl dL_law_1998 ?_
  refine z_iconst 1 (by decide) C dL_law_2000 ?_
  refine z_iadd C dL_law_2001 ?_
  refine z_sld C hXs (ld_in1 hi hN) dL_law_2002 ?_
  refine z_int (ld_v1 hi hN) ?_
  refine z_aload_n C rfl dL_law_2003 ?_
  refine z_callSH 3 [zr (some (L 0)), zi (V (i + 1)), zr (some o1)] C Nc (W_tagBits hl0 (V (i + 1)) hF.1.2.1 hA.2.1.1 hA.2.1.2 hx6 hA.2.2.2 (C_tagBits hl0 hI.1 (V (i + 1))) (hvO (hX S hM)) (fun E S1 hp => es_1 ((hX S hM).2 E S1 hp))) rfl (zgoodS3 LWl_good (fun w h => h) wq422 wq423 wq207 wq424) rfl rfl rfl (by decide +kernel) rfl (by rw [hR]; exact ⟨Nat.le_of_ble_eq_true rfl, Nat.le_of_ble_eq_true rfl⟩) (rmK hR (by omega) (by omega)) (Nat.le_of_ble_eq_true rfl) dL_law_2004 (fun v1 S1 h1 => ?_) (fun E1 S1 h1 => h1.elim)
  obtain ⟨k9, D1, J1, lk1, as1, T1, PM, rfl, hL, hM1, hmc, hPM, hno⟩ := LM.of2 hI hM hA hF (pOk_I o1) hX h1
  refine z_istore [_, _, _, _, _, _, _, _, _] C (by decide) rfl dL_law_2007 ?_
  refine z_aload_n C rfl dL_law_2009 ?_
  refine z_aload_n C rfl dL_law_2010 ?_
  refine z_iload C rfl dL_law_2011 ?_
  refine z_iconst 1 (by decide) C dL_law_2013 ?_
  refine z_iadd C dL_law_2014 ?_
  refine z_sld C hXs (ld_in1 hi hN) dL_law_2015 ?_
  refine z_int (ld_v1 hi hN) ?_
  refine z_callM 1 [zi (V (i + 1))] C rfl (hmc.off G) rfl (zgoodV3 LWl_good (fun w h => ul_m h) wq425 wq426 wq427 (ul_m wm37) wq428) rfl rfl rfl (by decide +kernel) rfl (by rw [hR]; exact ⟨Nat.le_of_ble_eq_true rfl, Nat.le_of_ble_eq_true rfl⟩) hM1.k (rmK hR (by omega) (by omega)) (Nat.le_of_ble_eq_true rfl) dL_law_2016 (fun v2 S2 h2 => ?_) (fun E2 S2 h2 => ?_)
  · obtain ⟨S2, hp, rfl, -⟩ := h2
    obtain ⟨z, rfl, hfl, hq⟩ := hPM _ _ hp
    obtain ⟨D', hm, hI', hA'⟩ := hL.back hF hfl
    refine z_istore [_, _, _, _, _, _, _, _, _] C (by decide) rfl dL_law_2019 ?_
    refine z_aload_n C rfl dL_law_2021 ?_
    refine z_callM 0 [] C rfl (M_thrown hl0 hm) rfl (zgoodV3 LWl_good (fun w h => ul_m h) wq213 wq214 wq215 (ul_m wm37) wq216) rfl rfl rfl (by decide +kernel) rfl (by rw [hR]; exact ⟨Nat.le_of_ble_eq_true rfl, Nat.le_of_ble_eq_true rfl⟩) hm.1 (rmK hR (by omega) (by omega)) (Nat.le_of_ble_eq_true rfl) dL_law_2022 (fun v3 S3 h3 => ?_) (fun E3 S3 h3 => h3.elim)
    obtain ⟨rfl, hS3⟩ := h3
    subst hS3
    refine z_iload C rfl dL_law_2025 ?_
    refine z_icmp_eq 2032 C dL_law_2027 (by decide) (fun c9 => ?_) (fun c9 => absurd (rfl : (s39 D' k9) 39 0 = k9) c9)
    refine z_iload C rfl dL_law_2032 ?_
    refine z_if_ne 2049 C dL_law_2034 (by decide) (fun c8 => ?_) (fun c8 => ?_)
    · refine z_goto 3254 C dL_law_2049 (by decide) ?_
      exact kk _ _ _ _ _ _ _ _ _ _ _ (by omega) (by omega) hI' ⟨k9, hm⟩ hA'
    · obtain ⟨S0, hA0, hS1⟩ := hq c8
      subst hS1
      refine z_aload_n C rfl dL_law_2037 ?_
      refine z_iconst 0 (by decide) C dL_law_2038 ?_
      refine z_laload C hA'.2.1.1 (by rw [hA'.2.1.2]; exact vp01) dL_law_2039 ?_
      refine z_lng ((congrFun (mrg_in hF.2.2.2.2.1).2.2.2.2.2.1 _).trans (ptI_at o1 S0 z)) ?_
      refine z_iload C rfl dL_law_2040 ?_
      refine z_i2l C dL_law_2042 ?_
      refine z_lcmp C dL_law_2043 ?_
      refine z_if_eq 2049 C dL_law_2044 (by decide) (fun c6 => ?_) (fun c6 => absurd (lg_self _) c6)
      refine z_goto 3254 C dL_law_2049 (by decide) ?_
      exact kk _ _ _ _ _ _ _ _ _ _ _ (by omega) (by omega) hI' ⟨k9, hm⟩ hA'
  · obtain ⟨S2, hp, -⟩ := h2
    exact absurd hp (hno _ _)
set_option maxRecDepth 100000 in
set_option maxHeartbeats 1000000 in
theorem K_nameLength {X : zX} (hl0 : (xl X).stackTraces = false) {F G : Nat → Bool} {s o1 o2 M : Nat} {r : Nat → Nat} {V : Nat → Int32} {N : Nat} {S : ZM} {D : ZD} {J : Nat → Int64} {lk : ZL} {as L T : Nat → Nat} {k n i : Nat} {q6 q7 q8 : Option ZV} (C : zC X RL cL_law 9 LWl) (Nc : zNc (xs X)) (hR : xR X = room_1) (hF : LF F G s o1 o2 M r) (hI : LI D J lk as (rsOff F S) L T) (hM : iM D J S M r) (hA : LA F s o1 o2 V N S) (hXs : LX X s N V) (hi : i + 3 < N) (hN : N ≤ 2048) (hk : k + 100 ≤ 60000 ∧ n + 1000 ≤ 600000) (kk : LK X F G s o1 o2 M r V N L k n i) : zW X 9 k n S 2052 [some (zr (some s)), some (zr (some (L 0))), some (zr (some M)), some (zr (some o1)), some (zr (some o2)), some (zi (nI i)), q6, q7, q8] [] := by
  have hX := fun (Sm : ZM) (h : iM D J Sm M r) => X_nameLength hl0 hI h (V (i + 1))
  have hx6 := LI.k6 hI
  refine z_aload_n C rfl dL_law_2052 ?_
  refine z_aload_n C rfl dL_law_2053 ?_
  refine z_iload C rfl dL_law_2054 ?_
  refine z_iconst 1 (by decide) C dL_law_2056 ?_
  refine z_iadd C dL_law_2057 ?_
  refine z_sld C hXs (ld_in1 hi hN) dL_law_2058 ?_
  refine z_int (ld_v1 hi hN) ?_
  refine z_aload_n C rfl dL_law_2059 ?_
  refine z_callSH 3 [zr (some (L 0)), zi (V (i + 1)), zr (some o1)] C Nc (W_nameLength hl0 (V (i + 1)) hF.1.2.1 hA.2.1.1 hA.2.1.2 hx6 hA.2.2.2 (C_nameLength hl0 hI.1 (V (i + 1))) (hvO (hX S hM)) (fun E S1 hp => es_1 ((hX S hM).2 E S1 hp))) rfl (zgoodS3 LWl_good (fun w h => h) wq429 wq430 wq207 wq431) rfl rfl rfl (by decide +kernel) rfl (by rw [hR]; exact ⟨Nat.le_of_ble_eq_true rfl, Nat.le_of_ble_eq_true rfl⟩) (rmK hR (by omega) (by omega)) (Nat.le_of_ble_eq_true rfl) dL_law_2060 (fun v1 S1 h1 => ?_) (fun E1 S1 h1 => h1.elim)
  obtain ⟨k9, D1, J1, lk1, as1, T1, PM, rfl, hL, hM1, hmc, hPM, hno⟩ := LM.of2 hI hM hA hF (pOk_I o1) hX h1
  refine z_istore [_, _, _, _, _, _, _, _, _] C (by decide) rfl dL_law_2063 ?_
  refine z_aload_n C rfl dL_law_2065 ?_
  refine z_aload_n C rfl dL_law_2066 ?_
  refine z_iload C rfl dL_law_2067 ?_
  refine z_iconst 1 (by decide) C dL_law_2069 ?_
  refine z_iadd C dL_law_2070 ?_
  refine z_sld C hXs (ld_in1 hi hN) dL_law_2071 ?_
  refine z_int (ld_v1 hi hN) ?_
  refine z_callM 1 [zi (V (i + 1))] C rfl (hmc.off G) rfl (zgoodV3 LWl_good (fun w h => ul_m h) wq432 wq433 wq434 (ul_m wm37) wq435) rfl rfl rfl (by decide +kernel) rfl (by rw [hR]; exact ⟨Nat.le_of_ble_eq_true rfl, Nat.le_of_ble_eq_true rfl⟩) hM1.k (rmK hR (by omega) (by omega)) (Nat.le_of_ble_eq_true rfl) dL_law_2072 (fun v2 S2 h2 => ?_) (fun E2 S2 h2 => ?_)
  · obtain ⟨S2, hp, rfl, -⟩ := h2
    obtain ⟨z, rfl, hfl, hq⟩ := hPM _ _ hp
    obtain ⟨D', hm, hI', hA'⟩ := hL.back hF hfl
    refine z_istore [_, _, _, _, _, _, _, _, _] C (by decide) rfl dL_law_2075 ?_
    refine z_aload_n C rfl dL_law_2077 ?_
    refine z_callM 0 [] C rfl (M_thrown hl0 hm) rfl (zgoodV3 LWl_good (fun w h => ul_m h) wq213 wq214 wq215 (ul_m wm37) wq216) rfl rfl rfl (by decide +kernel) rfl (by rw [hR]; exact ⟨Nat.le_of_ble_eq_true rfl, Nat.le_of_ble_eq_true rfl⟩) hm.1 (rmK hR (by omega) (by omega)) (Nat.le_of_ble_eq_true rfl) dL_law_2078 (fun v3 S3 h3 => ?_) (fun E3 S3 h3 => h3.elim)
    obtain ⟨rfl, hS3⟩ := h3
    subst hS3
    refine z_iload C rfl dL_law_2081 ?_
    refine z_icmp_eq 2088 C dL_law_2083 (by decide) (fun c9 => ?_) (fun c9 => absurd (rfl : (s39 D' k9) 39 0 = k9) c9)
    refine z_iload C rfl dL_law_2088 ?_
    refine z_if_ne 2105 C dL_law_2090 (by decide) (fun c8 => ?_) (fun c8 => ?_)
    · refine z_goto 3254 C dL_law_2105 (by decide) ?_
      exact kk _ _ _ _ _ _ _ _ _ _ _ (by omega) (by omega) hI' ⟨k9, hm⟩ hA'
    · obtain ⟨S0, hA0, hS1⟩ := hq c8
      subst hS1
      refine z_aload_n C rfl dL_law_2093 ?_
      refine z_iconst 0 (by decide) C dL_law_2094 ?_
      refine z_laload C hA'.2.1.1 (by rw [hA'.2.1.2]; exact vp01) dL_law_2095 ?_
      refine z_lng ((congrFun (mrg_in hF.2.2.2.2.1).2.2.2.2.2.1 _).trans (ptI_at o1 S0 z)) ?_
      refine z_iload C rfl dL_law_2096 ?_
      refine z_i2l C dL_law_2098 ?_
      refine z_lcmp C dL_law_2099 ?_
      refine z_if_eq 2105 C dL_law_2100 (by decide) (fun c6 => ?_) (fun c6 => absurd (lg_self _) c6)
      refine z_goto 3254 C dL_law_2105 (by decide) ?_
      exact kk _ _ _ _ _ _ _ _ _ _ _ (by omega) (by omega) hI' ⟨k9, hm⟩ hA'
  · obtain ⟨S2, hp, -⟩ := h2
    exact absurd hp (hno _ _)
set_option maxRecDepth 100000 in
set_option maxHeartbeats 1000000 in
theorem K_nameAt {X : zX} (hl0 : (xl X).stackTraces = false) {F G : Nat → Bool} {s o1 o2 M : Nat} {r : Nat → Nat} {V : Nat → Int32} {N : Nat} {S : ZM} {D : ZD} {J : Nat → Int64} {lk : ZL} {as L T : Nat → Nat} {k n i : Nat} {q6 q7 q8 : Option ZV} (C : zC X RL cL_law 9 LWl) (Nc : zNc (xs X)) (hR : xR X = room_1) (hF : LF F G s o1 o2 M r) (hI : LI D J lk as (rsOff F S) L T) (hM : iM D J S M r) (hA : LA F s o1 o2 V N S) (hXs : LX X s N V) (hi : i + 3 < N) (hN : N ≤ 2048) (hk : k + 100 ≤ 60000 ∧ n + 1000 ≤ 600000) (kk : LK X F G s o1 o2 M r V N L k n i) : zW X 9 k n S 2108 [some (zr (some s)), some (zr (some (L 0))), some (zr (some M)), some (zr (some o1)), some (zr (some o2)), some (zi (nI i)), q6, q7, q8] [] := by
  have hX := fun (Sm : ZM) (h : iM D J Sm M r) => X_nameAt hl0 hI h (V (i + 1)) (V (i + 2))
  have hx6 := LI.k6 hI
  refine z_aload_n C rfl dL_law_2108 ?_
  refine z_aload_n C rfl dL_law_2109 ?_
  refine z_iload C rfl dL_law_2110 ?_
  refine z_iconst 1 (by decide) C dL_law_2112 ?_
  refine z_iadd C dL_law_2113 ?_
  refine z_sld C hXs (ld_in1 hi hN) dL_law_2114 ?_
  refine z_int (ld_v1 hi hN) ?_
  refine z_aload_n C rfl dL_law_2115 ?_
  refine z_iload C rfl dL_law_2116 ?_
  refine z_iconst 2 (by decide) C dL_law_2118 ?_
  refine z_iadd C dL_law_2119 ?_
  refine z_sld C hXs (ld_in2 hi hN) dL_law_2120 ?_
  refine z_int (ld_v2 hi hN) ?_
  refine z_aload_n C rfl dL_law_2121 ?_
  refine z_callSH 4 [zr (some (L 0)), zi (V (i + 1)), zi (V (i + 2)), zr (some o1)] C Nc (W_nameAt hl0 (V (i + 1)) (V (i + 2)) hF.1.2.1 hA.2.1.1 hA.2.1.2 hx6 hA.2.2.2 (C_nameAt hl0 hI.1 (V (i + 1)) (V (i + 2))) (hvO (hX S hM)) (fun E S1 hp => es_2 ((hX S hM).2 E S1 hp))) rfl (zgoodS3 LWl_good (fun w h => h) wq436 wq437 wq207 wq438) rfl rfl rfl (by decide +kernel) rfl (by rw [hR]; exact ⟨Nat.le_of_ble_eq_true rfl, Nat.le_of_ble_eq_true rfl⟩) (rmK hR (by omega) (by omega)) (Nat.le_of_ble_eq_true rfl) dL_law_2122 (fun v1 S1 h1 => ?_) (fun E1 S1 h1 => h1.elim)
  obtain ⟨k9, D1, J1, lk1, as1, T1, PM, rfl, hL, hM1, hmc, hPM, hno⟩ := LM.of2 hI hM hA hF (pOk_I o1) hX h1
  refine z_istore [_, _, _, _, _, _, _, _, _] C (by decide) rfl dL_law_2125 ?_
  refine z_aload_n C rfl dL_law_2127 ?_
  refine z_aload_n C rfl dL_law_2128 ?_
  refine z_iload C rfl dL_law_2129 ?_
  refine z_iconst 1 (by decide) C dL_law_2131 ?_
  refine z_iadd C dL_law_2132 ?_
  refine z_sld C hXs (ld_in1 hi hN) dL_law_2133 ?_
  refine z_int (ld_v1 hi hN) ?_
  refine z_aload_n C rfl dL_law_2134 ?_
  refine z_iload C rfl dL_law_2135 ?_
  refine z_iconst 2 (by decide) C dL_law_2137 ?_
  refine z_iadd C dL_law_2138 ?_
  refine z_sld C hXs (ld_in2 hi hN) dL_law_2139 ?_
  refine z_int (ld_v2 hi hN) ?_
  refine z_callM 2 [zi (V (i + 1)), zi (V (i + 2))] C rfl (hmc.off G) rfl (zgoodV3 LWl_good (fun w h => ul_m h) wq439 wq440 wq441 (ul_m wm37) wq442) rfl rfl rfl (by decide +kernel) rfl (by rw [hR]; exact ⟨Nat.le_of_ble_eq_true rfl, Nat.le_of_ble_eq_true rfl⟩) hM1.k (rmK hR (by omega) (by omega)) (Nat.le_of_ble_eq_true rfl) dL_law_2140 (fun v2 S2 h2 => ?_) (fun E2 S2 h2 => ?_)
  · obtain ⟨S2, hp, rfl, -⟩ := h2
    obtain ⟨z, rfl, hfl, hq⟩ := hPM _ _ hp
    obtain ⟨D', hm, hI', hA'⟩ := hL.back hF hfl
    refine z_istore [_, _, _, _, _, _, _, _, _] C (by decide) rfl dL_law_2143 ?_
    refine z_aload_n C rfl dL_law_2145 ?_
    refine z_callM 0 [] C rfl (M_thrown hl0 hm) rfl (zgoodV3 LWl_good (fun w h => ul_m h) wq213 wq214 wq215 (ul_m wm37) wq216) rfl rfl rfl (by decide +kernel) rfl (by rw [hR]; exact ⟨Nat.le_of_ble_eq_true rfl, Nat.le_of_ble_eq_true rfl⟩) hm.1 (rmK hR (by omega) (by omega)) (Nat.le_of_ble_eq_true rfl) dL_law_2146 (fun v3 S3 h3 => ?_) (fun E3 S3 h3 => h3.elim)
    obtain ⟨rfl, hS3⟩ := h3
    subst hS3
    refine z_iload C rfl dL_law_2149 ?_
    refine z_icmp_eq 2156 C dL_law_2151 (by decide) (fun c9 => ?_) (fun c9 => absurd (rfl : (s39 D' k9) 39 0 = k9) c9)
    refine z_iload C rfl dL_law_2156 ?_
    refine z_if_ne 2173 C dL_law_2158 (by decide) (fun c8 => ?_) (fun c8 => ?_)
    · refine z_goto 3254 C dL_law_2173 (by decide) ?_
      exact kk _ _ _ _ _ _ _ _ _ _ _ (by omega) (by omega) hI' ⟨k9, hm⟩ hA'
    · obtain ⟨S0, hA0, hS1⟩ := hq c8
      subst hS1
      refine z_aload_n C rfl dL_law_2161 ?_
      refine z_iconst 0 (by decide) C dL_law_2162 ?_
      refine z_laload C hA'.2.1.1 (by rw [hA'.2.1.2]; exact vp01) dL_law_2163 ?_
      refine z_lng ((congrFun (mrg_in hF.2.2.2.2.1).2.2.2.2.2.1 _).trans (ptI_at o1 S0 z)) ?_
      refine z_iload C rfl dL_law_2164 ?_
      refine z_i2l C dL_law_2166 ?_
      refine z_lcmp C dL_law_2167 ?_
      refine z_if_eq 2173 C dL_law_2168 (by decide) (fun c6 => ?_) (fun c6 => absurd (lg_self _) c6)
      refine z_goto 3254 C dL_law_2173 (by decide) ?_
      exact kk _ _ _ _ _ _ _ _ _ _ _ (by omega) (by omega) hI' ⟨k9, hm⟩ hA'
  · obtain ⟨S2, hp, -⟩ := h2
    exact absurd hp (hno _ _)
set_option maxRecDepth 100000 in
set_option maxHeartbeats 1000000 in
theorem K_distance {X : zX} (hl0 : (xl X).stackTraces = false) {F G : Nat → Bool} {s o1 o2 M : Nat} {r : Nat → Nat} {V : Nat → Int32} {N : Nat} {S : ZM} {D : ZD} {J : Nat → Int64} {lk : ZL} {as L T : Nat → Nat} {k n i : Nat} {q6 q7 q8 : Option ZV} (C : zC X RL cL_law 9 LWl) (Nc : zNc (xs X)) (hR : xR X = room_1) (hF : LF F G s o1 o2 M r) (hI : LI D J lk as (rsOff F S) L T) (hM : iM D J S M r) (hA : LA F s o1 o2 V N S) (hXs : LX X s N V) (hi : i + 3 < N) (hN : N ≤ 2048) (hk : k + 100 ≤ 60000 ∧ n + 1000 ≤ 600000) (kk : LK X F G s o1 o2 M r V N L k n i) : zW X 9 k n S 2176 [some (zr (some s)), some (zr (some (L 0))), some (zr (some M)), some (zr (some o1)), some (zr (some o2)), some (zi (nI i)), q6, q7, q8] [] := by
  have hX := fun (Sm : ZM) (h : iM D J Sm M r) => X_distance hl0 hI h (V (i + 1)) (V (i + 2))
  have hx6 := LI.k6 hI
  refine z_aload_n C rfl dL_law_2176 ?_
  refine z_aload_n C rfl dL_law_2177 ?_
  refine z_iload C rfl dL_law_2178 ?_
  refine z_iconst 1 (by decide) C dL_law_2180 ?_
  refine z_iadd C dL_law_2181 ?_
  refine z_sld C hXs (ld_in1 hi hN) dL_law_2182 ?_
  refine z_int (ld_v1 hi hN) ?_
  refine z_aload_n C rfl dL_law_2183 ?_
  refine z_iload C rfl dL_law_2184 ?_
  refine z_iconst 2 (by decide) C dL_law_2186 ?_
  refine z_iadd C dL_law_2187 ?_
  refine z_sld C hXs (ld_in2 hi hN) dL_law_2188 ?_
  refine z_int (ld_v2 hi hN) ?_
  refine z_aload_n C rfl dL_law_2189 ?_
  refine z_callSH 4 [zr (some (L 0)), zi (V (i + 1)), zi (V (i + 2)), zr (some o1)] C Nc (W_distance hl0 (V (i + 1)) (V (i + 2)) hF.1.2.1 hA.2.1.1 hA.2.1.2 hx6 hA.2.2.2 (C_distance hl0 hI.1 (V (i + 1)) (V (i + 2))) (hvO (hX S hM)) (fun E S1 hp => es_1 ((hX S hM).2 E S1 hp))) rfl (zgoodS3 LWl_good (fun w h => h) wq443 wq444 wq207 wq445) rfl rfl rfl (by decide +kernel) rfl (by rw [hR]; exact ⟨Nat.le_of_ble_eq_true rfl, Nat.le_of_ble_eq_true rfl⟩) (rmK hR (by omega) (by omega)) (Nat.le_of_ble_eq_true rfl) dL_law_2190 (fun v1 S1 h1 => ?_) (fun E1 S1 h1 => h1.elim)
  obtain ⟨k9, D1, J1, lk1, as1, T1, PM, rfl, hL, hM1, hmc, hPM, hno⟩ := LM.of2 hI hM hA hF (pOk_I o1) hX h1
  refine z_istore [_, _, _, _, _, _, _, _, _] C (by decide) rfl dL_law_2193 ?_
  refine z_aload_n C rfl dL_law_2195 ?_
  refine z_aload_n C rfl dL_law_2196 ?_
  refine z_iload C rfl dL_law_2197 ?_
  refine z_iconst 1 (by decide) C dL_law_2199 ?_
  refine z_iadd C dL_law_2200 ?_
  refine z_sld C hXs (ld_in1 hi hN) dL_law_2201 ?_
  refine z_int (ld_v1 hi hN) ?_
  refine z_aload_n C rfl dL_law_2202 ?_
  refine z_iload C rfl dL_law_2203 ?_
  refine z_iconst 2 (by decide) C dL_law_2205 ?_
  refine z_iadd C dL_law_2206 ?_
  refine z_sld C hXs (ld_in2 hi hN) dL_law_2207 ?_
  refine z_int (ld_v2 hi hN) ?_
  refine z_callM 2 [zi (V (i + 1)), zi (V (i + 2))] C rfl (hmc.off G) rfl (zgoodV3 LWl_good (fun w h => ul_m h) wq446 (ul_m wm123) (ul_m wm124) (ul_m wm37) (ul_m wm125)) rfl rfl rfl (by decide +kernel) rfl (by rw [hR]; exact ⟨Nat.le_of_ble_eq_true rfl, Nat.le_of_ble_eq_true rfl⟩) hM1.k (rmK hR (by omega) (by omega)) (Nat.le_of_ble_eq_true rfl) dL_law_2208 (fun v2 S2 h2 => ?_) (fun E2 S2 h2 => ?_)
  · obtain ⟨S2, hp, rfl, -⟩ := h2
    obtain ⟨z, rfl, hfl, hq⟩ := hPM _ _ hp
    obtain ⟨D', hm, hI', hA'⟩ := hL.back hF hfl
    refine z_istore [_, _, _, _, _, _, _, _, _] C (by decide) rfl dL_law_2211 ?_
    refine z_aload_n C rfl dL_law_2213 ?_
    refine z_callM 0 [] C rfl (M_thrown hl0 hm) rfl (zgoodV3 LWl_good (fun w h => ul_m h) wq213 wq214 wq215 (ul_m wm37) wq216) rfl rfl rfl (by decide +kernel) rfl (by rw [hR]; exact ⟨Nat.le_of_ble_eq_true rfl, Nat.le_of_ble_eq_true rfl⟩) hm.1 (rmK hR (by omega) (by omega)) (Nat.le_of_ble_eq_true rfl) dL_law_2214 (fun v3 S3 h3 => ?_) (fun E3 S3 h3 => h3.elim)
    obtain ⟨rfl, hS3⟩ := h3
    subst hS3
    refine z_iload C rfl dL_law_2217 ?_
    refine z_icmp_eq 2224 C dL_law_2219 (by decide) (fun c9 => ?_) (fun c9 => absurd (rfl : (s39 D' k9) 39 0 = k9) c9)
    refine z_iload C rfl dL_law_2224 ?_
    refine z_if_ne 2241 C dL_law_2226 (by decide) (fun c8 => ?_) (fun c8 => ?_)
    · refine z_goto 3254 C dL_law_2241 (by decide) ?_
      exact kk _ _ _ _ _ _ _ _ _ _ _ (by omega) (by omega) hI' ⟨k9, hm⟩ hA'
    · obtain ⟨S0, hA0, hS1⟩ := hq c8
      subst hS1
      refine z_aload_n C rfl dL_law_2229 ?_
      refine z_iconst 0 (by decide) C dL_law_2230 ?_
      refine z_laload C hA'.2.1.1 (by rw [hA'.2.1.2]; exact vp01) dL_law_2231 ?_
      refine z_lng ((congrFun (mrg_in hF.2.2.2.2.1).2.2.2.2.2.1 _).trans (ptI_at o1 S0 z)) ?_
      refine z_iload C rfl dL_law_2232 ?_
      refine z_i2l C dL_law_2234 ?_
      refine z_lcmp C dL_law_2235 ?_
      refine z_if_eq 2241 C dL_law_2236 (by decide) (fun c6 => ?_) (fun c6 => absurd (lg_self _) c6)
      refine z_goto 3254 C dL_law_2241 (by decide) ?_
      exact kk _ _ _ _ _ _ _ _ _ _ _ (by omega) (by omega) hI' ⟨k9, hm⟩ hA'
  · obtain ⟨S2, hp, -⟩ := h2
    exact absurd hp (hno _ _)
set_option maxRecDepth 100000 in
set_option maxHeartbeats 1000000 in
theorem K_distanceByTrying {X : zX} (hl0 : (xl X).stackTraces = false) {F G : Nat → Bool} {s o1 o2 M : Nat} {r : Nat → Nat} {V : Nat → Int32} {N : Nat} {S : ZM} {D : ZD} {J : Nat → Int64} {lk : ZL} {as L T : Nat → Nat} {k n i : Nat} {q6 q7 q8 : Option ZV} (C : zC X RL cL_law 9 LWl) (Nc : zNc (xs X)) (hR : xR X = room_1) (hF : LF F G s o1 o2 M r) (hI : LI D J lk as (rsOff F S) L T) (hM : iM D J S M r) (hA : LA F s o1 o2 V N S) (hXs : LX X s N V) (hi : i + 3 < N) (hN : N ≤ 2048) (hk : k + 100 ≤ 60000 ∧ n + 1000 ≤ 600000) (kk : LK X F G s o1 o2 M r V N L k n i) : zW X 9 k n S 2244 [some (zr (some s)), some (zr (some (L 0))), some (zr (some M)), some (zr (some o1)), some (zr (some o2)), some (zi (nI i)), q6, q7, q8] [] := by
  have hX := fun (Sm : ZM) (h : iM D J Sm M r) => X_distanceByTrying hl0 hI h (V (i + 1)) (V (i + 2))
  have hx6 := LI.k6 hI
  refine z_aload_n C rfl dL_law_2244 ?_
  refine z_aload_n C rfl dL_law_2245 ?_
  refine z_iload C rfl dL_law_2246 ?_
  refine z_iconst 1 (by decide) C dL_law_2248 ?_
  refine z_iadd C dL_law_2249 ?_
  refine z_sld C hXs (ld_in1 hi hN) dL_law_2250 ?_
  refine z_int (ld_v1 hi hN) ?_
  refine z_aload_n C rfl dL_law_2251 ?_
  refine z_iload C rfl dL_law_2252 ?_
  refine z_iconst 2 (by decide) C dL_law_2254 ?_
  refine z_iadd C dL_law_2255 ?_
  refine z_sld C hXs (ld_in2 hi hN) dL_law_2256 ?_
  refine z_int (ld_v2 hi hN) ?_
  refine z_aload_n C rfl dL_law_2257 ?_
  refine z_callSH 4 [zr (some (L 0)), zi (V (i + 1)), zi (V (i + 2)), zr (some o1)] C Nc (W_distanceByTrying hl0 (V (i + 1)) (V (i + 2)) hF.1.2.1 hA.2.1.1 hA.2.1.2 hx6 hA.2.2.2 (C_distanceByTrying hl0 hI.1 (V (i + 1)) (V (i + 2))) (hvO (hX S hM)) (fun E S1 hp => es_1 ((hX S hM).2 E S1 hp))) rfl (zgoodS3 LWl_good (fun w h => h) wq447 wq448 wq207 wq449) rfl rfl rfl (by decide +kernel) rfl (by rw [hR]; exact ⟨Nat.le_of_ble_eq_true rfl, Nat.le_of_ble_eq_true rfl⟩) (rmK hR (by omega) (by omega)) (Nat.le_of_ble_eq_true rfl) dL_law_2258 (fun v1 S1 h1 => ?_) (fun E1 S1 h1 => h1.elim)
  obtain ⟨k9, D1, J1, lk1, as1, T1, PM, rfl, hL, hM1, hmc, hPM, hno⟩ := LM.of2 hI hM hA hF (pOk_I o1) hX h1
  refine z_istore [_, _, _, _, _, _, _, _, _] C (by decide) rfl dL_law_2261 ?_
  refine z_aload_n C rfl dL_law_2263 ?_
  refine z_aload_n C rfl dL_law_2264 ?_
  refine z_iload C rfl dL_law_2265 ?_
  refine z_iconst 1 (by decide) C dL_law_2267 ?_
  refine z_iadd C dL_law_2268 ?_
  refine z_sld C hXs (ld_in1 hi hN) dL_law_2269 ?_
  refine z_int (ld_v1 hi hN) ?_
  refine z_aload_n C rfl dL_law_2270 ?_
  refine z_iload C rfl dL_law_2271 ?_
  refine z_iconst 2 (by decide) C dL_law_2273 ?_
  refine z_iadd C dL_law_2274 ?_
  refine z_sld C hXs (ld_in2 hi hN) dL_law_2275 ?_
  refine z_int (ld_v2 hi hN) ?_
  refine z_callM 2 [zi (V (i + 1)), zi (V (i + 2))] C rfl (hmc.off G) rfl (zgoodV3 LWl_good (fun w h => ul_m h) wq450 wq451 wq452 (ul_m wm37) wq453) rfl rfl rfl (by decide +kernel) rfl (by rw [hR]; exact ⟨Nat.le_of_ble_eq_true rfl, Nat.le_of_ble_eq_true rfl⟩) hM1.k (rmK hR (by omega) (by omega)) (Nat.le_of_ble_eq_true rfl) dL_law_2276 (fun v2 S2 h2 => ?_) (fun E2 S2 h2 => ?_)
  · obtain ⟨S2, hp, rfl, -⟩ := h2
    obtain ⟨z, rfl, hfl, hq⟩ := hPM _ _ hp
    obtain ⟨D', hm, hI', hA'⟩ := hL.back hF hfl
    refine z_istore [_, _, _, _, _, _, _, _, _] C (by decide) rfl dL_law_2279 ?_
    refine z_aload_n C rfl dL_law_2281 ?_
    refine z_callM 0 [] C rfl (M_thrown hl0 hm) rfl (zgoodV3 LWl_good (fun w h => ul_m h) wq213 wq214 wq215 (ul_m wm37) wq216) rfl rfl rfl (by decide +kernel) rfl (by rw [hR]; exact ⟨Nat.le_of_ble_eq_true rfl, Nat.le_of_ble_eq_true rfl⟩) hm.1 (rmK hR (by omega) (by omega)) (Nat.le_of_ble_eq_true rfl) dL_law_2282 (fun v3 S3 h3 => ?_) (fun E3 S3 h3 => h3.elim)
    obtain ⟨rfl, hS3⟩ := h3
    subst hS3
    refine z_iload C rfl dL_law_2285 ?_
    refine z_icmp_eq 2292 C dL_law_2287 (by decide) (fun c9 => ?_) (fun c9 => absurd (rfl : (s39 D' k9) 39 0 = k9) c9)
    refine z_iload C rfl dL_law_2292 ?_
    refine z_if_ne 2309 C dL_law_2294 (by decide) (fun c8 => ?_) (fun c8 => ?_)
    · refine z_goto 3254 C dL_law_2309 (by decide) ?_
      exact kk _ _ _ _ _ _ _ _ _ _ _ (by omega) (by omega) hI' ⟨k9, hm⟩ hA'
    · obtain ⟨S0, hA0, hS1⟩ := hq c8
      subst hS1
      refine z_aload_n C rfl dL_law_2297 ?_
      refine z_iconst 0 (by decide) C dL_law_2298 ?_
      refine z_laload C hA'.2.1.1 (by rw [hA'.2.1.2]; exact vp01) dL_law_2299 ?_
      refine z_lng ((congrFun (mrg_in hF.2.2.2.2.1).2.2.2.2.2.1 _).trans (ptI_at o1 S0 z)) ?_
      refine z_iload C rfl dL_law_2300 ?_
      refine z_i2l C dL_law_2302 ?_
      refine z_lcmp C dL_law_2303 ?_
      refine z_if_eq 2309 C dL_law_2304 (by decide) (fun c6 => ?_) (fun c6 => absurd (lg_self _) c6)
      refine z_goto 3254 C dL_law_2309 (by decide) ?_
      exact kk _ _ _ _ _ _ _ _ _ _ _ (by omega) (by omega) hI' ⟨k9, hm⟩ hA'
  · obtain ⟨S2, hp, -⟩ := h2
    exact absurd hp (hno _ _)
set_option maxRecDepth 100000 in
set_option maxHeartbeats 1000000 in
theorem K_nearest {X : zX} (hl0 : (xl X).stackTraces = false) {F G : Nat → Bool} {s o1 o2 M : Nat} {r : Nat → Nat} {V : Nat → Int32} {N : Nat} {S : ZM} {D : ZD} {J : Nat → Int64} {lk : ZL} {as L T : Nat → Nat} {k n i : Nat} {q6 q7 q8 : Option ZV} (C : zC X RL cL_law 9 LWl) (Nc : zNc (xs X)) (hR : xR X = room_1) (hF : LF F G s o1 o2 M r) (hI : LI D J lk as (rsOff F S) L T) (hM : iM D J S M r) (hA : LA F s o1 o2 V N S) (hXs : LX X s N V) (hi : i + 3 < N) (hN : N ≤ 2048) (hk : k + 100 ≤ 60000 ∧ n + 1000 ≤ 600000) (kk : LK X F G s o1 o2 M r V N L k n i) : zW X 9 k n S 2312 [some (zr (some s)), some (zr (some (L 0))), some (zr (some M)), some (zr (some o1)), some (zr (some o2)), some (zi (nI i)), q6, q7, q8] [] := by
  have hX := fun (Sm : ZM) (h : iM D J Sm M r) => X_nearest hl0 hI h (V (i + 1))
  have hx6 := LI.k6 hI
  refine z_aload_n C rfl dL_law_2312 ?_
  refine z_aload_n C rfl dL_law_2313 ?_
  refine z_iload C rfl dL_law_2314 ?_
  refine z_iconst 1 (by decide) C dL_law_2316 ?_
  refine z_iadd C dL_law_2317 ?_
  refine z_sld C hXs (ld_in1 hi hN) dL_law_2318 ?_
  refine z_int (ld_v1 hi hN) ?_
  refine z_aload_n C rfl dL_law_2319 ?_
  refine z_callSH 3 [zr (some (L 0)), zi (V (i + 1)), zr (some o1)] C Nc (W_nearest hl0 (V (i + 1)) hF.1.2.1 hA.2.1.1 hA.2.1.2 hx6 hA.2.2.2 (C_nearest hl0 hI.1 (V (i + 1))) (hvO (hX S hM)) (fun E S1 hp => es_2 ((hX S hM).2 E S1 hp))) rfl (zgoodS3 LWl_good (fun w h => h) wq454 wq455 wq207 wq456) rfl rfl rfl (by decide +kernel) rfl (by rw [hR]; exact ⟨Nat.le_of_ble_eq_true rfl, Nat.le_of_ble_eq_true rfl⟩) (rmK hR (by omega) (by omega)) (Nat.le_of_ble_eq_true rfl) dL_law_2320 (fun v1 S1 h1 => ?_) (fun E1 S1 h1 => h1.elim)
  obtain ⟨k9, D1, J1, lk1, as1, T1, PM, rfl, hL, hM1, hmc, hPM, hno⟩ := LM.of2 hI hM hA hF (pOk_I o1) hX h1
  refine z_istore [_, _, _, _, _, _, _, _, _] C (by decide) rfl dL_law_2323 ?_
  refine z_aload_n C rfl dL_law_2325 ?_
  refine z_aload_n C rfl dL_law_2326 ?_
  refine z_iload C rfl dL_law_2327 ?_
  refine z_iconst 1 (by decide) C dL_law_2329 ?_
  refine z_iadd C dL_law_2330 ?_
  refine z_sld C hXs (ld_in1 hi hN) dL_law_2331 ?_
  refine z_int (ld_v1 hi hN) ?_
  refine z_callM 1 [zi (V (i + 1))] C rfl (hmc.off G) rfl (zgoodV3 LWl_good (fun w h => ul_m h) wq457 wq458 wq459 (ul_m wm37) wq460) rfl rfl rfl (by decide +kernel) rfl (by rw [hR]; exact ⟨Nat.le_of_ble_eq_true rfl, Nat.le_of_ble_eq_true rfl⟩) hM1.k (rmK hR (by omega) (by omega)) (Nat.le_of_ble_eq_true rfl) dL_law_2332 (fun v2 S2 h2 => ?_) (fun E2 S2 h2 => ?_)
  · obtain ⟨S2, hp, rfl, -⟩ := h2
    obtain ⟨z, rfl, hfl, hq⟩ := hPM _ _ hp
    obtain ⟨D', hm, hI', hA'⟩ := hL.back hF hfl
    refine z_istore [_, _, _, _, _, _, _, _, _] C (by decide) rfl dL_law_2335 ?_
    refine z_aload_n C rfl dL_law_2337 ?_
    refine z_callM 0 [] C rfl (M_thrown hl0 hm) rfl (zgoodV3 LWl_good (fun w h => ul_m h) wq213 wq214 wq215 (ul_m wm37) wq216) rfl rfl rfl (by decide +kernel) rfl (by rw [hR]; exact ⟨Nat.le_of_ble_eq_true rfl, Nat.le_of_ble_eq_true rfl⟩) hm.1 (rmK hR (by omega) (by omega)) (Nat.le_of_ble_eq_true rfl) dL_law_2338 (fun v3 S3 h3 => ?_) (fun E3 S3 h3 => h3.elim)
    obtain ⟨rfl, hS3⟩ := h3
    subst hS3
    refine z_iload C rfl dL_law_2341 ?_
    refine z_icmp_eq 2348 C dL_law_2343 (by decide) (fun c9 => ?_) (fun c9 => absurd (rfl : (s39 D' k9) 39 0 = k9) c9)
    refine z_iload C rfl dL_law_2348 ?_
    refine z_if_ne 2365 C dL_law_2350 (by decide) (fun c8 => ?_) (fun c8 => ?_)
    · refine z_goto 3254 C dL_law_2365 (by decide) ?_
      exact kk _ _ _ _ _ _ _ _ _ _ _ (by omega) (by omega) hI' ⟨k9, hm⟩ hA'
    · obtain ⟨S0, hA0, hS1⟩ := hq c8
      subst hS1
      refine z_aload_n C rfl dL_law_2353 ?_
      refine z_iconst 0 (by decide) C dL_law_2354 ?_
      refine z_laload C hA'.2.1.1 (by rw [hA'.2.1.2]; exact vp01) dL_law_2355 ?_
      refine z_lng ((congrFun (mrg_in hF.2.2.2.2.1).2.2.2.2.2.1 _).trans (ptI_at o1 S0 z)) ?_
      refine z_iload C rfl dL_law_2356 ?_
      refine z_i2l C dL_law_2358 ?_
      refine z_lcmp C dL_law_2359 ?_
      refine z_if_eq 2365 C dL_law_2360 (by decide) (fun c6 => ?_) (fun c6 => absurd (lg_self _) c6)
      refine z_goto 3254 C dL_law_2365 (by decide) ?_
      exact kk _ _ _ _ _ _ _ _ _ _ _ (by omega) (by omega) hI' ⟨k9, hm⟩ hA'
  · obtain ⟨S2, hp, -⟩ := h2
    exact absurd hp (hno _ _)
set_option maxRecDepth 100000 in
set_option maxHeartbeats 1000000 in
theorem K_sizeOf {X : zX} (hl0 : (xl X).stackTraces = false) {F G : Nat → Bool} {s o1 o2 M : Nat} {r : Nat → Nat} {V : Nat → Int32} {N : Nat} {S : ZM} {D : ZD} {J : Nat → Int64} {lk : ZL} {as L T : Nat → Nat} {k n i : Nat} {q6 q7 q8 : Option ZV} (C : zC X RL cL_law 9 LWl) (Nc : zNc (xs X)) (hR : xR X = room_1) (hF : LF F G s o1 o2 M r) (hI : LI D J lk as (rsOff F S) L T) (hM : iM D J S M r) (hA : LA F s o1 o2 V N S) (hXs : LX X s N V) (hi : i + 3 < N) (hN : N ≤ 2048) (hk : k + 100 ≤ 60000 ∧ n + 1000 ≤ 600000) (kk : LK X F G s o1 o2 M r V N L k n i) : zW X 9 k n S 2368 [some (zr (some s)), some (zr (some (L 0))), some (zr (some M)), some (zr (some o1)), some (zr (some o2)), some (zi (nI i)), q6, q7, q8] [] := by
  have hX := fun (Sm : ZM) (h : iM D J Sm M r) => X_sizeOf hl0 hI h (V (i + 1))
  have hx6 := LI.k6 hI
  refine z_aload_n C rfl dL_law_2368 ?_
  refine z_aload_n C rfl dL_law_2369 ?_
  refine z_iload C rfl dL_law_2370 ?_
  refine z_iconst 1 (by decide) C dL_law_2372 ?_
  refine z_iadd C dL_law_2373 ?_
  refine z_sld C hXs (ld_in1 hi hN) dL_law_2374 ?_
  refine z_int (ld_v1 hi hN) ?_
  refine z_aload_n C rfl dL_law_2375 ?_
  refine z_callSH 3 [zr (some (L 0)), zi (V (i + 1)), zr (some o1)] C Nc (W_sizeOf hl0 (V (i + 1)) hF.1.2.1 hA.2.1.1 hA.2.1.2 hx6 hA.2.2.2 (C_sizeOf hl0 hI.1 (V (i + 1))) (hvO (hX S hM)) (fun E S1 hp => es_1 ((hX S hM).2 E S1 hp))) rfl (zgoodS3 LWl_good (fun w h => h) wq461 wq462 wq207 wq463) rfl rfl rfl (by decide +kernel) rfl (by rw [hR]; exact ⟨Nat.le_of_ble_eq_true rfl, Nat.le_of_ble_eq_true rfl⟩) (rmK hR (by omega) (by omega)) (Nat.le_of_ble_eq_true rfl) dL_law_2376 (fun v1 S1 h1 => ?_) (fun E1 S1 h1 => h1.elim)
  obtain ⟨k9, D1, J1, lk1, as1, T1, PM, rfl, hL, hM1, hmc, hPM, hno⟩ := LM.of2 hI hM hA hF (pOk_I o1) hX h1
  refine z_istore [_, _, _, _, _, _, _, _, _] C (by decide) rfl dL_law_2379 ?_
  refine z_aload_n C rfl dL_law_2381 ?_
  refine z_aload_n C rfl dL_law_2382 ?_
  refine z_iload C rfl dL_law_2383 ?_
  refine z_iconst 1 (by decide) C dL_law_2385 ?_
  refine z_iadd C dL_law_2386 ?_
  refine z_sld C hXs (ld_in1 hi hN) dL_law_2387 ?_
  refine z_int (ld_v1 hi hN) ?_
  refine z_callM 1 [zi (V (i + 1))] C rfl (hmc.off G) rfl (zgoodV3 LWl_good (fun w h => ul_m h) wq464 wq465 wq466 (ul_m wm37) wq467) rfl rfl rfl (by decide +kernel) rfl (by rw [hR]; exact ⟨Nat.le_of_ble_eq_true rfl, Nat.le_of_ble_eq_true rfl⟩) hM1.k (rmK hR (by omega) (by omega)) (Nat.le_of_ble_eq_true rfl) dL_law_2388 (fun v2 S2 h2 => ?_) (fun E2 S2 h2 => ?_)
  · obtain ⟨S2, hp, rfl, -⟩ := h2
    obtain ⟨z, rfl, hfl, hq⟩ := hPM _ _ hp
    obtain ⟨D', hm, hI', hA'⟩ := hL.back hF hfl
    refine z_istore [_, _, _, _, _, _, _, _, _] C (by decide) rfl dL_law_2391 ?_
    refine z_aload_n C rfl dL_law_2393 ?_
    refine z_callM 0 [] C rfl (M_thrown hl0 hm) rfl (zgoodV3 LWl_good (fun w h => ul_m h) wq213 wq214 wq215 (ul_m wm37) wq216) rfl rfl rfl (by decide +kernel) rfl (by rw [hR]; exact ⟨Nat.le_of_ble_eq_true rfl, Nat.le_of_ble_eq_true rfl⟩) hm.1 (rmK hR (by omega) (by omega)) (Nat.le_of_ble_eq_true rfl) dL_law_2394 (fun v3 S3 h3 => ?_) (fun E3 S3 h3 => h3.elim)
    obtain ⟨rfl, hS3⟩ := h3
    subst hS3
    refine z_iload C rfl dL_law_2397 ?_
    refine z_icmp_eq 2404 C dL_law_2399 (by decide) (fun c9 => ?_) (fun c9 => absurd (rfl : (s39 D' k9) 39 0 = k9) c9)
    refine z_iload C rfl dL_law_2404 ?_
    refine z_if_ne 2421 C dL_law_2406 (by decide) (fun c8 => ?_) (fun c8 => ?_)
    · refine z_goto 3254 C dL_law_2421 (by decide) ?_
      exact kk _ _ _ _ _ _ _ _ _ _ _ (by omega) (by omega) hI' ⟨k9, hm⟩ hA'
    · obtain ⟨S0, hA0, hS1⟩ := hq c8
      subst hS1
      refine z_aload_n C rfl dL_law_2409 ?_
      refine z_iconst 0 (by decide) C dL_law_2410 ?_
      refine z_laload C hA'.2.1.1 (by rw [hA'.2.1.2]; exact vp01) dL_law_2411 ?_
      refine z_lng ((congrFun (mrg_in hF.2.2.2.2.1).2.2.2.2.2.1 _).trans (ptI_at o1 S0 z)) ?_
      refine z_iload C rfl dL_law_2412 ?_
      refine z_i2l C dL_law_2414 ?_
      refine z_lcmp C dL_law_2415 ?_
      refine z_if_eq 2421 C dL_law_2416 (by decide) (fun c6 => ?_) (fun c6 => absurd (lg_self _) c6)
      refine z_goto 3254 C dL_law_2421 (by decide) ?_
      exact kk _ _ _ _ _ _ _ _ _ _ _ (by omega) (by omega) hI' ⟨k9, hm⟩ hA'
  · obtain ⟨S2, hp, -⟩ := h2
    exact absurd hp (hno _ _)
set_option maxRecDepth 100000 in
set_option maxHeartbeats 1000000 in
theorem K_holds {X : zX} (hl0 : (xl X).stackTraces = false) {F G : Nat → Bool} {s o1 o2 M : Nat} {r : Nat → Nat} {V : Nat → Int32} {N : Nat} {S : ZM} {D : ZD} {J : Nat → Int64} {lk : ZL} {as L T : Nat → Nat} {k n i : Nat} {q6 q7 q8 : Option ZV} (C : zC X RL cL_law 9 LWl) (Nc : zNc (xs X)) (hR : xR X = room_1) (hF : LF F G s o1 o2 M r) (hI : LI D J lk as (rsOff F S) L T) (hM : iM D J S M r) (hA : LA F s o1 o2 V N S) (hXs : LX X s N V) (hi : i + 3 < N) (hN : N ≤ 2048) (hk : k + 100 ≤ 60000 ∧ n + 1000 ≤ 600000) (kk : LK X F G s o1 o2 M r V N L k n i) : zW X 9 k n S 2424 [some (zr (some s)), some (zr (some (L 0))), some (zr (some M)), some (zr (some o1)), some (zr (some o2)), some (zi (nI i)), q6, q7, q8] [] := by
  have hX := fun (Sm : ZM) (h : iM D J Sm M r) => X_holds hl0 hI h (V (i + 1)) (V (i + 2))
  have hx6 := LI.k6 hI
  refine z_aload_n C rfl dL_law_2424 ?_
  refine z_aload_n C rfl dL_law_2425 ?_
  refine z_iload C rfl dL_law_2426 ?_
  refine z_iconst 1 (by decide) C dL_law_2428 ?_
  refine z_iadd C dL_law_2429 ?_
  refine z_sld C hXs (ld_in1 hi hN) dL_law_2430 ?_
  refine z_int (ld_v1 hi hN) ?_
  refine z_aload_n C rfl dL_law_2431 ?_
  refine z_iload C rfl dL_law_2432 ?_
  refine z_iconst 2 (by decide) C dL_law_2434 ?_
  refine z_iadd C dL_law_2435 ?_
  refine z_sld C hXs (ld_in2 hi hN) dL_law_2436 ?_
  refine z_int (ld_v2 hi hN) ?_
  refine z_aload_n C rfl dL_law_2437 ?_
  refine z_callSH 4 [zr (some (L 0)), zi (V (i + 1)), zi (V (i + 2)), zr (some o1)] C Nc (W_holds hl0 (V (i + 1)) (V (i + 2)) hF.1.2.1 hA.2.1.1 hA.2.1.2 hx6 hA.2.2.2 (C_holds hl0 hI.1 (V (i + 1)) (V (i + 2))) (hvO (hX S hM)) (fun E S1 hp => es_1 ((hX S hM).2 E S1 hp))) rfl (zgoodS3 LWl_good (fun w h => h) wq468 wq469 wq207 wq470) rfl rfl rfl (by decide +kernel) rfl (by rw [hR]; exact ⟨Nat.le_of_ble_eq_true rfl, Nat.le_of_ble_eq_true rfl⟩) (rmK hR (by omega) (by omega)) (Nat.le_of_ble_eq_true rfl) dL_law_2438 (fun v1 S1 h1 => ?_) (fun E1 S1 h1 => h1.elim)
  obtain ⟨k9, D1, J1, lk1, as1, T1, PM, rfl, hL, hM1, hmc, hPM, hno⟩ := LM.of2 hI hM hA hF (pOk_B o1) hX h1
  refine z_istore [_, _, _, _, _, _, _, _, _] C (by decide) rfl dL_law_2441 ?_
  refine z_aload_n C rfl dL_law_2443 ?_
  refine z_aload_n C rfl dL_law_2444 ?_
  refine z_iload C rfl dL_law_2445 ?_
  refine z_iconst 1 (by decide) C dL_law_2447 ?_
  refine z_iadd C dL_law_2448 ?_
  refine z_sld C hXs (ld_in1 hi hN) dL_law_2449 ?_
  refine z_int (ld_v1 hi hN) ?_
  refine z_aload_n C rfl dL_law_2450 ?_
  refine z_iload C rfl dL_law_2451 ?_
  refine z_iconst 2 (by decide) C dL_law_2453 ?_
  refine z_iadd C dL_law_2454 ?_
  refine z_sld C hXs (ld_in2 hi hN) dL_law_2455 ?_
  refine z_int (ld_v2 hi hN) ?_
  refine z_callM 2 [zi (V (i + 1)), zi (V (i + 2))] C rfl (hmc.off G) rfl (zgoodV3 LWl_good (fun w h => ul_m h) wq471 wq472 wq473 (ul_m wm37) wq474) rfl rfl rfl (by decide +kernel) rfl (by rw [hR]; exact ⟨Nat.le_of_ble_eq_true rfl, Nat.le_of_ble_eq_true rfl⟩) hM1.k (rmK hR (by omega) (by omega)) (Nat.le_of_ble_eq_true rfl) dL_law_2456 (fun v2 S2 h2 => ?_) (fun E2 S2 h2 => ?_)
  · obtain ⟨S2, hp, rfl, -⟩ := h2
    obtain ⟨z, rfl, hfl, hq⟩ := hPM _ _ hp
    obtain ⟨D', hm, hI', hA'⟩ := hL.back hF hfl
    refine z_istore [_, _, _, _, _, _, _, _, _] C (by decide) rfl dL_law_2459 ?_
    refine z_aload_n C rfl dL_law_2461 ?_
    refine z_callM 0 [] C rfl (M_thrown hl0 hm) rfl (zgoodV3 LWl_good (fun w h => ul_m h) wq213 wq214 wq215 (ul_m wm37) wq216) rfl rfl rfl (by decide +kernel) rfl (by rw [hR]; exact ⟨Nat.le_of_ble_eq_true rfl, Nat.le_of_ble_eq_true rfl⟩) hm.1 (rmK hR (by omega) (by omega)) (Nat.le_of_ble_eq_true rfl) dL_law_2462 (fun v3 S3 h3 => ?_) (fun E3 S3 h3 => h3.elim)
    obtain ⟨rfl, hS3⟩ := h3
    subst hS3
    refine z_iload C rfl dL_law_2465 ?_
    refine z_icmp_eq 2472 C dL_law_2467 (by decide) (fun c9 => ?_) (fun c9 => absurd (rfl : (s39 D' k9) 39 0 = k9) c9)
    refine z_iload C rfl dL_law_2472 ?_
    refine z_if_ne 2496 C dL_law_2474 (by decide) (fun c8 => ?_) (fun c8 => ?_)
    · refine z_goto 3254 C dL_law_2496 (by decide) ?_
      exact kk _ _ _ _ _ _ _ _ _ _ _ (by omega) (by omega) hI' ⟨k9, hm⟩ hA'
    · obtain ⟨S0, hA0, hS1⟩ := hq c8
      subst hS1
      refine z_aload_n C rfl dL_law_2477 ?_
      refine z_iconst 0 (by decide) C dL_law_2478 ?_
      refine z_laload C hA'.2.1.1 (by rw [hA'.2.1.2]; exact vp01) dL_law_2479 ?_
      refine z_lng ((congrFun (mrg_in hF.2.2.2.2.1).2.2.2.2.2.1 _).trans (ptB_at o1 S0 z)) ?_
      refine z_iload C rfl dL_law_2480 ?_
      refine z_if_eq 2489 C dL_law_2482 (by decide) (fun c7 => ?_) (fun c7 => ?_)
      · refine z_lconst 0 (by decide) C dL_law_2489 ?_
        refine z_lcmp C dL_law_2490 ?_
        refine z_if_eq 2496 C dL_law_2491 (by decide) (fun c6 => ?_) (fun c6 => absurd (by rw [if_pos c7]; exact lg_self _) c6)
        refine z_goto 3254 C dL_law_2496 (by decide) ?_
        exact kk _ _ _ _ _ _ _ _ _ _ _ (by omega) (by omega) hI' ⟨k9, hm⟩ hA'
      · refine z_lconst 1 (by decide) C dL_law_2485 ?_
        refine z_goto 2490 C dL_law_2486 (by decide) ?_
        refine z_lcmp C dL_law_2490 ?_
        refine z_if_eq 2496 C dL_law_2491 (by decide) (fun c6 => ?_) (fun c6 => absurd (by rw [if_neg c7]; exact lg_self _) c6)
        refine z_goto 3254 C dL_law_2496 (by decide) ?_
        exact kk _ _ _ _ _ _ _ _ _ _ _ (by omega) (by omega) hI' ⟨k9, hm⟩ hA'
  · obtain ⟨S2, hp, -⟩ := h2
    exact absurd hp (hno _ _)
set_option maxRecDepth 100000 in
set_option maxHeartbeats 1000000 in
theorem K_matches {X : zX} (hl0 : (xl X).stackTraces = false) {F G : Nat → Bool} {s o1 o2 M : Nat} {r : Nat → Nat} {V : Nat → Int32} {N : Nat} {S : ZM} {D : ZD} {J : Nat → Int64} {lk : ZL} {as L T : Nat → Nat} {k n i : Nat} {q6 q7 q8 : Option ZV} (C : zC X RL cL_law 9 LWl) (Nc : zNc (xs X)) (hR : xR X = room_1) (hF : LF F G s o1 o2 M r) (hI : LI D J lk as (rsOff F S) L T) (hM : iM D J S M r) (hA : LA F s o1 o2 V N S) (hXs : LX X s N V) (hi : i + 3 < N) (hN : N ≤ 2048) (hk : k + 100 ≤ 60000 ∧ n + 1000 ≤ 600000) (kk : LK X F G s o1 o2 M r V N L k n i) : zW X 9 k n S 2499 [some (zr (some s)), some (zr (some (L 0))), some (zr (some M)), some (zr (some o1)), some (zr (some o2)), some (zi (nI i)), q6, q7, q8] [] := by
  have hX := fun (Sm : ZM) (h : iM D J Sm M r) => X_matches hl0 hI h (V (i + 1))
  have hx6 := LI.k6 hI
  refine z_aload_n C rfl dL_law_2499 ?_
  refine z_aload_n C rfl dL_law_2500 ?_
  refine z_iload C rfl dL_law_2501 ?_
  refine z_iconst 1 (by decide) C dL_law_2503 ?_
  refine z_iadd C dL_law_2504 ?_
  refine z_sld C hXs (ld_in1 hi hN) dL_law_2505 ?_
  refine z_int (ld_v1 hi hN) ?_
  refine z_aload_n C rfl dL_law_2506 ?_
  refine z_callSH 3 [zr (some (L 0)), zi (V (i + 1)), zr (some o1)] C Nc (W_matches hl0 (V (i + 1)) hF.1.2.1 hA.2.1.1 hA.2.1.2 hx6 hA.2.2.2 (C_matches hl0 hI.1 (V (i + 1))) (hvO (hX S hM)) (fun E S1 hp => es_1 ((hX S hM).2 E S1 hp))) rfl (zgoodS3 LWl_good (fun w h => h) wq475 wq476 wq207 wq477) rfl rfl rfl (by decide +kernel) rfl (by rw [hR]; exact ⟨Nat.le_of_ble_eq_true rfl, Nat.le_of_ble_eq_true rfl⟩) (rmK hR (by omega) (by omega)) (Nat.le_of_ble_eq_true rfl) dL_law_2507 (fun v1 S1 h1 => ?_) (fun E1 S1 h1 => h1.elim)
  obtain ⟨k9, D1, J1, lk1, as1, T1, PM, rfl, hL, hM1, hmc, hPM, hno⟩ := LM.of2 hI hM hA hF (pOk_I o1) hX h1
  refine z_istore [_, _, _, _, _, _, _, _, _] C (by decide) rfl dL_law_2510 ?_
  refine z_aload_n C rfl dL_law_2512 ?_
  refine z_aload_n C rfl dL_law_2513 ?_
  refine z_iload C rfl dL_law_2514 ?_
  refine z_iconst 1 (by decide) C dL_law_2516 ?_
  refine z_iadd C dL_law_2517 ?_
  refine z_sld C hXs (ld_in1 hi hN) dL_law_2518 ?_
  refine z_int (ld_v1 hi hN) ?_
  refine z_callM 1 [zi (V (i + 1))] C rfl (hmc.off G) rfl (zgoodV3 LWl_good (fun w h => ul_m h) wq478 wq479 wq480 (ul_m wm37) wq481) rfl rfl rfl (by decide +kernel) rfl (by rw [hR]; exact ⟨Nat.le_of_ble_eq_true rfl, Nat.le_of_ble_eq_true rfl⟩) hM1.k (rmK hR (by omega) (by omega)) (Nat.le_of_ble_eq_true rfl) dL_law_2519 (fun v2 S2 h2 => ?_) (fun E2 S2 h2 => ?_)
  · obtain ⟨S2, hp, rfl, -⟩ := h2
    obtain ⟨z, rfl, hfl, hq⟩ := hPM _ _ hp
    obtain ⟨D', hm, hI', hA'⟩ := hL.back hF hfl
    refine z_istore [_, _, _, _, _, _, _, _, _] C (by decide) rfl dL_law_2522 ?_
    refine z_aload_n C rfl dL_law_2524 ?_
    refine z_callM 0 [] C rfl (M_thrown hl0 hm) rfl (zgoodV3 LWl_good (fun w h => ul_m h) wq213 wq214 wq215 (ul_m wm37) wq216) rfl rfl rfl (by decide +kernel) rfl (by rw [hR]; exact ⟨Nat.le_of_ble_eq_true rfl, Nat.le_of_ble_eq_true rfl⟩) hm.1 (rmK hR (by omega) (by omega)) (Nat.le_of_ble_eq_true rfl) dL_law_2525 (fun v3 S3 h3 => ?_) (fun E3 S3 h3 => h3.elim)
    obtain ⟨rfl, hS3⟩ := h3
    subst hS3
    refine z_iload C rfl dL_law_2528 ?_
    refine z_icmp_eq 2535 C dL_law_2530 (by decide) (fun c9 => ?_) (fun c9 => absurd (rfl : (s39 D' k9) 39 0 = k9) c9)
    refine z_iload C rfl dL_law_2535 ?_
    refine z_if_ne 2552 C dL_law_2537 (by decide) (fun c8 => ?_) (fun c8 => ?_)
    · refine z_goto 3254 C dL_law_2552 (by decide) ?_
      exact kk _ _ _ _ _ _ _ _ _ _ _ (by omega) (by omega) hI' ⟨k9, hm⟩ hA'
    · obtain ⟨S0, hA0, hS1⟩ := hq c8
      subst hS1
      refine z_aload_n C rfl dL_law_2540 ?_
      refine z_iconst 0 (by decide) C dL_law_2541 ?_
      refine z_laload C hA'.2.1.1 (by rw [hA'.2.1.2]; exact vp01) dL_law_2542 ?_
      refine z_lng ((congrFun (mrg_in hF.2.2.2.2.1).2.2.2.2.2.1 _).trans (ptI_at o1 S0 z)) ?_
      refine z_iload C rfl dL_law_2543 ?_
      refine z_i2l C dL_law_2545 ?_
      refine z_lcmp C dL_law_2546 ?_
      refine z_if_eq 2552 C dL_law_2547 (by decide) (fun c6 => ?_) (fun c6 => absurd (lg_self _) c6)
      refine z_goto 3254 C dL_law_2552 (by decide) ?_
      exact kk _ _ _ _ _ _ _ _ _ _ _ (by omega) (by omega) hI' ⟨k9, hm⟩ hA'
  · obtain ⟨S2, hp, -⟩ := h2
    exact absurd hp (hno _ _)
set_option maxRecDepth 100000 in
set_option maxHeartbeats 1000000 in
theorem K_size {X : zX} (hl0 : (xl X).stackTraces = false) {F G : Nat → Bool} {s o1 o2 M : Nat} {r : Nat → Nat} {V : Nat → Int32} {N : Nat} {S : ZM} {D : ZD} {J : Nat → Int64} {lk : ZL} {as L T : Nat → Nat} {k n i : Nat} {q6 q7 q8 : Option ZV} (C : zC X RL cL_law 9 LWl) (Nc : zNc (xs X)) (hR : xR X = room_1) (hF : LF F G s o1 o2 M r) (hI : LI D J lk as (rsOff F S) L T) (hM : iM D J S M r) (hA : LA F s o1 o2 V N S) (hXs : LX X s N V) (hi : i + 3 < N) (hN : N ≤ 2048) (hk : k + 100 ≤ 60000 ∧ n + 1000 ≤ 600000) (kk : LK X F G s o1 o2 M r V N L k n i) : zW X 9 k n S 2555 [some (zr (some s)), some (zr (some (L 0))), some (zr (some M)), some (zr (some o1)), some (zr (some o2)), some (zi (nI i)), q6, q7, q8] [] := by
  have hX := fun (Sm : ZM) (h : iM D J Sm M r) => X_size hl0 hI h (V (i + 1))
  have hx6 := LI.k6 hI
  refine z_aload_n C rfl dL_law_2555 ?_
  refine z_aload_n C rfl dL_law_2556 ?_
  refine z_iload C rfl dL_law_2557 ?_
  refine z_iconst 1 (by decide) C dL_law_2559 ?_
  refine z_iadd C dL_law_2560 ?_
  refine z_sld C hXs (ld_in1 hi hN) dL_law_2561 ?_
  refine z_int (ld_v1 hi hN) ?_
  refine z_aload_n C rfl dL_law_2562 ?_
  refine z_callSH 3 [zr (some (L 0)), zi (V (i + 1)), zr (some o1)] C Nc (W_size hl0 (V (i + 1)) hF.1.2.1 hA.2.1.1 hA.2.1.2 hx6 hA.2.2.2 (C_size hl0 hI.1 (V (i + 1))) (hvO (hX S hM)) (fun E S1 hp => es_1 ((hX S hM).2 E S1 hp))) rfl (zgoodS3 LWl_good (fun w h => h) wq482 wq483 wq207 wq484) rfl rfl rfl (by decide +kernel) rfl (by rw [hR]; exact ⟨Nat.le_of_ble_eq_true rfl, Nat.le_of_ble_eq_true rfl⟩) (rmK hR (by omega) (by omega)) (Nat.le_of_ble_eq_true rfl) dL_law_2563 (fun v1 S1 h1 => ?_) (fun E1 S1 h1 => h1.elim)
  obtain ⟨k9, D1, J1, lk1, as1, T1, PM, rfl, hL, hM1, hmc, hPM, hno⟩ := LM.of2 hI hM hA hF (pOk_I o1) hX h1
  refine z_istore [_, _, _, _, _, _, _, _, _] C (by decide) rfl dL_law_2566 ?_
  refine z_aload_n C rfl dL_law_2568 ?_
  refine z_aload_n C rfl dL_law_2569 ?_
  refine z_iload C rfl dL_law_2570 ?_
  refine z_iconst 1 (by decide) C dL_law_2572 ?_
  refine z_iadd C dL_law_2573 ?_
  refine z_sld C hXs (ld_in1 hi hN) dL_law_2574 ?_
  refine z_int (ld_v1 hi hN) ?_
  refine z_callM 1 [zi (V (i + 1))] C rfl (hmc.off G) rfl (zgoodV3 LWl_good (fun w h => ul_m h) wq485 wq486 wq487 (ul_m wm37) wq488) rfl rfl rfl (by decide +kernel) rfl (by rw [hR]; exact ⟨Nat.le_of_ble_eq_true rfl, Nat.le_of_ble_eq_true rfl⟩) hM1.k (rmK hR (by omega) (by omega)) (Nat.le_of_ble_eq_true rfl) dL_law_2575 (fun v2 S2 h2 => ?_) (fun E2 S2 h2 => ?_)
  · obtain ⟨S2, hp, rfl, -⟩ := h2
    obtain ⟨z, rfl, hfl, hq⟩ := hPM _ _ hp
    obtain ⟨D', hm, hI', hA'⟩ := hL.back hF hfl
    refine z_istore [_, _, _, _, _, _, _, _, _] C (by decide) rfl dL_law_2578 ?_
    refine z_aload_n C rfl dL_law_2580 ?_
    refine z_callM 0 [] C rfl (M_thrown hl0 hm) rfl (zgoodV3 LWl_good (fun w h => ul_m h) wq213 wq214 wq215 (ul_m wm37) wq216) rfl rfl rfl (by decide +kernel) rfl (by rw [hR]; exact ⟨Nat.le_of_ble_eq_true rfl, Nat.le_of_ble_eq_true rfl⟩) hm.1 (rmK hR (by omega) (by omega)) (Nat.le_of_ble_eq_true rfl) dL_law_2581 (fun v3 S3 h3 => ?_) (fun E3 S3 h3 => h3.elim)
    obtain ⟨rfl, hS3⟩ := h3
    subst hS3
    refine z_iload C rfl dL_law_2584 ?_
    refine z_icmp_eq 2591 C dL_law_2586 (by decide) (fun c9 => ?_) (fun c9 => absurd (rfl : (s39 D' k9) 39 0 = k9) c9)
    refine z_iload C rfl dL_law_2591 ?_
    refine z_if_ne 2608 C dL_law_2593 (by decide) (fun c8 => ?_) (fun c8 => ?_)
    · refine z_goto 3254 C dL_law_2608 (by decide) ?_
      exact kk _ _ _ _ _ _ _ _ _ _ _ (by omega) (by omega) hI' ⟨k9, hm⟩ hA'
    · obtain ⟨S0, hA0, hS1⟩ := hq c8
      subst hS1
      refine z_aload_n C rfl dL_law_2596 ?_
      refine z_iconst 0 (by decide) C dL_law_2597 ?_
      refine z_laload C hA'.2.1.1 (by rw [hA'.2.1.2]; exact vp01) dL_law_2598 ?_
      refine z_lng ((congrFun (mrg_in hF.2.2.2.2.1).2.2.2.2.2.1 _).trans (ptI_at o1 S0 z)) ?_
      refine z_iload C rfl dL_law_2599 ?_
      refine z_i2l C dL_law_2601 ?_
      refine z_lcmp C dL_law_2602 ?_
      refine z_if_eq 2608 C dL_law_2603 (by decide) (fun c6 => ?_) (fun c6 => absurd (lg_self _) c6)
      refine z_goto 3254 C dL_law_2608 (by decide) ?_
      exact kk _ _ _ _ _ _ _ _ _ _ _ (by omega) (by omega) hI' ⟨k9, hm⟩ hA'
  · obtain ⟨S2, hp, -⟩ := h2
    exact absurd hp (hno _ _)
set_option maxRecDepth 100000 in
set_option maxHeartbeats 1000000 in
theorem K_trackAt {X : zX} (hl0 : (xl X).stackTraces = false) {F G : Nat → Bool} {s o1 o2 M : Nat} {r : Nat → Nat} {V : Nat → Int32} {N : Nat} {S : ZM} {D : ZD} {J : Nat → Int64} {lk : ZL} {as L T : Nat → Nat} {k n i : Nat} {q6 q7 q8 : Option ZV} (C : zC X RL cL_law 9 LWl) (Nc : zNc (xs X)) (hR : xR X = room_1) (hF : LF F G s o1 o2 M r) (hI : LI D J lk as (rsOff F S) L T) (hM : iM D J S M r) (hA : LA F s o1 o2 V N S) (hXs : LX X s N V) (hi : i + 3 < N) (hN : N ≤ 2048) (hk : k + 100 ≤ 60000 ∧ n + 1000 ≤ 600000) (kk : LK X F G s o1 o2 M r V N L k n i) : zW X 9 k n S 2611 [some (zr (some s)), some (zr (some (L 0))), some (zr (some M)), some (zr (some o1)), some (zr (some o2)), some (zi (nI i)), q6, q7, q8] [] := by
  have hX := fun (Sm : ZM) (h : iM D J Sm M r) => X_trackAt hl0 hI h (V (i + 1)) (V (i + 2))
  have hx6 := LI.k6 hI
  refine z_aload_n C rfl dL_law_2611 ?_
  refine z_aload_n C rfl dL_law_2612 ?_
  refine z_iload C rfl dL_law_2613 ?_
  refine z_iconst 1 (by decide) C dL_law_2615 ?_
  refine z_iadd C dL_law_2616 ?_
  refine z_sld C hXs (ld_in1 hi hN) dL_law_2617 ?_
  refine z_int (ld_v1 hi hN) ?_
  refine z_aload_n C rfl dL_law_2618 ?_
  refine z_iload C rfl dL_law_2619 ?_
  refine z_iconst 2 (by decide) C dL_law_2621 ?_
  refine z_iadd C dL_law_2622 ?_
  refine z_sld C hXs (ld_in2 hi hN) dL_law_2623 ?_
  refine z_int (ld_v2 hi hN) ?_
  refine z_aload_n C rfl dL_law_2624 ?_
  refine z_callSH 4 [zr (some (L 0)), zi (V (i + 1)), zi (V (i + 2)), zr (some o1)] C Nc (W_trackAt hl0 (V (i + 1)) (V (i + 2)) hF.1.2.1 hA.2.1.1 hA.2.1.2 hx6 hA.2.2.2 (C_trackAt hl0 hI.1 (V (i + 1)) (V (i + 2))) (hvO (hX S hM)) (fun E S1 hp => es_2 ((hX S hM).2 E S1 hp))) rfl (zgoodS3 LWl_good (fun w h => h) wq489 wq490 wq207 wq491) rfl rfl rfl (by decide +kernel) rfl (by rw [hR]; exact ⟨Nat.le_of_ble_eq_true rfl, Nat.le_of_ble_eq_true rfl⟩) (rmK hR (by omega) (by omega)) (Nat.le_of_ble_eq_true rfl) dL_law_2625 (fun v1 S1 h1 => ?_) (fun E1 S1 h1 => h1.elim)
  obtain ⟨k9, D1, J1, lk1, as1, T1, PM, rfl, hL, hM1, hmc, hPM, hno⟩ := LM.of2 hI hM hA hF (pOk_I o1) hX h1
  refine z_istore [_, _, _, _, _, _, _, _, _] C (by decide) rfl dL_law_2628 ?_
  refine z_aload_n C rfl dL_law_2630 ?_
  refine z_aload_n C rfl dL_law_2631 ?_
  refine z_iload C rfl dL_law_2632 ?_
  refine z_iconst 1 (by decide) C dL_law_2634 ?_
  refine z_iadd C dL_law_2635 ?_
  refine z_sld C hXs (ld_in1 hi hN) dL_law_2636 ?_
  refine z_int (ld_v1 hi hN) ?_
  refine z_aload_n C rfl dL_law_2637 ?_
  refine z_iload C rfl dL_law_2638 ?_
  refine z_iconst 2 (by decide) C dL_law_2640 ?_
  refine z_iadd C dL_law_2641 ?_
  refine z_sld C hXs (ld_in2 hi hN) dL_law_2642 ?_
  refine z_int (ld_v2 hi hN) ?_
  refine z_callM 2 [zi (V (i + 1)), zi (V (i + 2))] C rfl (hmc.off G) rfl (zgoodV3 LWl_good (fun w h => ul_m h) wq492 wq493 wq494 (ul_m wm37) wq495) rfl rfl rfl (by decide +kernel) rfl (by rw [hR]; exact ⟨Nat.le_of_ble_eq_true rfl, Nat.le_of_ble_eq_true rfl⟩) hM1.k (rmK hR (by omega) (by omega)) (Nat.le_of_ble_eq_true rfl) dL_law_2643 (fun v2 S2 h2 => ?_) (fun E2 S2 h2 => ?_)
  · obtain ⟨S2, hp, rfl, -⟩ := h2
    obtain ⟨z, rfl, hfl, hq⟩ := hPM _ _ hp
    obtain ⟨D', hm, hI', hA'⟩ := hL.back hF hfl
    refine z_istore [_, _, _, _, _, _, _, _, _] C (by decide) rfl dL_law_2646 ?_
    refine z_aload_n C rfl dL_law_2648 ?_
    refine z_callM 0 [] C rfl (M_thrown hl0 hm) rfl (zgoodV3 LWl_good (fun w h => ul_m h) wq213 wq214 wq215 (ul_m wm37) wq216) rfl rfl rfl (by decide +kernel) rfl (by rw [hR]; exact ⟨Nat.le_of_ble_eq_true rfl, Nat.le_of_ble_eq_true rfl⟩) hm.1 (rmK hR (by omega) (by omega)) (Nat.le_of_ble_eq_true rfl) dL_law_2649 (fun v3 S3 h3 => ?_) (fun E3 S3 h3 => h3.elim)
    obtain ⟨rfl, hS3⟩ := h3
    subst hS3
    refine z_iload C rfl dL_law_2652 ?_
    refine z_icmp_eq 2659 C dL_law_2654 (by decide) (fun c9 => ?_) (fun c9 => absurd (rfl : (s39 D' k9) 39 0 = k9) c9)
    refine z_iload C rfl dL_law_2659 ?_
    refine z_if_ne 2676 C dL_law_2661 (by decide) (fun c8 => ?_) (fun c8 => ?_)
    · refine z_goto 3254 C dL_law_2676 (by decide) ?_
      exact kk _ _ _ _ _ _ _ _ _ _ _ (by omega) (by omega) hI' ⟨k9, hm⟩ hA'
    · obtain ⟨S0, hA0, hS1⟩ := hq c8
      subst hS1
      refine z_aload_n C rfl dL_law_2664 ?_
      refine z_iconst 0 (by decide) C dL_law_2665 ?_
      refine z_laload C hA'.2.1.1 (by rw [hA'.2.1.2]; exact vp01) dL_law_2666 ?_
      refine z_lng ((congrFun (mrg_in hF.2.2.2.2.1).2.2.2.2.2.1 _).trans (ptI_at o1 S0 z)) ?_
      refine z_iload C rfl dL_law_2667 ?_
      refine z_i2l C dL_law_2669 ?_
      refine z_lcmp C dL_law_2670 ?_
      refine z_if_eq 2676 C dL_law_2671 (by decide) (fun c6 => ?_) (fun c6 => absurd (lg_self _) c6)
      refine z_goto 3254 C dL_law_2676 (by decide) ?_
      exact kk _ _ _ _ _ _ _ _ _ _ _ (by omega) (by omega) hI' ⟨k9, hm⟩ hA'
  · obtain ⟨S2, hp, -⟩ := h2
    exact absurd hp (hno _ _)
set_option maxRecDepth 100000 in
set_option maxHeartbeats 1000000 in
theorem K_contains {X : zX} (hl0 : (xl X).stackTraces = false) {F G : Nat → Bool} {s o1 o2 M : Nat} {r : Nat → Nat} {V : Nat → Int32} {N : Nat} {S : ZM} {D : ZD} {J : Nat → Int64} {lk : ZL} {as L T : Nat → Nat} {k n i : Nat} {q6 q7 q8 : Option ZV} (C : zC X RL cL_law 9 LWl) (Nc : zNc (xs X)) (hR : xR X = room_1) (hF : LF F G s o1 o2 M r) (hI : LI D J lk as (rsOff F S) L T) (hM : iM D J S M r) (hA : LA F s o1 o2 V N S) (hXs : LX X s N V) (hi : i + 3 < N) (hN : N ≤ 2048) (hk : k + 100 ≤ 60000 ∧ n + 1000 ≤ 600000) (kk : LK X F G s o1 o2 M r V N L k n i) : zW X 9 k n S 2679 [some (zr (some s)), some (zr (some (L 0))), some (zr (some M)), some (zr (some o1)), some (zr (some o2)), some (zi (nI i)), q6, q7, q8] [] := by
  have hX := fun (Sm : ZM) (h : iM D J Sm M r) => X_contains hl0 hI h (V (i + 1)) (V (i + 2))
  have hx6 := LI.k6 hI
  refine z_aload_n C rfl dL_law_2679 ?_
  refine z_aload_n C rfl dL_law_2680 ?_
  refine z_iload C rfl dL_law_2681 ?_
  refine z_iconst 1 (by decide) C dL_law_2683 ?_
  refine z_iadd C dL_law_2684 ?_
  refine z_sld C hXs (ld_in1 hi hN) dL_law_2685 ?_
  refine z_int (ld_v1 hi hN) ?_
  refine z_aload_n C rfl dL_law_2686 ?_
  refine z_iload C rfl dL_law_2687 ?_
  refine z_iconst 2 (by decide) C dL_law_2689 ?_
  refine z_iadd C dL_law_2690 ?_
  refine z_sld C hXs (ld_in2 hi hN) dL_law_2691 ?_
  refine z_int (ld_v2 hi hN) ?_
  refine z_aload_n C rfl dL_law_2692 ?_
  refine z_callSH 4 [zr (some (L 0)), zi (V (i + 1)), zi (V (i + 2)), zr (some o1)] C Nc (W_contains hl0 (V (i + 1)) (V (i + 2)) hF.1.2.1 hA.2.1.1 hA.2.1.2 hx6 hA.2.2.2 (C_contains hl0 hI.1 (V (i + 1)) (V (i + 2))) (hvO (hX S hM)) (fun E S1 hp => es_1 ((hX S hM).2 E S1 hp))) rfl (zgoodS3 LWl_good (fun w h => h) wq496 wq497 wq207 wq498) rfl rfl rfl (by decide +kernel) rfl (by rw [hR]; exact ⟨Nat.le_of_ble_eq_true rfl, Nat.le_of_ble_eq_true rfl⟩) (rmK hR (by omega) (by omega)) (Nat.le_of_ble_eq_true rfl) dL_law_2693 (fun v1 S1 h1 => ?_) (fun E1 S1 h1 => h1.elim)
  obtain ⟨k9, D1, J1, lk1, as1, T1, PM, rfl, hL, hM1, hmc, hPM, hno⟩ := LM.of2 hI hM hA hF (pOk_B o1) hX h1
  refine z_istore [_, _, _, _, _, _, _, _, _] C (by decide) rfl dL_law_2696 ?_
  refine z_aload_n C rfl dL_law_2698 ?_
  refine z_aload_n C rfl dL_law_2699 ?_
  refine z_iload C rfl dL_law_2700 ?_
  refine z_iconst 1 (by decide) C dL_law_2702 ?_
  refine z_iadd C dL_law_2703 ?_
  refine z_sld C hXs (ld_in1 hi hN) dL_law_2704 ?_
  refine z_int (ld_v1 hi hN) ?_
  refine z_aload_n C rfl dL_law_2705 ?_
  refine z_iload C rfl dL_law_2706 ?_
  refine z_iconst 2 (by decide) C dL_law_2708 ?_
  refine z_iadd C dL_law_2709 ?_
  refine z_sld C hXs (ld_in2 hi hN) dL_law_2710 ?_
  refine z_int (ld_v2 hi hN) ?_
  refine z_callM 2 [zi (V (i + 1)), zi (V (i + 2))] C rfl (hmc.off G) rfl (zgoodV3 LWl_good (fun w h => ul_m h) wq499 (ul_m wm127) (ul_m wm128) (ul_m wm37) (ul_m wm129)) rfl rfl rfl (by decide +kernel) rfl (by rw [hR]; exact ⟨Nat.le_of_ble_eq_true rfl, Nat.le_of_ble_eq_true rfl⟩) hM1.k (rmK hR (by omega) (by omega)) (Nat.le_of_ble_eq_true rfl) dL_law_2711 (fun v2 S2 h2 => ?_) (fun E2 S2 h2 => ?_)
  · obtain ⟨S2, hp, rfl, -⟩ := h2
    obtain ⟨z, rfl, hfl, hq⟩ := hPM _ _ hp
    obtain ⟨D', hm, hI', hA'⟩ := hL.back hF hfl
    refine z_istore [_, _, _, _, _, _, _, _, _] C (by decide) rfl dL_law_2714 ?_
    refine z_aload_n C rfl dL_law_2716 ?_
    refine z_callM 0 [] C rfl (M_thrown hl0 hm) rfl (zgoodV3 LWl_good (fun w h => ul_m h) wq213 wq214 wq215 (ul_m wm37) wq216) rfl rfl rfl (by decide +kernel) rfl (by rw [hR]; exact ⟨Nat.le_of_ble_eq_true rfl, Nat.le_of_ble_eq_true rfl⟩) hm.1 (rmK hR (by omega) (by omega)) (Nat.le_of_ble_eq_true rfl) dL_law_2717 (fun v3 S3 h3 => ?_) (fun E3 S3 h3 => h3.elim)
    obtain ⟨rfl, hS3⟩ := h3
    subst hS3
    refine z_iload C rfl dL_law_2720 ?_
    refine z_icmp_eq 2727 C dL_law_2722 (by decide) (fun c9 => ?_) (fun c9 => absurd (rfl : (s39 D' k9) 39 0 = k9) c9)
    refine z_iload C rfl dL_law_2727 ?_
    refine z_if_ne 2751 C dL_law_2729 (by decide) (fun c8 => ?_) (fun c8 => ?_)
    · refine z_goto 3254 C dL_law_2751 (by decide) ?_
      exact kk _ _ _ _ _ _ _ _ _ _ _ (by omega) (by omega) hI' ⟨k9, hm⟩ hA'
    · obtain ⟨S0, hA0, hS1⟩ := hq c8
      subst hS1
      refine z_aload_n C rfl dL_law_2732 ?_
      refine z_iconst 0 (by decide) C dL_law_2733 ?_
      refine z_laload C hA'.2.1.1 (by rw [hA'.2.1.2]; exact vp01) dL_law_2734 ?_
      refine z_lng ((congrFun (mrg_in hF.2.2.2.2.1).2.2.2.2.2.1 _).trans (ptB_at o1 S0 z)) ?_
      refine z_iload C rfl dL_law_2735 ?_
      refine z_if_eq 2744 C dL_law_2737 (by decide) (fun c7 => ?_) (fun c7 => ?_)
      · refine z_lconst 0 (by decide) C dL_law_2744 ?_
        refine z_lcmp C dL_law_2745 ?_
        refine z_if_eq 2751 C dL_law_2746 (by decide) (fun c6 => ?_) (fun c6 => absurd (by rw [if_pos c7]; exact lg_self _) c6)
        refine z_goto 3254 C dL_law_2751 (by decide) ?_
        exact kk _ _ _ _ _ _ _ _ _ _ _ (by omega) (by omega) hI' ⟨k9, hm⟩ hA'
      · refine z_lconst 1 (by decide) C dL_law_2740 ?_
        refine z_goto 2745 C dL_law_2741 (by decide) ?_
        refine z_lcmp C dL_law_2745 ?_
        refine z_if_eq 2751 C dL_law_2746 (by decide) (fun c6 => ?_) (fun c6 => absurd (by rw [if_neg c7]; exact lg_self _) c6)
        refine z_goto 3254 C dL_law_2751 (by decide) ?_
        exact kk _ _ _ _ _ _ _ _ _ _ _ (by omega) (by omega) hI' ⟨k9, hm⟩ hA'
  · obtain ⟨S2, hp, -⟩ := h2
    exact absurd hp (hno _ _)
set_option maxRecDepth 100000 in
set_option maxHeartbeats 1000000 in
theorem K_containsByRounds {X : zX} (hl0 : (xl X).stackTraces = false) {F G : Nat → Bool} {s o1 o2 M : Nat} {r : Nat → Nat} {V : Nat → Int32} {N : Nat} {S : ZM} {D : ZD} {J : Nat → Int64} {lk : ZL} {as L T : Nat → Nat} {k n i : Nat} {q6 q7 q8 : Option ZV} (C : zC X RL cL_law 9 LWl) (Nc : zNc (xs X)) (hR : xR X = room_1) (hF : LF F G s o1 o2 M r) (hI : LI D J lk as (rsOff F S) L T) (hM : iM D J S M r) (hA : LA F s o1 o2 V N S) (hXs : LX X s N V) (hi : i + 3 < N) (hN : N ≤ 2048) (hk : k + 100 ≤ 60000 ∧ n + 1000 ≤ 600000) (kk : LK X F G s o1 o2 M r V N L k n i) : zW X 9 k n S 2754 [some (zr (some s)), some (zr (some (L 0))), some (zr (some M)), some (zr (some o1)), some (zr (some o2)), some (zi (nI i)), q6, q7, q8] [] := by
  have hX := fun (Sm : ZM) (h : iM D J Sm M r) => X_containsByRounds hl0 hI h (V (i + 1)) (V (i + 2))
  have hx6 := LI.k6 hI
  refine z_aload_n C rfl dL_law_2754 ?_
  refine z_aload_n C rfl dL_law_2755 ?_
  refine z_iload C rfl dL_law_2756 ?_
  refine z_iconst 1 (by decide) C dL_law_2758 ?_
  refine z_iadd C dL_law_2759 ?_
  refine z_sld C hXs (ld_in1 hi hN) dL_law_2760 ?_
  refine z_int (ld_v1 hi hN) ?_
  refine z_aload_n C rfl dL_law_2761 ?_
  refine z_iload C rfl dL_law_2762 ?_
  refine z_iconst 2 (by decide) C dL_law_2764 ?_
  refine z_iadd C dL_law_2765 ?_
  refine z_sld C hXs (ld_in2 hi hN) dL_law_2766 ?_
  refine z_int (ld_v2 hi hN) ?_
  refine z_aload_n C rfl dL_law_2767 ?_
  refine z_callSH 4 [zr (some (L 0)), zi (V (i + 1)), zi (V (i + 2)), zr (some o1)] C Nc (W_containsByRounds hl0 (V (i + 1)) (V (i + 2)) hF.1.2.1 hA.2.1.1 hA.2.1.2 hx6 hA.2.2.2 (C_containsByRounds hl0 hI.1 (V (i + 1)) (V (i + 2))) (hvO (hX S hM)) (fun E S1 hp => es_1 ((hX S hM).2 E S1 hp))) rfl (zgoodS3 LWl_good (fun w h => h) wq500 wq501 wq207 wq502) rfl rfl rfl (by decide +kernel) rfl (by rw [hR]; exact ⟨Nat.le_of_ble_eq_true rfl, Nat.le_of_ble_eq_true rfl⟩) (rmK hR (by omega) (by omega)) (Nat.le_of_ble_eq_true rfl) dL_law_2768 (fun v1 S1 h1 => ?_) (fun E1 S1 h1 => h1.elim)
  obtain ⟨k9, D1, J1, lk1, as1, T1, PM, rfl, hL, hM1, hmc, hPM, hno⟩ := LM.of2 hI hM hA hF (pOk_B o1) hX h1
  refine z_istore [_, _, _, _, _, _, _, _, _] C (by decide) rfl dL_law_2771 ?_
  refine z_aload_n C rfl dL_law_2773 ?_
  refine z_aload_n C rfl dL_law_2774 ?_
  refine z_iload C rfl dL_law_2775 ?_
  refine z_iconst 1 (by decide) C dL_law_2777 ?_
  refine z_iadd C dL_law_2778 ?_
  refine z_sld C hXs (ld_in1 hi hN) dL_law_2779 ?_
  refine z_int (ld_v1 hi hN) ?_
  refine z_aload_n C rfl dL_law_2780 ?_
  refine z_iload C rfl dL_law_2781 ?_
  refine z_iconst 2 (by decide) C dL_law_2783 ?_
  refine z_iadd C dL_law_2784 ?_
  refine z_sld C hXs (ld_in2 hi hN) dL_law_2785 ?_
  refine z_int (ld_v2 hi hN) ?_
  refine z_callM 2 [zi (V (i + 1)), zi (V (i + 2))] C rfl (hmc.off G) rfl (zgoodV3 LWl_good (fun w h => ul_m h) wq503 wq504 wq505 (ul_m wm37) wq506) rfl rfl rfl (by decide +kernel) rfl (by rw [hR]; exact ⟨Nat.le_of_ble_eq_true rfl, Nat.le_of_ble_eq_true rfl⟩) hM1.k (rmK hR (by omega) (by omega)) (Nat.le_of_ble_eq_true rfl) dL_law_2786 (fun v2 S2 h2 => ?_) (fun E2 S2 h2 => ?_)
  · obtain ⟨S2, hp, rfl, -⟩ := h2
    obtain ⟨z, rfl, hfl, hq⟩ := hPM _ _ hp
    obtain ⟨D', hm, hI', hA'⟩ := hL.back hF hfl
    refine z_istore [_, _, _, _, _, _, _, _, _] C (by decide) rfl dL_law_2789 ?_
    refine z_aload_n C rfl dL_law_2791 ?_
    refine z_callM 0 [] C rfl (M_thrown hl0 hm) rfl (zgoodV3 LWl_good (fun w h => ul_m h) wq213 wq214 wq215 (ul_m wm37) wq216) rfl rfl rfl (by decide +kernel) rfl (by rw [hR]; exact ⟨Nat.le_of_ble_eq_true rfl, Nat.le_of_ble_eq_true rfl⟩) hm.1 (rmK hR (by omega) (by omega)) (Nat.le_of_ble_eq_true rfl) dL_law_2792 (fun v3 S3 h3 => ?_) (fun E3 S3 h3 => h3.elim)
    obtain ⟨rfl, hS3⟩ := h3
    subst hS3
    refine z_iload C rfl dL_law_2795 ?_
    refine z_icmp_eq 2802 C dL_law_2797 (by decide) (fun c9 => ?_) (fun c9 => absurd (rfl : (s39 D' k9) 39 0 = k9) c9)
    refine z_iload C rfl dL_law_2802 ?_
    refine z_if_ne 2826 C dL_law_2804 (by decide) (fun c8 => ?_) (fun c8 => ?_)
    · refine z_goto 3254 C dL_law_2826 (by decide) ?_
      exact kk _ _ _ _ _ _ _ _ _ _ _ (by omega) (by omega) hI' ⟨k9, hm⟩ hA'
    · obtain ⟨S0, hA0, hS1⟩ := hq c8
      subst hS1
      refine z_aload_n C rfl dL_law_2807 ?_
      refine z_iconst 0 (by decide) C dL_law_2808 ?_
      refine z_laload C hA'.2.1.1 (by rw [hA'.2.1.2]; exact vp01) dL_law_2809 ?_
      refine z_lng ((congrFun (mrg_in hF.2.2.2.2.1).2.2.2.2.2.1 _).trans (ptB_at o1 S0 z)) ?_
      refine z_iload C rfl dL_law_2810 ?_
      refine z_if_eq 2819 C dL_law_2812 (by decide) (fun c7 => ?_) (fun c7 => ?_)
      · refine z_lconst 0 (by decide) C dL_law_2819 ?_
        refine z_lcmp C dL_law_2820 ?_
        refine z_if_eq 2826 C dL_law_2821 (by decide) (fun c6 => ?_) (fun c6 => absurd (by rw [if_pos c7]; exact lg_self _) c6)
        refine z_goto 3254 C dL_law_2826 (by decide) ?_
        exact kk _ _ _ _ _ _ _ _ _ _ _ (by omega) (by omega) hI' ⟨k9, hm⟩ hA'
      · refine z_lconst 1 (by decide) C dL_law_2815 ?_
        refine z_goto 2820 C dL_law_2816 (by decide) ?_
        refine z_lcmp C dL_law_2820 ?_
        refine z_if_eq 2826 C dL_law_2821 (by decide) (fun c6 => ?_) (fun c6 => absurd (by rw [if_neg c7]; exact lg_self _) c6)
        refine z_goto 3254 C dL_law_2826 (by decide) ?_
        exact kk _ _ _ _ _ _ _ _ _ _ _ (by omega) (by omega) hI' ⟨k9, hm⟩ hA'
  · obtain ⟨S2, hp, -⟩ := h2
    exact absurd hp (hno _ _)
set_option maxRecDepth 100000 in
set_option maxHeartbeats 1000000 in
theorem K_secondsOf {X : zX} (hl0 : (xl X).stackTraces = false) {F G : Nat → Bool} {s o1 o2 M : Nat} {r : Nat → Nat} {V : Nat → Int32} {N : Nat} {S : ZM} {D : ZD} {J : Nat → Int64} {lk : ZL} {as L T : Nat → Nat} {k n i : Nat} {q6 q7 q8 : Option ZV} (C : zC X RL cL_law 9 LWl) (Nc : zNc (xs X)) (hR : xR X = room_1) (hF : LF F G s o1 o2 M r) (hI : LI D J lk as (rsOff F S) L T) (hM : iM D J S M r) (hA : LA F s o1 o2 V N S) (hXs : LX X s N V) (hi : i + 3 < N) (hN : N ≤ 2048) (hk : k + 100 ≤ 60000 ∧ n + 1000 ≤ 600000) (kk : LK X F G s o1 o2 M r V N L k n i) : zW X 9 k n S 2829 [some (zr (some s)), some (zr (some (L 0))), some (zr (some M)), some (zr (some o1)), some (zr (some o2)), some (zi (nI i)), q6, q7, q8] [] := by
  have hX := fun (Sm : ZM) (h : iM D J Sm M r) => X_secondsOf hl0 hI h (V (i + 1))
  have hx6 := LI.k6 hI
  refine z_aload_n C rfl dL_law_2829 ?_
  refine z_aload_n C rfl dL_law_2830 ?_
  refine z_iload C rfl dL_law_2831 ?_
  refine z_iconst 1 (by decide) C dL_law_2833 ?_
  refine z_iadd C dL_law_2834 ?_
  refine z_sld C hXs (ld_in1 hi hN) dL_law_2835 ?_
  refine z_int (ld_v1 hi hN) ?_
  refine z_aload_n C rfl dL_law_2836 ?_
  refine z_callSH 3 [zr (some (L 0)), zi (V (i + 1)), zr (some o1)] C Nc (W_secondsOf hl0 (V (i + 1)) hF.1.2.1 hA.2.1.1 hA.2.1.2 hx6 hA.2.2.2 (C_secondsOf hl0 hI.1 (V (i + 1))) (hvO (hX S hM)) (fun E S1 hp => es_1 ((hX S hM).2 E S1 hp))) rfl (zgoodS3 LWl_good (fun w h => h) wq507 wq508 wq207 wq509) rfl rfl rfl (by decide +kernel) rfl (by rw [hR]; exact ⟨Nat.le_of_ble_eq_true rfl, Nat.le_of_ble_eq_true rfl⟩) (rmK hR (by omega) (by omega)) (Nat.le_of_ble_eq_true rfl) dL_law_2837 (fun v1 S1 h1 => ?_) (fun E1 S1 h1 => h1.elim)
  obtain ⟨k9, D1, J1, lk1, as1, T1, PM, rfl, hL, hM1, hmc, hPM, hno⟩ := LM.of2 hI hM hA hF (pOk_I o1) hX h1
  refine z_istore [_, _, _, _, _, _, _, _, _] C (by decide) rfl dL_law_2840 ?_
  refine z_aload_n C rfl dL_law_2842 ?_
  refine z_aload_n C rfl dL_law_2843 ?_
  refine z_iload C rfl dL_law_2844 ?_
  refine z_iconst 1 (by decide) C dL_law_2846 ?_
  refine z_iadd C dL_law_2847 ?_
  refine z_sld C hXs (ld_in1 hi hN) dL_law_2848 ?_
  refine z_int (ld_v1 hi hN) ?_
  refine z_callM 1 [zi (V (i + 1))] C rfl (hmc.off G) rfl (zgoodV3 LWl_good (fun w h => ul_m h) wq510 wq511 wq512 (ul_m wm37) wq513) rfl rfl rfl (by decide +kernel) rfl (by rw [hR]; exact ⟨Nat.le_of_ble_eq_true rfl, Nat.le_of_ble_eq_true rfl⟩) hM1.k (rmK hR (by omega) (by omega)) (Nat.le_of_ble_eq_true rfl) dL_law_2849 (fun v2 S2 h2 => ?_) (fun E2 S2 h2 => ?_)
  · obtain ⟨S2, hp, rfl, -⟩ := h2
    obtain ⟨z, rfl, hfl, hq⟩ := hPM _ _ hp
    obtain ⟨D', hm, hI', hA'⟩ := hL.back hF hfl
    refine z_istore [_, _, _, _, _, _, _, _, _] C (by decide) rfl dL_law_2852 ?_
    refine z_aload_n C rfl dL_law_2854 ?_
    refine z_callM 0 [] C rfl (M_thrown hl0 hm) rfl (zgoodV3 LWl_good (fun w h => ul_m h) wq213 wq214 wq215 (ul_m wm37) wq216) rfl rfl rfl (by decide +kernel) rfl (by rw [hR]; exact ⟨Nat.le_of_ble_eq_true rfl, Nat.le_of_ble_eq_true rfl⟩) hm.1 (rmK hR (by omega) (by omega)) (Nat.le_of_ble_eq_true rfl) dL_law_2855 (fun v3 S3 h3 => ?_) (fun E3 S3 h3 => h3.elim)
    obtain ⟨rfl, hS3⟩ := h3
    subst hS3
    refine z_iload C rfl dL_law_2858 ?_
    refine z_icmp_eq 2865 C dL_law_2860 (by decide) (fun c9 => ?_) (fun c9 => absurd (rfl : (s39 D' k9) 39 0 = k9) c9)
    refine z_iload C rfl dL_law_2865 ?_
    refine z_if_ne 2882 C dL_law_2867 (by decide) (fun c8 => ?_) (fun c8 => ?_)
    · refine z_goto 3254 C dL_law_2882 (by decide) ?_
      exact kk _ _ _ _ _ _ _ _ _ _ _ (by omega) (by omega) hI' ⟨k9, hm⟩ hA'
    · obtain ⟨S0, hA0, hS1⟩ := hq c8
      subst hS1
      refine z_aload_n C rfl dL_law_2870 ?_
      refine z_iconst 0 (by decide) C dL_law_2871 ?_
      refine z_laload C hA'.2.1.1 (by rw [hA'.2.1.2]; exact vp01) dL_law_2872 ?_
      refine z_lng ((congrFun (mrg_in hF.2.2.2.2.1).2.2.2.2.2.1 _).trans (ptI_at o1 S0 z)) ?_
      refine z_iload C rfl dL_law_2873 ?_
      refine z_i2l C dL_law_2875 ?_
      refine z_lcmp C dL_law_2876 ?_
      refine z_if_eq 2882 C dL_law_2877 (by decide) (fun c6 => ?_) (fun c6 => absurd (lg_self _) c6)
      refine z_goto 3254 C dL_law_2882 (by decide) ?_
      exact kk _ _ _ _ _ _ _ _ _ _ _ (by omega) (by omega) hI' ⟨k9, hm⟩ hA'
  · obtain ⟨S2, hp, -⟩ := h2
    exact absurd hp (hno _ _)
set_option maxRecDepth 100000 in
set_option maxHeartbeats 1000000 in
theorem K_common {X : zX} (hl0 : (xl X).stackTraces = false) {F G : Nat → Bool} {s o1 o2 M : Nat} {r : Nat → Nat} {V : Nat → Int32} {N : Nat} {S : ZM} {D : ZD} {J : Nat → Int64} {lk : ZL} {as L T : Nat → Nat} {k n i : Nat} {q6 q7 q8 : Option ZV} (C : zC X RL cL_law 9 LWl) (Nc : zNc (xs X)) (hR : xR X = room_1) (hF : LF F G s o1 o2 M r) (hI : LI D J lk as (rsOff F S) L T) (hM : iM D J S M r) (hA : LA F s o1 o2 V N S) (hXs : LX X s N V) (hi : i + 3 < N) (hN : N ≤ 2048) (hk : k + 100 ≤ 60000 ∧ n + 1000 ≤ 600000) (kk : LK X F G s o1 o2 M r V N L k n i) : zW X 9 k n S 2885 [some (zr (some s)), some (zr (some (L 0))), some (zr (some M)), some (zr (some o1)), some (zr (some o2)), some (zi (nI i)), q6, q7, q8] [] := by
  have hX := fun (Sm : ZM) (h : iM D J Sm M r) => X_common hl0 hI h (V (i + 1)) (V (i + 2))
  have hx6 := LI.k6 hI
  refine z_aload_n C rfl dL_law_2885 ?_
  refine z_aload_n C rfl dL_law_2886 ?_
  refine z_iload C rfl dL_law_2887 ?_
  refine z_iconst 1 (by decide) C dL_law_2889 ?_
  refine z_iadd C dL_law_2890 ?_
  refine z_sld C hXs (ld_in1 hi hN) dL_law_2891 ?_
  refine z_int (ld_v1 hi hN) ?_
  refine z_aload_n C rfl dL_law_2892 ?_
  refine z_iload C rfl dL_law_2893 ?_
  refine z_iconst 2 (by decide) C dL_law_2895 ?_
  refine z_iadd C dL_law_2896 ?_
  refine z_sld C hXs (ld_in2 hi hN) dL_law_2897 ?_
  refine z_int (ld_v2 hi hN) ?_
  refine z_aload_n C rfl dL_law_2898 ?_
  refine z_callSH 4 [zr (some (L 0)), zi (V (i + 1)), zi (V (i + 2)), zr (some o1)] C Nc (W_common hl0 (V (i + 1)) (V (i + 2)) hF.1.2.1 hA.2.1.1 hA.2.1.2 hx6 hA.2.2.2 (C_common hl0 hI.1 (V (i + 1)) (V (i + 2))) (hvO (hX S hM)) (fun E S1 hp => es_1 ((hX S hM).2 E S1 hp))) rfl (zgoodS3 LWl_good (fun w h => h) wq514 wq515 wq207 wq516) rfl rfl rfl (by decide +kernel) rfl (by rw [hR]; exact ⟨Nat.le_of_ble_eq_true rfl, Nat.le_of_ble_eq_true rfl⟩) (rmK hR (by omega) (by omega)) (Nat.le_of_ble_eq_true rfl) dL_law_2899 (fun v1 S1 h1 => ?_) (fun E1 S1 h1 => h1.elim)
  obtain ⟨k9, D1, J1, lk1, as1, T1, PM, rfl, hL, hM1, hmc, hPM, hno⟩ := LM.of2 hI hM hA hF (pOk_I o1) hX h1
  refine z_istore [_, _, _, _, _, _, _, _, _] C (by decide) rfl dL_law_2902 ?_
  refine z_aload_n C rfl dL_law_2904 ?_
  refine z_aload_n C rfl dL_law_2905 ?_
  refine z_iload C rfl dL_law_2906 ?_
  refine z_iconst 1 (by decide) C dL_law_2908 ?_
  refine z_iadd C dL_law_2909 ?_
  refine z_sld C hXs (ld_in1 hi hN) dL_law_2910 ?_
  refine z_int (ld_v1 hi hN) ?_
  refine z_aload_n C rfl dL_law_2911 ?_
  refine z_iload C rfl dL_law_2912 ?_
  refine z_iconst 2 (by decide) C dL_law_2914 ?_
  refine z_iadd C dL_law_2915 ?_
  refine z_sld C hXs (ld_in2 hi hN) dL_law_2916 ?_
  refine z_int (ld_v2 hi hN) ?_
  refine z_callM 2 [zi (V (i + 1)), zi (V (i + 2))] C rfl (hmc.off G) rfl (zgoodV3 LWl_good (fun w h => ul_m h) wq517 wq518 wq519 (ul_m wm37) wq520) rfl rfl rfl (by decide +kernel) rfl (by rw [hR]; exact ⟨Nat.le_of_ble_eq_true rfl, Nat.le_of_ble_eq_true rfl⟩) hM1.k (rmK hR (by omega) (by omega)) (Nat.le_of_ble_eq_true rfl) dL_law_2917 (fun v2 S2 h2 => ?_) (fun E2 S2 h2 => ?_)
  · obtain ⟨S2, hp, rfl, -⟩ := h2
    obtain ⟨z, rfl, hfl, hq⟩ := hPM _ _ hp
    obtain ⟨D', hm, hI', hA'⟩ := hL.back hF hfl
    refine z_istore [_, _, _, _, _, _, _, _, _] C (by decide) rfl dL_law_2920 ?_
    refine z_aload_n C rfl dL_law_2922 ?_
    refine z_callM 0 [] C rfl (M_thrown hl0 hm) rfl (zgoodV3 LWl_good (fun w h => ul_m h) wq213 wq214 wq215 (ul_m wm37) wq216) rfl rfl rfl (by decide +kernel) rfl (by rw [hR]; exact ⟨Nat.le_of_ble_eq_true rfl, Nat.le_of_ble_eq_true rfl⟩) hm.1 (rmK hR (by omega) (by omega)) (Nat.le_of_ble_eq_true rfl) dL_law_2923 (fun v3 S3 h3 => ?_) (fun E3 S3 h3 => h3.elim)
    obtain ⟨rfl, hS3⟩ := h3
    subst hS3
    refine z_iload C rfl dL_law_2926 ?_
    refine z_icmp_eq 2933 C dL_law_2928 (by decide) (fun c9 => ?_) (fun c9 => absurd (rfl : (s39 D' k9) 39 0 = k9) c9)
    refine z_iload C rfl dL_law_2933 ?_
    refine z_if_ne 2950 C dL_law_2935 (by decide) (fun c8 => ?_) (fun c8 => ?_)
    · refine z_goto 3254 C dL_law_2950 (by decide) ?_
      exact kk _ _ _ _ _ _ _ _ _ _ _ (by omega) (by omega) hI' ⟨k9, hm⟩ hA'
    · obtain ⟨S0, hA0, hS1⟩ := hq c8
      subst hS1
      refine z_aload_n C rfl dL_law_2938 ?_
      refine z_iconst 0 (by decide) C dL_law_2939 ?_
      refine z_laload C hA'.2.1.1 (by rw [hA'.2.1.2]; exact vp01) dL_law_2940 ?_
      refine z_lng ((congrFun (mrg_in hF.2.2.2.2.1).2.2.2.2.2.1 _).trans (ptI_at o1 S0 z)) ?_
      refine z_iload C rfl dL_law_2941 ?_
      refine z_i2l C dL_law_2943 ?_
      refine z_lcmp C dL_law_2944 ?_
      refine z_if_eq 2950 C dL_law_2945 (by decide) (fun c6 => ?_) (fun c6 => absurd (lg_self _) c6)
      refine z_goto 3254 C dL_law_2950 (by decide) ?_
      exact kk _ _ _ _ _ _ _ _ _ _ _ (by omega) (by omega) hI' ⟨k9, hm⟩ hA'
  · obtain ⟨S2, hp, -⟩ := h2
    exact absurd hp (hno _ _)
set_option maxRecDepth 100000 in
set_option maxHeartbeats 1000000 in
theorem K_dependsOn {X : zX} (hl0 : (xl X).stackTraces = false) {F G : Nat → Bool} {s o1 o2 M : Nat} {r : Nat → Nat} {V : Nat → Int32} {N : Nat} {S : ZM} {D : ZD} {J : Nat → Int64} {lk : ZL} {as L T : Nat → Nat} {k n i : Nat} {q6 q7 q8 : Option ZV} (C : zC X RL cL_law 9 LWl) (Nc : zNc (xs X)) (hR : xR X = room_1) (hF : LF F G s o1 o2 M r) (hI : LI D J lk as (rsOff F S) L T) (hM : iM D J S M r) (hA : LA F s o1 o2 V N S) (hXs : LX X s N V) (hi : i + 3 < N) (hN : N ≤ 2048) (hk : k + 100 ≤ 60000 ∧ n + 1000 ≤ 600000) (kk : LK X F G s o1 o2 M r V N L k n i) : zW X 9 k n S 2953 [some (zr (some s)), some (zr (some (L 0))), some (zr (some M)), some (zr (some o1)), some (zr (some o2)), some (zi (nI i)), q6, q7, q8] [] := by
  have hX := fun (Sm : ZM) (h : iM D J Sm M r) => X_dependsOn hl0 hI h (V (i + 1)) (V (i + 2))
  have hx6 := LI.k6 hI
  refine z_aload_n C rfl dL_law_2953 ?_
  refine z_aload_n C rfl dL_law_2954 ?_
  refine z_iload C rfl dL_law_2955 ?_
  refine z_iconst 1 (by decide) C dL_law_2957 ?_
  refine z_iadd C dL_law_2958 ?_
  refine z_sld C hXs (ld_in1 hi hN) dL_law_2959 ?_
  refine z_int (ld_v1 hi hN) ?_
  refine z_aload_n C rfl dL_law_2960 ?_
  refine z_iload C rfl dL_law_2961 ?_
  refine z_iconst 2 (by decide) C dL_law_2963 ?_
  refine z_iadd C dL_law_2964 ?_
  refine z_sld C hXs (ld_in2 hi hN) dL_law_2965 ?_
  refine z_int (ld_v2 hi hN) ?_
  refine z_aload_n C rfl dL_law_2966 ?_
  refine z_callSH 4 [zr (some (L 0)), zi (V (i + 1)), zi (V (i + 2)), zr (some o1)] C Nc (W_dependsOn hl0 (V (i + 1)) (V (i + 2)) hF.1.2.1 hA.2.1.1 hA.2.1.2 hx6 hA.2.2.2 (C_dependsOn hl0 hI.1 (V (i + 1)) (V (i + 2))) (hvO (hX S hM)) (fun E S1 hp => es_1 ((hX S hM).2 E S1 hp))) rfl (zgoodS3 LWl_good (fun w h => h) wq521 wq522 wq207 wq523) rfl rfl rfl (by decide +kernel) rfl (by rw [hR]; exact ⟨Nat.le_of_ble_eq_true rfl, Nat.le_of_ble_eq_true rfl⟩) (rmK hR (by omega) (by omega)) (Nat.le_of_ble_eq_true rfl) dL_law_2967 (fun v1 S1 h1 => ?_) (fun E1 S1 h1 => h1.elim)
  obtain ⟨k9, D1, J1, lk1, as1, T1, PM, rfl, hL, hM1, hmc, hPM, hno⟩ := LM.of2 hI hM hA hF (pOk_B o1) hX h1
  refine z_istore [_, _, _, _, _, _, _, _, _] C (by decide) rfl dL_law_2970 ?_
  refine z_aload_n C rfl dL_law_2972 ?_
  refine z_aload_n C rfl dL_law_2973 ?_
  refine z_iload C rfl dL_law_2974 ?_
  refine z_iconst 1 (by decide) C dL_law_2976 ?_
  refine z_iadd C dL_law_2977 ?_
  refine z_sld C hXs (ld_in1 hi hN) dL_law_2978 ?_
  refine z_int (ld_v1 hi hN) ?_
  refine z_aload_n C rfl dL_law_2979 ?_
  refine z_iload C rfl dL_law_2980 ?_
  refine z_iconst 2 (by decide) C dL_law_2982 ?_
  refine z_iadd C dL_law_2983 ?_
  refine z_sld C hXs (ld_in2 hi hN) dL_law_2984 ?_
  refine z_int (ld_v2 hi hN) ?_
  refine z_callM 2 [zi (V (i + 1)), zi (V (i + 2))] C rfl (hmc.off G) rfl (zgoodV3 LWl_good (fun w h => ul_m h) wq524 wq525 wq526 (ul_m wm37) wq527) rfl rfl rfl (by decide +kernel) rfl (by rw [hR]; exact ⟨Nat.le_of_ble_eq_true rfl, Nat.le_of_ble_eq_true rfl⟩) hM1.k (rmK hR (by omega) (by omega)) (Nat.le_of_ble_eq_true rfl) dL_law_2985 (fun v2 S2 h2 => ?_) (fun E2 S2 h2 => ?_)
  · obtain ⟨S2, hp, rfl, -⟩ := h2
    obtain ⟨z, rfl, hfl, hq⟩ := hPM _ _ hp
    obtain ⟨D', hm, hI', hA'⟩ := hL.back hF hfl
    refine z_istore [_, _, _, _, _, _, _, _, _] C (by decide) rfl dL_law_2988 ?_
    refine z_aload_n C rfl dL_law_2990 ?_
    refine z_callM 0 [] C rfl (M_thrown hl0 hm) rfl (zgoodV3 LWl_good (fun w h => ul_m h) wq213 wq214 wq215 (ul_m wm37) wq216) rfl rfl rfl (by decide +kernel) rfl (by rw [hR]; exact ⟨Nat.le_of_ble_eq_true rfl, Nat.le_of_ble_eq_true rfl⟩) hm.1 (rmK hR (by omega) (by omega)) (Nat.le_of_ble_eq_true rfl) dL_law_2991 (fun v3 S3 h3 => ?_) (fun E3 S3 h3 => h3.elim)
    obtain ⟨rfl, hS3⟩ := h3
    subst hS3
    refine z_iload C rfl dL_law_2994 ?_
    refine z_icmp_eq 3001 C dL_law_2996 (by decide) (fun c9 => ?_) (fun c9 => absurd (rfl : (s39 D' k9) 39 0 = k9) c9)
    refine z_iload C rfl dL_law_3001 ?_
    refine z_if_ne 3025 C dL_law_3003 (by decide) (fun c8 => ?_) (fun c8 => ?_)
    · refine z_goto 3254 C dL_law_3025 (by decide) ?_
      exact kk _ _ _ _ _ _ _ _ _ _ _ (by omega) (by omega) hI' ⟨k9, hm⟩ hA'
    · obtain ⟨S0, hA0, hS1⟩ := hq c8
      subst hS1
      refine z_aload_n C rfl dL_law_3006 ?_
      refine z_iconst 0 (by decide) C dL_law_3007 ?_
      refine z_laload C hA'.2.1.1 (by rw [hA'.2.1.2]; exact vp01) dL_law_3008 ?_
      refine z_lng ((congrFun (mrg_in hF.2.2.2.2.1).2.2.2.2.2.1 _).trans (ptB_at o1 S0 z)) ?_
      refine z_iload C rfl dL_law_3009 ?_
      refine z_if_eq 3018 C dL_law_3011 (by decide) (fun c7 => ?_) (fun c7 => ?_)
      · refine z_lconst 0 (by decide) C dL_law_3018 ?_
        refine z_lcmp C dL_law_3019 ?_
        refine z_if_eq 3025 C dL_law_3020 (by decide) (fun c6 => ?_) (fun c6 => absurd (by rw [if_pos c7]; exact lg_self _) c6)
        refine z_goto 3254 C dL_law_3025 (by decide) ?_
        exact kk _ _ _ _ _ _ _ _ _ _ _ (by omega) (by omega) hI' ⟨k9, hm⟩ hA'
      · refine z_lconst 1 (by decide) C dL_law_3014 ?_
        refine z_goto 3019 C dL_law_3015 (by decide) ?_
        refine z_lcmp C dL_law_3019 ?_
        refine z_if_eq 3025 C dL_law_3020 (by decide) (fun c6 => ?_) (fun c6 => absurd (by rw [if_neg c7]; exact lg_self _) c6)
        refine z_goto 3254 C dL_law_3025 (by decide) ?_
        exact kk _ _ _ _ _ _ _ _ _ _ _ (by omega) (by omega) hI' ⟨k9, hm⟩ hA'
  · obtain ⟨S2, hp, -⟩ := h2
    exact absurd hp (hno _ _)
set_option maxRecDepth 100000 in
set_option maxHeartbeats 1000000 in
theorem K_mixes {X : zX} (hl0 : (xl X).stackTraces = false) {F G : Nat → Bool} {s o1 o2 M : Nat} {r : Nat → Nat} {V : Nat → Int32} {N : Nat} {S : ZM} {D : ZD} {J : Nat → Int64} {lk : ZL} {as L T : Nat → Nat} {k n i : Nat} {q6 q7 q8 : Option ZV} (C : zC X RL cL_law 9 LWl) (Nc : zNc (xs X)) (hR : xR X = room_1) (hF : LF F G s o1 o2 M r) (hI : LI D J lk as (rsOff F S) L T) (hM : iM D J S M r) (hA : LA F s o1 o2 V N S) (hXs : LX X s N V) (hi : i + 3 < N) (hN : N ≤ 2048) (hk : k + 100 ≤ 60000 ∧ n + 1000 ≤ 600000) (kk : LK X F G s o1 o2 M r V N L k n i) : zW X 9 k n S 3041 [some (zr (some s)), some (zr (some (L 0))), some (zr (some M)), some (zr (some o1)), some (zr (some o2)), some (zi (nI i)), q6, q7, q8] [] := by
  have hX := fun (Sm : ZM) (h : iM D J Sm M r) => X_mixes hl0 hI h (V (i + 1))
  have hx6 := LI.k6 hI
  refine z_aload_n C rfl dL_law_3041 ?_
  refine z_aload_n C rfl dL_law_3042 ?_
  refine z_iload C rfl dL_law_3043 ?_
  refine z_iconst 1 (by decide) C dL_law_3045 ?_
  refine z_iadd C dL_law_3046 ?_
  refine z_sld C hXs (ld_in1 hi hN) dL_law_3047 ?_
  refine z_int (ld_v1 hi hN) ?_
  refine z_aload_n C rfl dL_law_3048 ?_
  refine z_callSH 3 [zr (some (L 0)), zi (V (i + 1)), zr (some o1)] C Nc (W_mixes hl0 (V (i + 1)) hF.1.2.1 hA.2.1.1 hA.2.1.2 hx6 hA.2.2.2 (C_mixes hl0 hI.1 (V (i + 1))) (hvO (hX S hM)) (fun E S1 hp => es_2 ((hX S hM).2 E S1 hp))) rfl (zgoodS3 LWl_good (fun w h => h) wq536 wq537 wq207 wq538) rfl rfl rfl (by decide +kernel) rfl (by rw [hR]; exact ⟨Nat.le_of_ble_eq_true rfl, Nat.le_of_ble_eq_true rfl⟩) (rmK hR (by omega) (by omega)) (Nat.le_of_ble_eq_true rfl) dL_law_3049 (fun v1 S1 h1 => ?_) (fun E1 S1 h1 => h1.elim)
  obtain ⟨k9, D1, J1, lk1, as1, T1, PM, rfl, hL, hM1, hmc, hPM, hno⟩ := LM.of2 hI hM hA hF (pOk_I o1) hX h1
  refine z_istore [_, _, _, _, _, _, _, _, _] C (by decide) rfl dL_law_3052 ?_
  refine z_aload_n C rfl dL_law_3054 ?_
  refine z_aload_n C rfl dL_law_3055 ?_
  refine z_iload C rfl dL_law_3056 ?_
  refine z_iconst 1 (by decide) C dL_law_3058 ?_
  refine z_iadd C dL_law_3059 ?_
  refine z_sld C hXs (ld_in1 hi hN) dL_law_3060 ?_
  refine z_int (ld_v1 hi hN) ?_
  refine z_callM 1 [zi (V (i + 1))] C rfl (hmc.off G) rfl (zgoodV3 LWl_good (fun w h => ul_m h) wq539 wq540 wq541 (ul_m wm37) wq542) rfl rfl rfl (by decide +kernel) rfl (by rw [hR]; exact ⟨Nat.le_of_ble_eq_true rfl, Nat.le_of_ble_eq_true rfl⟩) hM1.k (rmK hR (by omega) (by omega)) (Nat.le_of_ble_eq_true rfl) dL_law_3061 (fun v2 S2 h2 => ?_) (fun E2 S2 h2 => ?_)
  · obtain ⟨S2, hp, rfl, -⟩ := h2
    obtain ⟨z, rfl, hfl, hq⟩ := hPM _ _ hp
    obtain ⟨D', hm, hI', hA'⟩ := hL.back hF hfl
    refine z_istore [_, _, _, _, _, _, _, _, _] C (by decide) rfl dL_law_3064 ?_
    refine z_aload_n C rfl dL_law_3066 ?_
    refine z_callM 0 [] C rfl (M_thrown hl0 hm) rfl (zgoodV3 LWl_good (fun w h => ul_m h) wq213 wq214 wq215 (ul_m wm37) wq216) rfl rfl rfl (by decide +kernel) rfl (by rw [hR]; exact ⟨Nat.le_of_ble_eq_true rfl, Nat.le_of_ble_eq_true rfl⟩) hm.1 (rmK hR (by omega) (by omega)) (Nat.le_of_ble_eq_true rfl) dL_law_3067 (fun v3 S3 h3 => ?_) (fun E3 S3 h3 => h3.elim)
    obtain ⟨rfl, hS3⟩ := h3
    subst hS3
    refine z_iload C rfl dL_law_3070 ?_
    refine z_icmp_eq 3077 C dL_law_3072 (by decide) (fun c9 => ?_) (fun c9 => absurd (rfl : (s39 D' k9) 39 0 = k9) c9)
    refine z_iload C rfl dL_law_3077 ?_
    refine z_if_ne 3094 C dL_law_3079 (by decide) (fun c8 => ?_) (fun c8 => ?_)
    · refine z_goto 3254 C dL_law_3094 (by decide) ?_
      exact kk _ _ _ _ _ _ _ _ _ _ _ (by omega) (by omega) hI' ⟨k9, hm⟩ hA'
    · obtain ⟨S0, hA0, hS1⟩ := hq c8
      subst hS1
      refine z_aload_n C rfl dL_law_3082 ?_
      refine z_iconst 0 (by decide) C dL_law_3083 ?_
      refine z_laload C hA'.2.1.1 (by rw [hA'.2.1.2]; exact vp01) dL_law_3084 ?_
      refine z_lng ((congrFun (mrg_in hF.2.2.2.2.1).2.2.2.2.2.1 _).trans (ptI_at o1 S0 z)) ?_
      refine z_iload C rfl dL_law_3085 ?_
      refine z_i2l C dL_law_3087 ?_
      refine z_lcmp C dL_law_3088 ?_
      refine z_if_eq 3094 C dL_law_3089 (by decide) (fun c6 => ?_) (fun c6 => absurd (lg_self _) c6)
      refine z_goto 3254 C dL_law_3094 (by decide) ?_
      exact kk _ _ _ _ _ _ _ _ _ _ _ (by omega) (by omega) hI' ⟨k9, hm⟩ hA'
  · obtain ⟨S2, hp, -⟩ := h2
    exact absurd hp (hno _ _)
