/-! the law's last turns -/
theorem f2d_ok {x : UInt32} (h : vf_n32 x) : vf_n64 (FP.f2d x) := by
  have h32 : FP.Core.fIsNaN x = false := by
    cases hq : FP.Core.fIsNaN x with
    | false => rfl
    | true =>
      rw [FP.Core.isNaN_bits32] at hq
      unfold vf_n32 at h
      rw [UInt32.le_iff_toNat_le, UInt32.toNat_and, show (0x7fffffff : UInt32).toNat = 2 ^ 31 - 1 from rfl, Nat.and_two_pow_sub_one_eq_mod] at h
      exact absurd hq (Nat.not_lt_of_le h)
  have h : ¬ FP.Core.dIsNaN (FP.Core.f2d x) = true := by rw [FP.Core.f2d_out h32]; decide
  rw [FP.Core.isNaN_bits] at h
  unfold vf_n64
  rw [UInt64.le_iff_toNat_le, UInt64.toNat_and, show (0x7fffffffffffffff : UInt64).toNat = 2 ^ 63 - 1 from rfl, Nat.and_two_pow_sub_one_eq_mod]
  first | (show _ ≤ 9218868437227405312; exact Nat.le_of_not_lt h) | (rw [FP.f2d_core h32]; show _ ≤ 9218868437227405312; exact Nat.le_of_not_lt h)
theorem zf_inj {x y : UInt32} (h : zf x = zf y) : x = y := Sum.inl.inj (Sum.inr.inj (Sum.inr.inj (Sum.inr.inj h)))
theorem zd_inj {x y : UInt64} (h : zd x = zd y) : x = y := Sum.inr.inj (Sum.inr.inj (Sum.inr.inj (Sum.inr.inj h)))
theorem dc_self {x : UInt64} {op : CmpOp} (h : vf_n64 x) : Op.cmpValue (FP.dcmp x x) op = 0 := by
  have hv : ¬ FP.Core.dIsNaN x = true := by
    intro hq
    rw [FP.Core.isNaN_bits] at hq
    unfold vf_n64 at h
    rw [UInt64.le_iff_toNat_le, UInt64.toNat_and, show (0x7fffffffffffffff : UInt64).toNat = 2 ^ 63 - 1 from rfl, Nat.and_two_pow_sub_one_eq_mod] at h
    exact absurd hq (Nat.not_lt_of_le h)
  rw [FP.Core.dIsNaN_iff] at hv
  rw [show FP.dcmp x x = some .eq from FP.Core.dcmp_self hv]
  cases op <;> rfl
theorem mrg_off (F : Nat → Bool) (S : ZM) : mrg F S (rsOff F S) = S := by
  obtain ⟨a1, a2, a3, a4, a5, a6, a7, a8, a9⟩ := S
  unfold mrg rsOff
  simp only [Prod.mk.injEq]
  refine ⟨?_, ?_, ?_, ?_, ?_, ?_, ?_, ?_, ?_⟩
  · funext b; cases h : F b <;> simp [h]
  all_goals (funext b; first | (cases h : F b <;> simp [h]; done) | (funext c; cases h : F c <;> simp [h]))
section LVs
variable {F G : Nat → Bool} {s o1 o2 M : Nat} {r : Nat → Nat} {V : Nat → Int32} {N i : Nat} {S S' S1 S2 : ZM} {D D1 : ZD} {J J1 : Nat → Int64} {lk lk1 : ZL} {as as1 : Nat → Nat} {L T T1 : Nat → Nat}
theorem LM.ofR {α : Type} {mk : α → ZV} {put : ZM → α → ZM} {PC : zP} {es : List (String × Int32)} {MC : ZM → zP → Prop} {R : α → Prop} (hI : LI D J lk as (rsOff F S) L T) (hM : iM D J S M r) (hA : LA F s o1 o2 V N S) (hF : LF F G s o1 o2 M r) (hput : ∀ (S : ZM) (z : α), pOk o1 S (put S z)) (hRz : ∀ (z : α) (S1 : ZM), PC (.inl (some (mk z))) S1 → R z) (hMt : ∀ Sm : ZM, iM D J Sm M r → Mt mk PC es D J lk as L T M r (MC Sm)) {v : Option ZV} (h : WQ mk put PC es F S (.inl v) S') : ∃ (k : Int32) (D1 : ZD) (J1 : Nat → Int64) (lk1 : ZL) (as1 T1 : Nat → Nat) (PM : zP), v = some (zi k) ∧ LM F G s o1 o2 M r V N S' D1 J1 lk1 as1 L T1 ∧ iM D J S' M r ∧ MC (rsOff G S') PM ∧ (∀ (v2 : Option ZV) (S2 : ZM), PM (.inl v2) S2 → ∃ z : α, v2 = some (mk z) ∧ flM J1 S2 M r D1 k ∧ (k = 0 → ∃ S0 : ZM, LA F s o1 o2 V N S0 ∧ S' = put S0 z ∧ R z)) ∧ ∀ (E : String) (S2 : ZM), ¬ PM (.inr E) S2 := by
  obtain ⟨_, _, _, _, _, _, _, _, _, hM1, _⟩ := LM.of hI hM hA hF hput (hMt S hM) h
  have hMt := hMt (rsOff G S') (hM1.off hF)
  rcases h with ⟨z, S1, hp, rfl, rfl, hof⟩ | ⟨E, S1, k, hp, hk, rfl, rfl, hof⟩
  · obtain ⟨z', e, D1, J1, lk1, as1, T1, hc, hz, PM, hMC, hPM, hno⟩ := hMt.1 _ _ hp
    have hz' : mk z = mk z' := Option.some.inj e
    refine ⟨0, D1, J1, lk1, as1, T1, PM, rfl, ⟨(hc.ext (ext_mrg hof)).ext (hput _ z).ext, hz, (hA.mrg hF).put (hput _ z)⟩, hM1, hMC, fun v2 S2 h2 => ?_, hno⟩
    obtain ⟨q1, q2⟩ := hPM v2 S2 h2
    exact ⟨z, by rw [q1, hz'], q2, fun _ => ⟨_, hA.mrg hF, rfl, hRz z _ hp⟩⟩
  · obtain ⟨k', u1, u2, u3, hc, PM, hMC, hPM, hno⟩ := hMt.2 _ _ hp
    obtain rfl := u1 k hk
    refine ⟨k, D, J, lk, as, T, PM, rfl, ⟨hc.ext (ext_mrg hof), hI.2.1, hA.mrg hF⟩, hM1, hMC, fun v2 S2 h2 => ?_, hno⟩
    obtain ⟨⟨z, q1⟩, q2⟩ := hPM v2 S2 h2
    exact ⟨z, q1, q2, fun e => absurd e u3⟩
end LVs
theorem ptF_at (o : Nat) (S : ZM) (z : UInt32) : tD (ptF o S z) o (0 : Int32).toNatClampNeg = FP.f2d z := by
  show up2 _ o 0 _ o 0 = _
  unfold up2; rw [if_pos rfl, if_pos rfl]
theorem ptD_at (o : Nat) (S : ZM) (z : UInt64) : tD (ptD o S z) o (0 : Int32).toNatClampNeg = z := by
  show up2 _ o 0 _ o 0 = _
  unfold up2; rw [if_pos rfl, if_pos rfl]
theorem z_dbl' {X : zX} {nL k n pc : Nat} {S : ZM} {ls : List (Option ZV)} {st : List ZV} {x x' : UInt64} (e : x = x') (h : zW X nL k n S pc ls (zd x' :: st)) : zW X nL k n S pc ls (zd x :: st) := e ▸ h
set_option maxRecDepth 100000 in
set_option maxHeartbeats 1000000 in
theorem K_tracks {X : zX} (hl0 : (xl X).stackTraces = false) {F G : Nat → Bool} {s o1 o2 M : Nat} {r : Nat → Nat} {V : Nat → Int32} {N : Nat} {S : ZM} {D : ZD} {J : Nat → Int64} {lk : ZL} {as L T : Nat → Nat} {k n i : Nat} {q6 q7 q8 : Option ZV} (C : zC X RL cL_law 9 LWl) (Nc : zNc (xs X)) (hR : xR X = room_1) (hF : LF F G s o1 o2 M r) (hI : LI D J lk as (rsOff F S) L T) (hM : iM D J S M r) (hA : LA F s o1 o2 V N S) (hXs : LX X s N V) (hi : i + 3 < N) (hN : N ≤ 2048) (hk : k + 100 ≤ 60000 ∧ n + 1000 ≤ 600000) (kk : LK X F G s o1 o2 M r V N L k n i) : zW X 9 k n S 1746 [some (zr (some s)), some (zr (some (L 0))), some (zr (some M)), some (zr (some o1)), some (zr (some o2)), some (zi (nI i)), q6, q7, q8] [] := by
  have hx6 := LI.k6 hI
  refine z_aload_n C rfl dL_law_1746 ?_
  refine z_callC 0 [] C rfl ((C_tracks hl0 hI.1).off F) rfl (zgoodV3 LWl_good (fun w h => ul_c h) wq378 wq379 wq380 (ul_c wc58) wq381) rfl rfl rfl (by decide +kernel) rfl (by rw [hR]; exact ⟨Nat.le_of_ble_eq_true rfl, Nat.le_of_ble_eq_true rfl⟩) hx6 (rmK hR (by omega) (by omega)) (Nat.le_of_ble_eq_true rfl) dL_law_1747 (fun v1 S1 h1 => ?_) (fun E1 S1 h1 => ?_)
  · obtain ⟨S0, ⟨rfl, hS0⟩, hS1, -⟩ := h1
    rw [hS0, mrg_off] at hS1
    subst hS1
    refine z_aload_n C rfl dL_law_1750 ?_
    refine z_callM 0 [] C rfl ((M_tracks hl0 (hM.off hF) hI.n39 hI.c).off G) rfl (zgoodV3 LWl_good (fun w h => ul_m h) wq382 wq383 wq384 (ul_m wm37) wq385) rfl rfl rfl (by decide +kernel) rfl (by rw [hR]; exact ⟨Nat.le_of_ble_eq_true rfl, Nat.le_of_ble_eq_true rfl⟩) hM.k (rmK hR (by omega) (by omega)) (Nat.le_of_ble_eq_true rfl) dL_law_1751 (fun v2 S2 h2 => ?_) (fun E2 S2 h2 => ?_)
    · obtain ⟨S2, ⟨rfl, m⟩, rfl, -⟩ := h2
      obtain ⟨D', hm, hI', hA'⟩ := LM.back (k := 0) ⟨hI.1, hI.2.1, hA⟩ hF (hI.id m)
      exact z_icmp_eq 3254 C dL_law_1754 (by decide) (fun _ => kk _ _ _ _ _ _ _ _ _ _ _ (by omega) (by omega) hI' ⟨0, hm⟩ hA') (fun c => absurd rfl c)
    · obtain ⟨S2, hp, -⟩ := h2
      exact hp.elim
  · obtain ⟨S2, hp, -⟩ := h1
    exact hp.elim
set_option maxRecDepth 100000 in
set_option maxHeartbeats 1000000 in
theorem K_today {X : zX} (hl0 : (xl X).stackTraces = false) {F G : Nat → Bool} {s o1 o2 M : Nat} {r : Nat → Nat} {V : Nat → Int32} {N : Nat} {S : ZM} {D : ZD} {J : Nat → Int64} {lk : ZL} {as L T : Nat → Nat} {k n i : Nat} {q6 q7 q8 : Option ZV} (C : zC X RL cL_law 9 LWl) (Nc : zNc (xs X)) (hR : xR X = room_1) (hF : LF F G s o1 o2 M r) (hI : LI D J lk as (rsOff F S) L T) (hM : iM D J S M r) (hA : LA F s o1 o2 V N S) (hXs : LX X s N V) (hi : i + 3 < N) (hN : N ≤ 2048) (hk : k + 100 ≤ 60000 ∧ n + 1000 ≤ 600000) (kk : LK X F G s o1 o2 M r V N L k n i) : zW X 9 k n S 1759 [some (zr (some s)), some (zr (some (L 0))), some (zr (some M)), some (zr (some o1)), some (zr (some o2)), some (zi (nI i)), q6, q7, q8] [] := by
  have hx6 := LI.k6 hI
  refine z_aload_n C rfl dL_law_1759 ?_
  refine z_callC 0 [] C rfl ((C_today hl0 hI.1).off F) rfl (zgoodV3 LWl_good (fun w h => ul_c h) wq386 wq387 wq388 (ul_c wc58) wq389) rfl rfl rfl (by decide +kernel) rfl (by rw [hR]; exact ⟨Nat.le_of_ble_eq_true rfl, Nat.le_of_ble_eq_true rfl⟩) hx6 (rmK hR (by omega) (by omega)) (Nat.le_of_ble_eq_true rfl) dL_law_1760 (fun v1 S1 h1 => ?_) (fun E1 S1 h1 => ?_)
  · obtain ⟨S0, ⟨rfl, hS0⟩, hS1, -⟩ := h1
    rw [hS0, mrg_off] at hS1
    subst hS1
    refine z_aload_n C rfl dL_law_1763 ?_
    refine z_callM 0 [] C rfl ((M_today hl0 (hM.off hF) hI.n39 hI.c).off G) rfl (zgoodV3 LWl_good (fun w h => ul_m h) wq390 wq391 wq392 (ul_m wm37) wq393) rfl rfl rfl (by decide +kernel) rfl (by rw [hR]; exact ⟨Nat.le_of_ble_eq_true rfl, Nat.le_of_ble_eq_true rfl⟩) hM.k (rmK hR (by omega) (by omega)) (Nat.le_of_ble_eq_true rfl) dL_law_1764 (fun v2 S2 h2 => ?_) (fun E2 S2 h2 => ?_)
    · obtain ⟨S2, ⟨rfl, m⟩, rfl, -⟩ := h2
      obtain ⟨D', hm, hI', hA'⟩ := LM.back (k := 0) ⟨hI.1, hI.2.1, hA⟩ hF (hI.id m)
      exact z_icmp_eq 3254 C dL_law_1767 (by decide) (fun _ => kk _ _ _ _ _ _ _ _ _ _ _ (by omega) (by omega) hI' ⟨0, hm⟩ hA') (fun c => absurd rfl c)
    · obtain ⟨S2, hp, -⟩ := h2
      exact hp.elim
  · obtain ⟨S2, hp, -⟩ := h1
    exact hp.elim
set_option maxRecDepth 100000 in
set_option maxHeartbeats 1000000 in
theorem K_touched {X : zX} (hl0 : (xl X).stackTraces = false) {F G : Nat → Bool} {s o1 o2 M : Nat} {r : Nat → Nat} {V : Nat → Int32} {N : Nat} {S : ZM} {D : ZD} {J : Nat → Int64} {lk : ZL} {as L T : Nat → Nat} {k n i : Nat} {q6 q7 q8 : Option ZV} (C : zC X RL cL_law 9 LWl) (Nc : zNc (xs X)) (hR : xR X = room_1) (hF : LF F G s o1 o2 M r) (hI : LI D J lk as (rsOff F S) L T) (hM : iM D J S M r) (hA : LA F s o1 o2 V N S) (hXs : LX X s N V) (hi : i + 3 < N) (hN : N ≤ 2048) (hk : k + 100 ≤ 60000 ∧ n + 1000 ≤ 600000) (kk : LK X F G s o1 o2 M r V N L k n i) : zW X 9 k n S 3028 [some (zr (some s)), some (zr (some (L 0))), some (zr (some M)), some (zr (some o1)), some (zr (some o2)), some (zi (nI i)), q6, q7, q8] [] := by
  have hx6 := LI.k6 hI
  refine z_aload_n C rfl dL_law_3028 ?_
  refine z_callC 0 [] C rfl ((C_touched hl0 hI.1).off F) rfl (zgoodV3 LWl_good (fun w h => ul_c h) wq528 wq529 wq530 (ul_c wc58) wq531) rfl rfl rfl (by decide +kernel) rfl (by rw [hR]; exact ⟨Nat.le_of_ble_eq_true rfl, Nat.le_of_ble_eq_true rfl⟩) hx6 (rmK hR (by omega) (by omega)) (Nat.le_of_ble_eq_true rfl) dL_law_3029 (fun v1 S1 h1 => ?_) (fun E1 S1 h1 => ?_)
  · obtain ⟨S0, ⟨rfl, hS0⟩, hS1, -⟩ := h1
    rw [hS0, mrg_off] at hS1
    subst hS1
    refine z_aload_n C rfl dL_law_3032 ?_
    refine z_callM 0 [] C rfl ((M_touched hl0 (hM.off hF) hI.n39 hI.c).off G) rfl (zgoodV3 LWl_good (fun w h => ul_m h) wq532 wq533 wq534 (ul_m wm37) wq535) rfl rfl rfl (by decide +kernel) rfl (by rw [hR]; exact ⟨Nat.le_of_ble_eq_true rfl, Nat.le_of_ble_eq_true rfl⟩) hM.k (rmK hR (by omega) (by omega)) (Nat.le_of_ble_eq_true rfl) dL_law_3033 (fun v2 S2 h2 => ?_) (fun E2 S2 h2 => ?_)
    · obtain ⟨S2, ⟨rfl, m⟩, rfl, -⟩ := h2
      obtain ⟨D', hm, hI', hA'⟩ := LM.back (k := 0) ⟨hI.1, hI.2.1, hA⟩ hF (hI.id m)
      exact z_icmp_eq 3254 C dL_law_3036 (by decide) (fun _ => kk _ _ _ _ _ _ _ _ _ _ _ (by omega) (by omega) hI' ⟨0, hm⟩ hA') (fun c => absurd rfl c)
    · obtain ⟨S2, hp, -⟩ := h2
      exact hp.elim
  · obtain ⟨S2, hp, -⟩ := h1
    exact hp.elim
set_option maxRecDepth 100000 in
set_option maxHeartbeats 1000000 in
theorem K_seconds {X : zX} (hl0 : (xl X).stackTraces = false) {F G : Nat → Bool} {s o1 o2 M : Nat} {r : Nat → Nat} {V : Nat → Int32} {N : Nat} {S : ZM} {D : ZD} {J : Nat → Int64} {lk : ZL} {as L T : Nat → Nat} {k n i : Nat} {q6 q7 q8 : Option ZV} (C : zC X RL cL_law 9 LWl) (Nc : zNc (xs X)) (hR : xR X = room_1) (hF : LF F G s o1 o2 M r) (hI : LI D J lk as (rsOff F S) L T) (hM : iM D J S M r) (hA : LA F s o1 o2 V N S) (hXs : LX X s N V) (hi : i + 3 < N) (hN : N ≤ 2048) (hk : k + 100 ≤ 60000 ∧ n + 1000 ≤ 600000) (kk : LK X F G s o1 o2 M r V N L k n i) : zW X 9 k n S 3097 [some (zr (some s)), some (zr (some (L 0))), some (zr (some M)), some (zr (some o1)), some (zr (some o2)), some (zi (nI i)), q6, q7, q8] [] := by
  have hx6 := LI.k6 hI
  refine z_aload_n C rfl dL_law_3097 ?_
  refine z_callC 0 [] C rfl ((C_seconds hl0 hI.1).off F) rfl (zgoodV3 LWl_good (fun w h => ul_c h) wq543 wq544 wq545 (ul_c wc58) wq546) rfl rfl rfl (by decide +kernel) rfl (by rw [hR]; exact ⟨Nat.le_of_ble_eq_true rfl, Nat.le_of_ble_eq_true rfl⟩) hx6 (rmK hR (by omega) (by omega)) (Nat.le_of_ble_eq_true rfl) dL_law_3098 (fun v1 S1 h1 => ?_) (fun E1 S1 h1 => ?_)
  · obtain ⟨S0, ⟨rfl, hS0⟩, hS1, -⟩ := h1
    rw [hS0, mrg_off] at hS1
    subst hS1
    refine z_aload_n C rfl dL_law_3101 ?_
    refine z_callM 0 [] C rfl ((M_seconds hl0 (hM.off hF) hI.n39 hI.c).off G) rfl (zgoodV3 LWl_good (fun w h => ul_m h) wq547 wq548 wq549 (ul_m wm37) wq550) rfl rfl rfl (by decide +kernel) rfl (by rw [hR]; exact ⟨Nat.le_of_ble_eq_true rfl, Nat.le_of_ble_eq_true rfl⟩) hM.k (rmK hR (by omega) (by omega)) (Nat.le_of_ble_eq_true rfl) dL_law_3102 (fun v2 S2 h2 => ?_) (fun E2 S2 h2 => ?_)
    · obtain ⟨S2, ⟨rfl, m⟩, rfl, -⟩ := h2
      obtain ⟨D', hm, hI', hA'⟩ := LM.back (k := 0) ⟨hI.1, hI.2.1, hA⟩ hF (hI.id m)
      refine z_lcmp C dL_law_3105 ?_
      exact z_if_eq 3254 C dL_law_3106 (by decide) (fun _ => kk _ _ _ _ _ _ _ _ _ _ _ (by omega) (by omega) hI' ⟨0, hm⟩ hA') (fun c => absurd (lg_self _) c)
    · obtain ⟨S2, hp, -⟩ := h2
      exact hp.elim
  · obtain ⟨S2, hp, -⟩ := h1
    exact hp.elim
set_option maxRecDepth 100000 in
set_option maxHeartbeats 1000000 in
theorem K_listedShare {X : zX} (hl0 : (xl X).stackTraces = false) {F G : Nat → Bool} {s o1 o2 M : Nat} {r : Nat → Nat} {V : Nat → Int32} {N : Nat} {S : ZM} {D : ZD} {J : Nat → Int64} {lk : ZL} {as L T : Nat → Nat} {k n i : Nat} {q6 q7 q8 : Option ZV} (C : zC X RL cL_law 9 LWl) (Nc : zNc (xs X)) (hR : xR X = room_1) (hF : LF F G s o1 o2 M r) (hI : LI D J lk as (rsOff F S) L T) (hM : iM D J S M r) (hA : LA F s o1 o2 V N S) (hXs : LX X s N V) (hi : i + 3 < N) (hN : N ≤ 2048) (hk : k + 100 ≤ 60000 ∧ n + 1000 ≤ 600000) (kk : LK X F G s o1 o2 M r V N L k n i) : zW X 9 k n S 3111 [some (zr (some s)), some (zr (some (L 0))), some (zr (some M)), some (zr (some o1)), some (zr (some o2)), some (zi (nI i)), q6, q7, q8] [] := by
  have hX := fun (Sm : ZM) (h : iM D J Sm M r) => X_listedShare hl0 hI h 
  have hx6 := LI.k6 hI
  refine z_aload_n C rfl dL_law_3111 ?_
  refine z_aload C rfl dL_law_3112 ?_
  refine z_callSH 2 [zr (some (L 0)), zr (some o2)] C Nc (W_listedShare hl0  hF.1.2.2.1 hA.2.2.1.1 hA.2.2.1.2 hx6 hA.2.2.2 (C_listedShare hl0 hI.1 ) (fun v S1 h => ⟨_, h.2.1, f2d_ok (fdiv_ok (by rw [bcJ_pc]; exact nI_abs (Nat.le_trans (pcB_32 _) (by decide))) (nI_abs (Nat.le_trans (cnF_le _ 24) (by decide))) h.1)⟩) (fun E S1 hp => es_1 ((hX S hM).2 E S1 hp))) rfl (zgoodS3 LWl_good (fun w h => h) wq551 wq552 wq207 wq553) rfl rfl rfl (by decide +kernel) rfl (by rw [hR]; exact ⟨Nat.le_of_ble_eq_true rfl, Nat.le_of_ble_eq_true rfl⟩) (rmK hR (by omega) (by omega)) (Nat.le_of_ble_eq_true rfl) dL_law_3114 (fun v1 S1 h1 => ?_) (fun E1 S1 h1 => h1.elim)
  obtain ⟨k9, D1, J1, lk1, as1, T1, PM, rfl, hL, hM1, hmc, hPM, hno⟩ := LM.ofR (R := (fun z => vf_n64 (FP.f2d z))) hI hM hA hF (pOk_F o1 o2) (fun z S1 h => by obtain ⟨h1, h2, -⟩ := h; obtain rfl := zf_inj (Option.some.inj h2); exact f2d_ok (fdiv_ok (by rw [bcJ_pc]; exact nI_abs (Nat.le_trans (pcB_32 _) (by decide))) (nI_abs (Nat.le_trans (cnF_le _ 24) (by decide))) h1)) hX h1
  refine z_istore [_, _, _, _, _, _, _, _, _] C (by decide) rfl dL_law_3117 ?_
  refine z_aload_n C rfl dL_law_3119 ?_
  refine z_callM 0 [] C rfl (hmc.off G) rfl (zgoodV3 LWl_good (fun w h => ul_m h) wq554 wq555 wq556 (ul_m wm37) wq557) rfl rfl rfl (by decide +kernel) rfl (by rw [hR]; exact ⟨Nat.le_of_ble_eq_true rfl, Nat.le_of_ble_eq_true rfl⟩) hM1.k (rmK hR (by omega) (by omega)) (Nat.le_of_ble_eq_true rfl) dL_law_3120 (fun v2 S2 h2 => ?_) (fun E2 S2 h2 => ?_)
  · obtain ⟨S2, hp, rfl, -⟩ := h2
    obtain ⟨z, rfl, hfl, hq⟩ := hPM _ _ hp
    obtain ⟨D', hm, hI', hA'⟩ := hL.back hF hfl
    refine z_fstore [_, _, _, _, _, _, _, _, _] C (by decide) rfl dL_law_3123 ?_
    refine z_aload_n C rfl dL_law_3125 ?_
    refine z_callM 0 [] C rfl (M_thrown hl0 hm) rfl (zgoodV3 LWl_good (fun w h => ul_m h) wq213 wq214 wq215 (ul_m wm37) wq216) rfl rfl rfl (by decide +kernel) rfl (by rw [hR]; exact ⟨Nat.le_of_ble_eq_true rfl, Nat.le_of_ble_eq_true rfl⟩) hm.1 (rmK hR (by omega) (by omega)) (Nat.le_of_ble_eq_true rfl) dL_law_3126 (fun v3 S3 h3 => ?_) (fun E3 S3 h3 => h3.elim)
    obtain ⟨rfl, hS3⟩ := h3
    subst hS3
    refine z_iload C rfl dL_law_3129 ?_
    refine z_icmp_eq 3136 C dL_law_3131 (by decide) (fun c9 => ?_) (fun c9 => absurd (rfl : (s39 D' k9) 39 0 = k9) c9)
    refine z_iload C rfl dL_law_3136 ?_
    refine z_if_ne 3174 C dL_law_3138 (by decide) (fun c8 => ?_) (fun c8 => ?_)
    · refine z_goto 3254 C dL_law_3174 (by decide) ?_
      exact kk _ _ _ _ _ _ _ _ _ _ _ (by omega) (by omega) hI' ⟨k9, hm⟩ hA'
    · obtain ⟨S0, hA0, hS1, hz⟩ := hq c8
      subst hS1
      refine z_aload C rfl dL_law_3141 ?_
      refine z_iconst 0 (by decide) C dL_law_3143 ?_
      refine z_daload C hA'.2.2.1.1 (by rw [hA'.2.2.1.2]; exact vp01) dL_law_3144 ?_
      refine z_dbl' ((congrFun (mrg_in hF.2.2.2.2.2.1).2.2.2.2.2.2 _).trans (ptF_at o2 S0 z)) ?_
      refine z_fload C rfl dL_law_3145 ?_
      refine z_f2d hz C dL_law_3147 ?_
      refine z_dcmp C dL_law_3148 ?_
      refine z_if_eq 3174 C dL_law_3149 (by decide) (fun c6 => ?_) (fun c6 => absurd (dc_self hz) c6)
      refine z_goto 3254 C dL_law_3174 (by decide) ?_
      exact kk _ _ _ _ _ _ _ _ _ _ _ (by omega) (by omega) hI' ⟨k9, hm⟩ hA'
  · obtain ⟨S2, hp, -⟩ := h2
    exact absurd hp (hno _ _)
set_option maxRecDepth 100000 in
set_option maxHeartbeats 1000000 in
theorem K_meanLength {X : zX} (hl0 : (xl X).stackTraces = false) {F G : Nat → Bool} {s o1 o2 M : Nat} {r : Nat → Nat} {V : Nat → Int32} {N : Nat} {S : ZM} {D : ZD} {J : Nat → Int64} {lk : ZL} {as L T : Nat → Nat} {k n i : Nat} {q6 q7 q8 : Option ZV} (C : zC X RL cL_law 9 LWl) (Nc : zNc (xs X)) (hR : xR X = room_1) (hF : LF F G s o1 o2 M r) (hI : LI D J lk as (rsOff F S) L T) (hM : iM D J S M r) (hA : LA F s o1 o2 V N S) (hXs : LX X s N V) (hi : i + 3 < N) (hN : N ≤ 2048) (hk : k + 100 ≤ 60000 ∧ n + 1000 ≤ 600000) (kk : LK X F G s o1 o2 M r V N L k n i) : zW X 9 k n S 3177 [some (zr (some s)), some (zr (some (L 0))), some (zr (some M)), some (zr (some o1)), some (zr (some o2)), some (zi (nI i)), q6, q7, q8] [] := by
  have hX := fun (Sm : ZM) (h : iM D J Sm M r) => X_meanLength hl0 hI h (V (i + 1))
  have hx6 := LI.k6 hI
  refine z_aload_n C rfl dL_law_3177 ?_
  refine z_aload_n C rfl dL_law_3178 ?_
  refine z_iload C rfl dL_law_3179 ?_
  refine z_iconst 1 (by decide) C dL_law_3181 ?_
  refine z_iadd C dL_law_3182 ?_
  refine z_sld C hXs (ld_in1 hi hN) dL_law_3183 ?_
  refine z_int (ld_v1 hi hN) ?_
  refine z_aload C rfl dL_law_3184 ?_
  refine z_callSH 3 [zr (some (L 0)), zi (V (i + 1)), zr (some o2)] C Nc (W_meanLength hl0 (V (i + 1)) hF.1.2.2.1 hA.2.2.1.1 hA.2.2.1.2 hx6 hA.2.2.2 (C_meanLength hl0 hI.1 (V (i + 1))) (hvO (hX S hM)) (fun E S1 hp => es_2 ((hX S hM).2 E S1 hp))) rfl (zgoodS3 LWl_good (fun w h => h) wq558 wq559 wq207 wq560) rfl rfl rfl (by decide +kernel) rfl (by rw [hR]; exact ⟨Nat.le_of_ble_eq_true rfl, Nat.le_of_ble_eq_true rfl⟩) (rmK hR (by omega) (by omega)) (Nat.le_of_ble_eq_true rfl) dL_law_3186 (fun v1 S1 h1 => ?_) (fun E1 S1 h1 => h1.elim)
  obtain ⟨k9, D1, J1, lk1, as1, T1, PM, rfl, hL, hM1, hmc, hPM, hno⟩ := LM.ofR (R := (fun z => vf_n64 z)) hI hM hA hF (pOk_D o1 o2) (fun z S1 h => by obtain ⟨i9, -, -, -, h4, h5, -⟩ := h; obtain rfl := zd_inj (Option.some.inj h5); exact ddiv_ok h4) hX h1
  refine z_istore [_, _, _, _, _, _, _, _, _] C (by decide) rfl dL_law_3189 ?_
  refine z_aload_n C rfl dL_law_3191 ?_
  refine z_aload_n C rfl dL_law_3192 ?_
  refine z_iload C rfl dL_law_3193 ?_
  refine z_iconst 1 (by decide) C dL_law_3195 ?_
  refine z_iadd C dL_law_3196 ?_
  refine z_sld C hXs (ld_in1 hi hN) dL_law_3197 ?_
  refine z_int (ld_v1 hi hN) ?_
  refine z_callM 1 [zi (V (i + 1))] C rfl (hmc.off G) rfl (zgoodV3 LWl_good (fun w h => ul_m h) wq561 wq562 wq563 (ul_m wm37) wq564) rfl rfl rfl (by decide +kernel) rfl (by rw [hR]; exact ⟨Nat.le_of_ble_eq_true rfl, Nat.le_of_ble_eq_true rfl⟩) hM1.k (rmK hR (by omega) (by omega)) (Nat.le_of_ble_eq_true rfl) dL_law_3198 (fun v2 S2 h2 => ?_) (fun E2 S2 h2 => ?_)
  · obtain ⟨S2, hp, rfl, -⟩ := h2
    obtain ⟨z, rfl, hfl, hq⟩ := hPM _ _ hp
    obtain ⟨D', hm, hI', hA'⟩ := hL.back hF hfl
    refine z_dstore [_, _, _, _, _, _, _, _, _] C (by decide) rfl dL_law_3201 ?_
    refine z_aload_n C rfl dL_law_3203 ?_
    refine z_callM 0 [] C rfl (M_thrown hl0 hm) rfl (zgoodV3 LWl_good (fun w h => ul_m h) wq213 wq214 wq215 (ul_m wm37) wq216) rfl rfl rfl (by decide +kernel) rfl (by rw [hR]; exact ⟨Nat.le_of_ble_eq_true rfl, Nat.le_of_ble_eq_true rfl⟩) hm.1 (rmK hR (by omega) (by omega)) (Nat.le_of_ble_eq_true rfl) dL_law_3204 (fun v3 S3 h3 => ?_) (fun E3 S3 h3 => h3.elim)
    obtain ⟨rfl, hS3⟩ := h3
    subst hS3
    refine z_iload C rfl dL_law_3207 ?_
    refine z_icmp_eq 3214 C dL_law_3209 (by decide) (fun c9 => ?_) (fun c9 => absurd (rfl : (s39 D' k9) 39 0 = k9) c9)
    refine z_iload C rfl dL_law_3214 ?_
    refine z_if_ne 3251 C dL_law_3216 (by decide) (fun c8 => ?_) (fun c8 => ?_)
    · refine z_goto 3254 C dL_law_3251 (by decide) ?_
      exact kk _ _ _ _ _ _ _ _ _ _ _ (by omega) (by omega) hI' ⟨k9, hm⟩ hA'
    · obtain ⟨S0, hA0, hS1, hz⟩ := hq c8
      subst hS1
      refine z_aload C rfl dL_law_3219 ?_
      refine z_iconst 0 (by decide) C dL_law_3221 ?_
      refine z_daload C hA'.2.2.1.1 (by rw [hA'.2.2.1.2]; exact vp01) dL_law_3222 ?_
      refine z_dbl' ((congrFun (mrg_in hF.2.2.2.2.2.1).2.2.2.2.2.2 _).trans (ptD_at o2 S0 z)) ?_
      refine z_dload C rfl dL_law_3223 ?_
      refine z_dcmp C dL_law_3225 ?_
      refine z_if_eq 3251 C dL_law_3226 (by decide) (fun c6 => ?_) (fun c6 => absurd (dc_self hz) c6)
      refine z_goto 3254 C dL_law_3251 (by decide) ?_
      exact kk _ _ _ _ _ _ _ _ _ _ _ (by omega) (by omega) hI' ⟨k9, hm⟩ hA'
  · obtain ⟨S2, hp, -⟩ := h2
    exact absurd hp (hno _ _)
