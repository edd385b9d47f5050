/-! the law's loop: what stands between its turns -/
/-- the cells that are not the class's (F), and those that are not the reference's (G) -/
def LF (F G : Nat → Bool) (s o1 o2 M : Nat) (r : Nat → Nat) : Prop :=
  (True ∧ F o1 = true ∧ F o2 = true ∧ F M = true ∧ ∀ k : Nat, mka k = true → F (r k) = true) ∧
  (G M = false ∧ (∀ k : Nat, mka k = true → G (r k) = false) ∧ True ∧ G o1 = true ∧ G o2 = true ∧ (∀ b : Nat, F b = false → G b = true) ∧ ∀ b : Nat, F b = true → G b = false → b = M ∨ ∃ k : Nat, mka k = true ∧ b = r k)
/-- the script, the two rows for answers, and what F names is there -/
def LA (F : Nat → Bool) (s o1 o2 : Nat) (V : Nat → Int32) (N : Nat) (S : ZM) : Prop :=
  True ∧ (mK S o1 = 13 ∧ mN S o1 = 1) ∧ (mK S o2 = 14 ∧ mN S o2 = 1) ∧ ∀ b : Nat, F b = true → zkn (mK S b) = true
/-- a step keeps all but the long row o1 and the double rows -/
def pOk (o1 : Nat) (S S' : ZM) : Prop := mK S' = mK S ∧ mN S' = mN S ∧ mI S' = mI S ∧ mQ S' = mQ S ∧ mJ S' = mJ S ∧ tI S' = tI S ∧ tQ S' = tQ S ∧ ∀ b : Nat, b ≠ o1 → tJ S' b = tJ S b
theorem pOk.refl (o1 : Nat) (S : ZM) : pOk o1 S S := ⟨rfl, rfl, rfl, rfl, rfl, rfl, rfl, fun _ _ => rfl⟩
theorem pOk_I (o : Nat) (S : ZM) (z : Int32) : pOk o S (ptI o S z) := ⟨rfl, rfl, rfl, rfl, rfl, rfl, rfl, fun b hb => by unfold ptI eJ tJ; funext i; simp [hb, up2]⟩
theorem pOk_B (o : Nat) (S : ZM) (z : Int32) : pOk o S (ptB o S z) := ⟨rfl, rfl, rfl, rfl, rfl, rfl, rfl, fun b hb => by unfold ptB eJ tJ; funext i; simp [hb, up2]⟩
theorem pOk_F (o1 o : Nat) (S : ZM) (z : UInt32) : pOk o1 S (ptF o S z) := ⟨rfl, rfl, rfl, rfl, rfl, rfl, rfl, fun _ _ => rfl⟩
theorem pOk_D (o1 o : Nat) (S : ZM) (z : UInt64) : pOk o1 S (ptD o S z) := ⟨rfl, rfl, rfl, rfl, rfl, rfl, rfl, fun _ _ => rfl⟩
theorem mkκ_known (k : Nat) (h : mka k = true) : zkn (mkκ k) = true := by
  have : k < 80 := by
    unfold mka at h
    simp only [Bool.or_eq_true, Bool.and_eq_true, Nat.ble_eq] at h
    omega
  have key : ∀ k : Nat, k < 80 → mka k = true → zkn (mkκ k) = true := by decide +kernel
  exact key k this h
/-- the script, a cell that nobody writes -/
def LX (X : zX) (s N : Nat) (V : Nat → Int32) : Prop := va_X s N V (xs X) (xs X).heap ∧ s < (xs X).heap.size ∧ ¬ xA X s
theorem z_sld {X : zX} {own : String} {cc : ByteArray} {nL : Nat} {Ts : List Cond} {k n : Nat} {S : ZM} {pc : Nat} {ls : List (Option ZV)} {st : List ZV} {s N : Nat} {V : Nat → Int32} {i : Int32} (C : zC X own cc nL Ts) (hX : LX X s N V) (hi : vp_in i N) (d : decode cc pc = .ok (.iaload, 1)) (h : zW X nL k n S (pc + 1) ls (zi (V i.toNatClampNeg) :: st)) : zW X nL k n S pc ls (zi i :: zr (some s) :: st) := fun H locs la hH hS hl => va_sld C.1 C.2.1 hX.1 hX.2.1 hX.2.2 hS hi d (h H locs la hH hS hl)
theorem z_slen {X : zX} {own : String} {cc : ByteArray} {nL : Nat} {Ts : List Cond} {k n : Nat} {S : ZM} {pc : Nat} {ls : List (Option ZV)} {st : List ZV} {s N : Nat} {V : Nat → Int32} (C : zC X own cc nL Ts) (hX : LX X s N V) (d : decode cc pc = .ok (.arraylength, 1)) (h : zW X nL k n S (pc + 1) ls (zi (nI N) :: st)) : zW X nL k n S pc ls (zr (some s) :: st) := fun H locs la hH hS hl => va_slen C.1 C.2.1 hX.1 hX.2.1 hX.2.2 hS d (h H locs la hH hS hl)
section LVs
variable {F G : Nat → Bool} {s o1 o2 M : Nat} {r : Nat → Nat} {V : Nat → Int32} {N : Nat} {S S' S1 S2 : ZM} {D D1 : ZD} {J J1 : Nat → Int64} {lk lk1 : ZL} {as as1 : Nat → Nat} {L T T1 : Nat → Nat}
theorem pOk.ext (h : pOk o1 S S') : ext (rsOff F S) (rsOff F S') := by
  obtain ⟨h1, h2, h3, h4, h5, h6, h7, -⟩ := h
  intro b hb
  have e : mK (rsOff F S') b = mK (rsOff F S) b := by
    show (bif F b then 0 else mK S' b) = (bif F b then 0 else mK S b)
    rw [h1]
  exact ⟨e, congrFun h2 b, fun k => ⟨congrFun (congrFun h3 k) b, congrFun (congrFun h4 k) b, congrFun (congrFun h5 k) b⟩, congrFun h6 b, congrFun h7 b⟩
theorem LA.put (h : LA F s o1 o2 V N S) (p : pOk o1 S S') : LA F s o1 o2 V N S' := by
  obtain ⟨h1, h2, h3, h4, h5, h6, h7, -⟩ := p
  unfold LA
  rw [h1, h2]
  exact h
theorem LA.mrg (h : LA F s o1 o2 V N S) (hF : LF F G s o1 o2 M r) : LA F s o1 o2 V N (mrg F S S1) := by
  obtain ⟨⟨f1, f2, f3, f4, f5⟩, -⟩ := hF
  obtain ⟨-, ⟨b1, b2⟩, ⟨c1, c2⟩, d⟩ := h
  refine ⟨trivial, ⟨(mrg_in f2).1.trans b1, (mrg_in f2).2.1.trans b2⟩, ⟨(mrg_in f3).1.trans c1, (mrg_in f3).2.1.trans c2⟩, fun b hb => ?_⟩
  rw [(mrg_in hb).1]
  exact d b hb
theorem iM.mrg (h : iM D J S M r) (hF : LF F G s o1 o2 M r) : iM D J (mrg F S S1) M r := by
  obtain ⟨v, h⟩ := h
  exact ⟨v, h.same (mrg_in hF.1.2.2.2.1) (fun k hk => mrg_in (hF.1.2.2.2.2 k hk))⟩
theorem iM.put (h : iM D J S M r) (hF : LF F G s o1 o2 M r) (p : pOk o1 S S') : iM D J S' M r := by
  obtain ⟨v, a1, a2, a3, a4, a5⟩ := h
  obtain ⟨h1, h2, h3, h4, h5, h6, h7, h8⟩ := p
  refine ⟨v, by rw [h1]; exact a1, fun k hk => by rw [h3]; exact a2 k hk, fun k hk => by rw [h1, h2, h4, h6]; exact a3 k hk, ?_, a5⟩
  rw [h8 (r 71) (fun e => by have := hF.2.2.1 71 rfl; rw [e, hF.2.2.2.2.1] at this; cases this)]
  exact a4
/-- behind the class's call, ahead of the reference's -/
def LM (F G : Nat → Bool) (s o1 o2 M : Nat) (r : Nat → Nat) (V : Nat → Int32) (N : Nat) (S : ZM) (D : ZD) (J : Nat → Int64) (lk : ZL) (as L T : Nat → Nat) : Prop := cR D J lk as (rsOff F S) L T ∧ wfZ D ∧ LA F s o1 o2 V N S
theorem LM.of {α : Type} {mk : α → ZV} {put : ZM → α → ZM} {PC : zP} {es : List (String × Int32)} {MC : zP → Prop} (hI : LI D J lk as (rsOff F S) L T) (hM : iM D J S M r) (hA : LA F s o1 o2 V N S) (hF : LF F G s o1 o2 M r) (hput : ∀ (S : ZM) (z : α), pOk o1 S (put S z)) (hMt : Mt mk PC es D J lk as L T M r MC) {v : Option ZV} (h : WQ mk put PC es F S (.inl v) S') : ∃ (k : Int32) (D1 : ZD) (J1 : Nat → Int64) (lk1 : ZL) (as1 T1 : Nat → Nat) (PM : zP), v = some (zi k) ∧ LM F G s o1 o2 M r V N S' D1 J1 lk1 as1 L T1 ∧ iM D J S' M r ∧ MC PM ∧ (∀ (v2 : Option ZV) (S2 : ZM), PM (.inl v2) S2 → ∃ z : α, v2 = some (mk z) ∧ flM J1 S2 M r D1 k ∧ (k = 0 → ∃ S0 : ZM, LA F s o1 o2 V N S0 ∧ S' = put S0 z)) ∧ ∀ (E : String) (S2 : ZM), ¬ PM (.inr E) S2 := by
  rcases h with ⟨z, S1, hp, rfl, rfl, hof⟩ | ⟨E, S1, k, hp, hk, rfl, rfl, hof⟩
  · obtain ⟨z', e, D1, J1, lk1, as1, T1, hc, hz, PM, hMC, hPM, hno⟩ := hMt.1 _ _ hp
    have hz' : mk z = mk z' := Option.some.inj e
    refine ⟨0, D1, J1, lk1, as1, T1, PM, rfl, ⟨(hc.ext (ext_mrg hof)).ext (hput _ z).ext, hz, (hA.mrg hF).put (hput _ z)⟩, (hM.mrg hF).put hF (hput _ z), hMC, fun v2 S2 h2 => ?_, hno⟩
    obtain ⟨q1, q2⟩ := hPM v2 S2 h2
    exact ⟨z, by rw [q1, hz'], q2, fun _ => ⟨_, hA.mrg hF, rfl⟩⟩
  · obtain ⟨k', u1, u2, u3, hc, PM, hMC, hPM, hno⟩ := hMt.2 _ _ hp
    obtain rfl := u1 k hk
    refine ⟨k, D, J, lk, as, T, PM, rfl, ⟨hc.ext (ext_mrg hof), hI.2.1, hA.mrg hF⟩, hM.mrg hF, hMC, fun v2 S2 h2 => ?_, hno⟩
    obtain ⟨⟨z, q1⟩, q2⟩ := hPM v2 S2 h2
    exact ⟨z, q1, q2, fun e => absurd e u3⟩
/-- behind the reference's call -/
theorem LM.back {k : Int32} (h : LM F G s o1 o2 M r V N S D J lk as L T) (hF : LF F G s o1 o2 M r) (hm : flM J S2 M r D k) : ∃ D' : ZD, mR (s39 D' k) J (mrg G S S2) M r ∧ LI D' J lk as (rsOff F (mrg G S S2)) L T ∧ LA F s o1 o2 V N (mrg G S S2) := by
  obtain ⟨D', m1, m2, m3, m4⟩ := hm
  obtain ⟨hc, hz, hA⟩ := h
  obtain ⟨⟨f1, f2, f3, f4, f5⟩, g1, g2, g3, g4, g5, g6, g7⟩ := hF
  refine ⟨D', m1.same (mrg_out g1) (fun k hk => mrg_out (g2 k hk)), ⟨(hc.ext (ext_off fun b hb => mrg_in (g6 b hb))).j m3, hz.j m3, m4, m2⟩, ?_⟩
  obtain ⟨-, ⟨b1, b2⟩, ⟨c1, c2⟩, d⟩ := hA
  refine ⟨trivial, ⟨(mrg_in g4).1.trans b1, (mrg_in g4).2.1.trans b2⟩, ⟨(mrg_in g5).1.trans c1, (mrg_in g5).2.1.trans c2⟩, fun b hb => ?_⟩
  cases hg : G b with
  | true => rw [(mrg_in hg).1]; exact d b hb
  | false =>
    have hm := m1.same (S1 := mrg G S S2) (mrg_out g1) (fun k hk => mrg_out (g2 k hk))
    rcases g7 b hb hg with rfl | ⟨k, hk, rfl⟩
    · rw [hm.1]; rfl
    · rw [(hm.2.2.1 k hk).2.1]; exact mkκ_known k hk
end LVs
theorem lg_self (x : Int64) : lg_cmp x x = 0 := by
  unfold lg_cmp
  rw [if_neg Int64.lt_irrefl, if_pos rfl]
