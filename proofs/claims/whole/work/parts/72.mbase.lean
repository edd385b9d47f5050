/-! the reference's memory -/
/-- its fields: ints, rows -/
def mki (k : Nat) : Bool := Nat.beq k 39 || Nat.beq k 40 || Nat.beq k 41 || Nat.beq k 48 || Nat.beq k 52 || Nat.beq k 57 || Nat.beq k 66 || Nat.beq k 67
def mka (k : Nat) : Bool := (Nat.ble 42 k && Nat.ble k 47) || (Nat.ble 49 k && Nat.ble k 51) || (Nat.ble 53 k && Nat.ble k 56) || (Nat.ble 58 k && Nat.ble k 65) || (Nat.ble 68 k && Nat.ble k 72)
def mkκ (k : Nat) : Nat := [10, 10, 10, 10, 10, 12, 0, 10, 11, 12, 0, 10, 10, 10, 10, 0, 10, 11, 10, 10, 10, 10, 10, 12, 0, 0, 10, 10, 10, 13, 10].getD (k - 42) 0
def mkn (k : Nat) : Nat := [24, 24, 24, 24, 24, 24, 0, 16, 96, 16, 0, 40, 40, 40, 40, 0, 8, 8, 8, 8, 8, 192, 8, 8, 0, 0, 16, 16, 384, 16, 49].getD (k - 42) 0
def mR (D : ZD) (J : Nat → Int64) (S : ZM) (M : Nat) (r : Nat → Nat) : Prop :=
  mK S M = 7 ∧ (∀ k : Nat, mki k = true → mI S k M = D k 0) ∧ (∀ k : Nat, mka k = true → mQ S k M = some (r k) ∧ mK S (r k) = mkκ k ∧ mN S (r k) = mkn k ∧ (k ≠ 71 → tI S (r k) = D k)) ∧ tJ S (r 71) = J ∧ ∀ k k' : Nat, mka k = true → mka k' = true → r k = r k' → k = k'
section MRR
variable {D : ZD} {J : Nat → Int64} {S : ZM} {M : Nat} {r : Nat → Nat}
theorem mR.i (h : mR D J S M r) (k : Nat) (hk : mki k = true) : mI S k M = D k 0 := h.2.1 k hk
theorem mR.q (h : mR D J S M r) (k : Nat) (hk : mka k = true) : mQ S k M = some (r k) := (h.2.2.1 k hk).1
theorem mR.k (h : mR D J S M r) (k : Nat) (hk : mka k = true) : mK S (r k) = mkκ k := (h.2.2.1 k hk).2.1
theorem mR.n (h : mR D J S M r) (k : Nat) (hk : mka k = true) : mN S (r k) = mkn k := (h.2.2.1 k hk).2.2.1
theorem mR.t (h : mR D J S M r) (k : Nat) (hk : mka k = true) (h71 : k ≠ 71) (i : Nat) : tI S (r k) i = D k i := congrFun ((h.2.2.1 k hk).2.2.2 h71) i
theorem mR.tj (h : mR D J S M r) (i : Nat) : tJ S (r 71) i = J i := congrFun h.2.2.2.1 i
theorem mR.m (h : mR D J S M r) (k : Nat) (hk : mka k = true) (hK : mkκ k ≠ 7) : r k ≠ M := fun q => hK (by rw [← h.k k hk, q]; exact h.1)
/-- an index within a row -/
theorem mR.b (h : mR D J S M r) (k : Nat) (hk : mka k = true) {i : Int32} {n : Nat} (e : i = nI n) (hn : n < mkn k) (h31 : mkn k < 2 ^ 31) : vp_in i (mN S (r k)) := by rw [h.n k hk, e]; exact vp_in_nI hn h31
theorem mR.b' (h : mR D J S M r) (k : Nat) (hk : mka k = true) {i : Int32} (hi : ∃ n : Nat, i = nI n ∧ n < mkn k) (h31 : mkn k < 2 ^ 31) : vp_in i (mN S (r k)) := by
  obtain ⟨n, e, hn⟩ := hi
  exact h.b k hk e hn h31
theorem mka_i {k : Nat} (h : mki k = true) : mka k = false := by
  unfold mki at h
  have e : k = 39 ∨ k = 40 ∨ k = 41 ∨ k = 48 ∨ k = 52 ∨ k = 57 ∨ k = 66 ∨ k = 67 := by
    simp only [Bool.or_eq_true] at h
    rcases h with ((((((h | h) | h) | h) | h) | h) | h) | h
    all_goals (have := Nat.eq_of_beq_eq_true h; omega)
  rcases e with rfl | rfl | rfl | rfl | rfl | rfl | rfl | rfl <;> rfl
theorem mki_a {k : Nat} (h : mka k = true) : mki k = false := by
  cases hq : mki k with
  | false => rfl
  | true => rw [mka_i hq] at h; cases h
theorem mR.sI (h : mR D J S M r) (k : Nat) (hk : mki k = true) (v : Int32) : mR (dS D k (up1 (D k) 0 v)) J (sI S k M v) M r := by
  obtain ⟨h1, h2, h3, h4, h5⟩ := h
  refine ⟨h1, fun k' hk' => ?_, fun k' hk' => ?_, h4, h5⟩
  · show up2 S.2.1 k M v k' M = dS D k (up1 (D k) 0 v) k' 0
    by_cases q : k' = k
    · subst q; rw [up2_self, dS_self, up1_self]
    · rw [up2_k q, dS_ne q]; exact h2 k' hk'
  · obtain ⟨a, b, c, d⟩ := h3 k' hk'
    have q : k' ≠ k := by rintro rfl; rw [mka_i hk] at hk'; cases hk'
    exact ⟨a, b, c, fun z => by rw [dS_ne q]; exact d z⟩
theorem mR.eI (h : mR D J S M r) (k : Nat) (hk : mka k = true) (h71 : k ≠ 71) (i : Nat) (v : Int32) : mR (dS D k (up1 (D k) i v)) J (eI S (r k) i v) M r := by
  obtain ⟨h1, h2, h3, h4, h5⟩ := h
  refine ⟨h1, fun k' hk' => ?_, fun k' hk' => ?_, h4, h5⟩
  · have q : k' ≠ k := by rintro rfl; rw [mki_a hk] at hk'; cases hk'
    rw [dS_ne q]; exact h2 k' hk'
  · obtain ⟨a, b, c, d⟩ := h3 k' hk'
    refine ⟨a, b, c, fun z => ?_⟩
    show up2 S.2.2.2.2.2.1 (r k) i v (r k') = _
    by_cases q : k' = k
    · subst q
      rw [dS_self]
      funext j
      by_cases e : j = i
      · subst e; rw [up2_self, up1_self]
      · rw [up2_a e, up1_ne e]; exact congrFun (d z) j
    · rw [up2f (fun e => q (h5 k' k hk' hk e)), dS_ne q]; exact d z
theorem mR.eJ (h : mR D J S M r) (i : Nat) (v : Int64) : mR D (up1 J i v) (eJ S (r 71) i v) M r := by
  obtain ⟨h1, h2, h3, h4, h5⟩ := h
  refine ⟨h1, h2, h3, ?_, h5⟩
  show up2 S.2.2.2.2.2.2.2.1 (r 71) i v (r 71) = _
  funext j
  by_cases e : j = i
  · subst e; rw [up2_self, up1_self]
  · rw [up2_a e, up1_ne e]; exact congrFun h4 j
end MRR
/-- two states that differ in nothing but what no answer rests on: what was thrown, the rows ahead, ranked, many, isFilled, table -/
def jnk (k : Nat) : Bool := Nat.beq k 39 || (Nat.ble 62 k && Nat.ble k 65) || Nat.beq k 72
def eqJ (D1 D : ZD) : Prop := ∀ k : Nat, jnk k = false → D1 k = D k
theorem eqJ.refl (D : ZD) : eqJ D D := fun _ _ => rfl
theorem eqJ.trans {D D1 D2 : ZD} (h : eqJ D2 D1) (h1 : eqJ D1 D) : eqJ D2 D := fun k hk => (h k hk).trans (h1 k hk)
theorem eqJ.symm {D D1 : ZD} (h : eqJ D1 D) : eqJ D D1 := fun k hk => (h k hk).symm
theorem eqJ.dS {D D1 : ZD} (h : eqJ D1 D) {k : Nat} (hk : jnk k = true) (f : Nat → Int32) : eqJ (dS D1 k f) D := fun k' hk' => by
  rw [dS_ne (by rintro rfl; rw [hk] at hk'; cases hk')]; exact h k' hk'
/-- row 39 is what was thrown -/
def s39 (D : ZD) (v : Int32) : ZD := dS D 39 (up1 (D 39) 0 v)
theorem s39_back {D : ZD} (h : D 39 0 = 0) (v : Int32) : dS (s39 D v) 39 (up1 (s39 D v 39) 0 0) = D := by
  funext k i
  by_cases q : k = 39
  · subst q
    rw [dS_self]
    by_cases e : i = 0
    · subst e; rw [up1_self, h]
    · rw [up1_ne e]; show dS D 39 (up1 (D 39) 0 v) 39 i = _; rw [dS_self, up1_ne e]
  · rw [dS_ne q]; show dS D 39 (up1 (D 39) 0 v) k i = _; rw [dS_ne q]
theorem s39_self {D : ZD} (h : D 39 0 = 0) : s39 D 0 = D := by
  funext k i
  unfold s39
  by_cases q : k = 39
  · subst q
    rw [dS_self]
    by_cases e : i = 0
    · subst e; rw [up1_self, h]
    · rw [up1_ne e]
  · rw [dS_ne q]
/-- the reference's object, whatever it threw last -/
def iM (D : ZD) (J : Nat → Int64) (S : ZM) (M : Nat) (r : Nat → Nat) : Prop := ∃ v : Int32, mR (s39 D v) J S M r
theorem iM.th {D : ZD} {J : Nat → Int64} {S : ZM} {M : Nat} {r : Nat → Nat} (h : iM D J S M r) (h39 : D 39 0 = 0) : mR D J (sI S 39 M 0) M r := by
  obtain ⟨v, h⟩ := h
  have := h.sI 39 rfl 0
  rw [s39_back h39] at this; exact this
theorem mR_fl {D : ZD} {J : Nat → Int64} {S : ZM} {M : Nat} {r : Nat → Nat} (h : mR D J S M r) (v : Int32) : mR (s39 D v) J (sI S 39 M v) M r := h.sI 39 rfl v
section ZKM
variable {X : zX} {own : String} {cc : ByteArray} {nL : Nat} {Ts : List Cond} {k n : Nat} {S : ZM} {pc : Nat} {ls : List (Option ZV)} {st : List ZV}
variable {y : MethodName} {bytes : ByteArray} {maxL mc ms index : Nat} {ret : Option FieldType} {ws ws' : List Cond} {rm : Room} {P : zP}
/-- a call of one of the reference's own methods (kind 7) on an object -/
theorem z_callM {b : Nat} (n0 : Nat) (as : List ZV) {stk : List ZV} (C : zC X own cc nL Ts) (hy : y.cls = RX5) (hM : zMet (xl X) y ws rm mc ms (zr (some b) :: as) S P) (hst : stk = as.reverse ++ zr (some b) :: st) (hG : GoodIn Ts (wsV own index y.cls y ws)) (hw : ws = Cond.code y bytes maxL ret :: ws') (hrc : rm.cells = mc) (hrs : rm.slots = ms)
    (hd : y.cls ≠ "java/lang/invoke/MethodHandle" ∧ y.cls ≠ "java/lang/invoke/VarHandle" ∧ (parseMethodDescriptor y.desc).map (fun d => d.parameters.length) = some n0) (hn0 : as.length = n0) (hR : rm.frames + 1 ≤ (xR X).frames ∧ 8 + (maxL + 11) + rm.locals ≤ (xR X).locals)
    (hk : mK S b = 7) (hf : k + mc ≤ (xR X).cells ∧ n + ms ≤ (xR X).slots) (hcat : (st.map fun v => if zwide v = true then 2 else 1).sum ≤ 8) (d : decode cc pc = .ok (.invokevirtual index, 3))
    (kk : ∀ (v : Option ZV) (S' : ZM), P (.inl v) S' → zW X nL (k + mc) (n + ms) S' (pc + 3) ls (v.toList ++ st)) (kx : ∀ (E : String) (S' : ZM), P (.inr E) S' → zT X nL (k + mc) (n + ms) S' pc ls st E) : zW X nL k n S pc ls stk :=
  z_callV (ci := 7) (N := 34) (T := TX5) n0 as C hM hst hG hw hrc hrs ⟨rfl, hd⟩ hn0 hR hk (zcell_7 _ _ _) (by rw [hy]; rfl) hf hcat d kk kx
end ZKM
