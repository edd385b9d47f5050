/-! fields, arrays, new cells, calls and ends over the typed memory; the contract zMet -/
theorem va_one {D : va_G} {cl : List vw_C} {q : Nat × va_E} {H : Heap} (h : va_at D cl q H) : va_P D cl [q] H := fun k x hx => by
  have hz : k < 1 := (List.getElem?_eq_some_iff.mp hx).1
  rw [show k = 0 by omega] at hx
  cases hx
  exact h
/-- kinds that have cells -/
def zkn (κ : Nat) : Bool := Nat.ble 2 κ && Nat.ble κ 7 || Nat.ble 10 κ && Nat.ble κ 19
theorem z_kn {G : zG} {S : ZM} {a κ : Nat} (h : zcell G S a κ = none) : zkn κ = false := by
  cases hz : zkn κ with
  | false => rfl
  | true =>
    exfalso
    simp only [zkn, Bool.or_eq_true, Bool.and_eq_true, Nat.ble_eq] at hz
    rcases (show κ = 2 ∨ κ = 3 ∨ κ = 4 ∨ κ = 5 ∨ κ = 6 ∨ κ = 7 ∨ κ = 10 ∨ κ = 11 ∨ κ = 12 ∨ κ = 13 ∨ κ = 14 ∨ κ = 15 ∨ κ = 16 ∨ κ = 17 ∨ κ = 18 ∨ κ = 19 by omega) with rfl | rfl | rfl | rfl | rfl | rfl | rfl | rfl | rfl | rfl | rfl | rfl | rfl | rfl | rfl | rfl <;> cases h
theorem zkn_ne {S : ZM} {a b : Nat} (h : zkn (mK S a) = false) (hb : zkn (mK S b) = true) : b ≠ a := by rintro rfl; rw [h] at hb; cases hb
section ZH
variable {X : zX} {own : String} {cc : ByteArray} {nL : Nat} {Ts : List Cond} {k n : Nat} {S : ZM} {pc : Nat} {ls : List (Option ZV)} {st : List ZV}
theorem zC.K (C : zC X own cc nL Ts) : va_K (zDD (xG X)) vwCl (ztys (xG X)) (xs X) := C.2.2.2.2.2.1
theorem zC.t (C : zC X own cc nL Ts) : ∀ w ∈ Ts, w.before (xa X) (xs X) = true := C.2.2.2.2.1
theorem zC.o (C : zC X own cc nL Ts) : (xs X).vm.findClass own = some (xm X).cls := C.2.2.2.1
theorem zC.A (C : zC X own cc nL Ts) : ∀ q : Nat, (xs X).heap.size ≤ q → xA X q := C.2.2.2.2.2.2.1
theorem zC.lk (C : zC X own cc nL Ts) : (xh X).locks = false := C.2.2.2.2.2.2.2.1
theorem zC.E (C : zC X own cc nL Ts) : zE (xA X) (xs X) := C.2.2.2.2.2.2.2.2.1
theorem zC.fl (C : zC X own cc nL Ts) : (xl X).stackTraces = false := C.2.2.2.2.2.2.2.2.2
/-- getfield, whatever the class -/
theorem z_get {Cn : String} {T : u_T} {N ci index a κ : Nat} {fs : List Value} {v : ZV} (j : Nat) (C : zC X own cc nL Ts) (hin : ∀ w ∈ u_ws Cn T N, w ∈ Ts) (hc : vwCl[ci]? = some (Cn, T, N)) (hk : mK S a = κ) (he : zcell (xG X) S a κ = some (.inr (ci, fs))) (hj : j < N) (hv : fs[j]? = some (zv v)) (hl0 : Cond.fieldLink own index (T j).1 (T j).2.1 (T j).2.2.1 ∈ Ts) (d : decode cc pc = .ok (.getfield index, 3)) (h : zW X nL k n S (pc + 3) ls (v :: st)) : zW X nL k n S pc ls (zr (some a) :: st) := fun H locs la hH hS hl => by
  subst hk
  exact va_get (ci := ci) (C := Cn) (T := T) (N := N) C.1 C.2.1 C.t hin C.o C.K (va_one (hH a _ he).1) 0 rfl hc j hj (C.t _ hl0) (fun _ h9 => h9) hv d (h H locs la hH hS hl)
theorem z_put0 {p : Program} {l : Launch} {e : Env} {R : Room} {s : State} {m : MethodId} {args : Array Value} {below : List Frame} {meth : Method} {c : Code} {H : Heap} {locs : List Loc} {cells slots : Nat} {Q : State → Prop} {cc : ByteArray} {pc : Nat} {ls : Array Slot} {rest : List Value} {D : va_G} {cl : List vw_C} {A : Nat → Prop} {a : Nat} {tys : List (ClassId × FieldType)} {H0 : Heap}
    (hexec : p.tables.exec = Jvm.exec) (hb : c.code = cc) {own ref C : String} {T : u_T} {N ci index : Nat} {Ts : List Cond} (hts : ∀ w ∈ Ts, w.before args s = true) (hin : ∀ w ∈ u_ws C T N, w ∈ Ts) (ty0 : Nat → FieldType) (hty : ∀ k, k < N → parseFieldDescriptor (T k).2.2.1 = some (ty0 k)) (hnm : ∀ a, a < N → ∀ b, b < N → a ≠ b → (T a).2.1 ≠ (T b).2.1) (hown : s.vm.findClass own = some m.cls) (hK : va_K D cl tys s) {fs : List Value} (hat : va_at D cl (a, .inr (ci, fs)) H) (hA : A a) (hS0 : va_S A H0 H locs) (hc : cl[ci]? = some (C, T, N)) (k : Nat) (hk : k < N) (hlink : (Cond.fieldLink own index ref (T k).2.1 (T k).2.2.1).before args s = true) (hsame : ∀ x, s.fieldFound? (T k).1 (T k).2.1 (T k).2.2.1 = some x → s.fieldFound? ref (T k).2.1 (T k).2.2.1 = some x) (hfin : (T k).2.2.2 = false ∨ (meth.name = "<init>" ∧ (T k).1 = own)) {v : Value} (hn : narrow (ty0 k) v = v) (hfit : fits (ty0 k) v = true) (hl : k < fs.length)
    (hdg : decode cc pc = .ok (.putfield index, 3)) (kk : ∀ (H1 : Heap) (locs1 : List Loc), va_at D cl (a, .inr (ci, fs.set k v)) H1 → (∀ q : Nat, q ≠ a → H1[q]? = H[q]?) → va_S A H0 H1 locs1 → W p l e R s m args below meth c H1 locs1 cells slots Q (F0 m (pc + 3) ls rest)) : W p l e R s m args below meth c H locs cells slots Q (F0 m pc ls (v :: .ref a :: rest)) := by
  have hd := hty k hk
  have hap := va_apart (own := own) hts hin ty0 hty hnm hK hc
  obtain ⟨r, h1, cell, q1, q2, q3, q4⟩ := hat
  have hr : r = (C, T, N) := Option.some.inj (h1.symm.trans hc)
  subst hr
  obtain ⟨hS, hfc, kC, hkC, hkind⟩ := hK.1 ci _ hc
  obtain ⟨cf, kf, fi, f, hi, hsl⟩ := hS k hk
  have hlay := hts _ (hin _ (u_in_lay hk))
  unfold u_lay at hlay
  have hst := (u_facts hfc hkC (u_lays hts hin hk) hi).1
  by_cases hf : (T k).2.2.2 = true
  · rw [if_pos hf] at hlay
    obtain ⟨hin2, hdecl⟩ : meth.name = "<init>" ∧ (T k).1 = own := by
      rcases hfin with h | h
      · rw [hf] at h; cases h
      · exact h
    have hcf : m.cls = cf := by
      obtain ⟨_, _, c', _, _, _, -, -, hf', -, -, -, hown2, -⟩ := Cond.laysFinal_spec hlay
      have e1 : c' = cf := by have := hi.symm.trans hf'; simp at this; exact this.1.symm
      rw [hdecl] at hown2
      rw [← e1]; exact Option.some.inj (hown.symm.trans hown2)
    have h6 := u_fits hfc hkC hkind (Or.inr hlay) hi hd hn hfit
    refine W.putFinK hexec hb hown hlink (hsame _ hi) hst hcf hin2 (by rw [q2]; exact h6) q1 q3 (by rw [hsl]; exact k2_hasslot (q4 k hk)) rfl rfl hdg fun H' e1 e2 e3 => ?_
    rw [hsl] at e1 ⊢
    exact kk H' _ ⟨_, hc, t_OB.to (V := updV (vp_V fs) k v) ⟨_, e1, q2, q3, t_set q4 hap hk v⟩ (fun j _ => vp_updV_set hl v j)⟩ e3 (hS0.put e2 e3 hA)
  · rw [if_neg hf] at hlay
    have h6 := u_store hfc hkC hkind hlay hi hd hn hfit
    refine W.putK hexec hb (f := f) ⟨hown, hlink, ⟨_, _, _, hsame _ hi⟩, hst⟩ (by rw [q2]; exact h6) q1 q3 (by rw [hsl]; exact k2_hasslot (q4 k hk)) rfl rfl hdg fun H' e1 e2 e3 => ?_
    rw [hsl] at e1 ⊢
    exact kk H' _ ⟨_, hc, t_OB.to (V := updV (vp_V fs) k v) ⟨_, e1, q2, q3, t_set q4 hap hk v⟩ (fun j _ => vp_updV_set hl v j)⟩ e3 (hS0.put e2 e3 hA)
/-- putfield, whatever the class: S' is S with the cell of a changed alone -/
theorem z_put {Cn : String} {T : u_T} {N ci index a κ : Nat} {fs : List Value} {v : ZV} {S' : ZM} (j : Nat) (ty0 : Nat → FieldType) (hty : ∀ k, k < N → parseFieldDescriptor (T k).2.2.1 = some (ty0 k)) (hnm : ∀ a, a < N → ∀ b, b < N → a ≠ b → (T a).2.1 ≠ (T b).2.1) (C : zC X own cc nL Ts) (hin : ∀ w ∈ u_ws Cn T N, w ∈ Ts) (hc : vwCl[ci]? = some (Cn, T, N)) (hk : mK S a = κ) (he : zcell (xG X) S a κ = some (.inr (ci, fs))) (hj : j < N) (hjl : j < fs.length) (hK' : mK S' = mK S) (he' : zcell (xG X) S' a κ = some (.inr (ci, fs.set j (zv v)))) (ho : ∀ b : Nat, b ≠ a → ∀ κ : Nat, zcell (xG X) S' b κ = zcell (xG X) S b κ) (hfin : (T j).2.2.2 = false ∨ ((xh X).name = "<init>" ∧ (T j).1 = own)) (hn : narrow (ty0 j) (zv v) = zv v) (hfit : fits (ty0 j) (zv v) = true) (hl0 : Cond.fieldLink own index (T j).1 (T j).2.1 (T j).2.2.1 ∈ Ts) (d : decode cc pc = .ok (.putfield index, 3)) (h : zW X nL k n S' (pc + 3) ls st) : zW X nL k n S pc ls (v :: zr (some a) :: st) := fun H locs la hH hS hl => by
  subst hk
  obtain ⟨hat, hAa⟩ := hH a _ he
  refine z_put0 (ci := ci) (C := Cn) (T := T) (N := N) C.1 C.2.1 C.t hin ty0 hty hnm C.o C.K hat hAa hS hc j hj (C.t _ hl0) (fun _ h9 => h9) hfin hn hfit hjl d (fun H1 locs1 hat1 ho1 hS1 => h H1 locs1 la ?_ hS1 hl)
  refine hH.write (a := a) ho1 (fun b hb => by rw [hK']; exact ho b hb _) (fun e hee => ?_)
  rw [hK', he'] at hee
  cases hee
  exact ⟨hat1, hAa⟩

theorem zg0_rule {a index : Nat} (C : zC X own cc nL Ts) (hin : ∀ w ∈ wsX00, w ∈ Ts) (hk : mK S a = 2) (hl0 : Cond.fieldLink own index "Smartcrate$Crate" "rule" "LSmartcrate$Rule;" ∈ Ts) (d : decode cc pc = .ok (.getfield index, 3)) (h : zW X nL k n S (pc + 3) ls (zr (mQ S 0 a) :: st)) : zW X nL k n S pc ls (zr (some a) :: st) := z_get (Cn := RX0) (T := TX0) (N := 3) (ci := 2) 0 C hin rfl hk (zcell_2 _ _ _) (Nat.le_of_ble_eq_true rfl) rfl hl0 d h
theorem zp0_rule {a index : Nat} {v : Option Nat} (C : zC X own cc nL Ts) (hin : ∀ w ∈ wsX00, w ∈ Ts) (hk : mK S a = 2) (hl0 : Cond.fieldLink own index "Smartcrate$Crate" "rule" "LSmartcrate$Rule;" ∈ Ts) (d : decode cc pc = .ok (.putfield index, 3)) (h : zW X nL k n (sQ S 0 a v) (pc + 3) ls st) : zW X nL k n S pc ls (zr v :: zr (some a) :: st) := z_put (Cn := RX0) (T := TX0) (N := 3) (ci := 2) (S' := sQ S 0 a v) (v := zr v) 0 tyX0 tyX0_ok nmX0 C hin rfl hk (zcell_2 _ _ _) (Nat.le_of_ble_eq_true rfl) (Nat.le_of_ble_eq_true rfl) rfl (by rw [zcell_2]; simp [up2, zv, mK, mI, mQ, mJ, mN, tI, tQ, tJ, tD, sI, sQ, sJ]) (fun b hb κ => zcell_sQ _ _ _ _ _ hb κ) (Or.inl rfl) (by cases v <;> rfl) (by cases v <;> rfl) hl0 d h
theorem zg0_order {a index : Nat} (C : zC X own cc nL Ts) (hin : ∀ w ∈ wsX00, w ∈ Ts) (hk : mK S a = 2) (hl0 : Cond.fieldLink own index "Smartcrate$Crate" "order" "C" ∈ Ts) (d : decode cc pc = .ok (.getfield index, 3)) (h : zW X nL k n S (pc + 3) ls (zi (mI S 1 a) :: st)) : zW X nL k n S pc ls (zr (some a) :: st) := z_get (Cn := RX0) (T := TX0) (N := 3) (ci := 2) 1 C hin rfl hk (zcell_2 _ _ _) (Nat.le_of_ble_eq_true rfl) rfl hl0 d h
theorem zp0_order {a index : Nat} {v : Int32} (C : zC X own cc nL Ts) (hin : ∀ w ∈ wsX00, w ∈ Ts) (hk : mK S a = 2) (hn : narrow .char (.int v) = .int v) (hfc : fits .char (.int v) = true) (hl0 : Cond.fieldLink own index "Smartcrate$Crate" "order" "C" ∈ Ts) (d : decode cc pc = .ok (.putfield index, 3)) (h : zW X nL k n (sI S 1 a v) (pc + 3) ls st) : zW X nL k n S pc ls (zi v :: zr (some a) :: st) := z_put (Cn := RX0) (T := TX0) (N := 3) (ci := 2) (S' := sI S 1 a v) (v := zi v) 1 tyX0 tyX0_ok nmX0 C hin rfl hk (zcell_2 _ _ _) (Nat.le_of_ble_eq_true rfl) (Nat.le_of_ble_eq_true rfl) rfl (by rw [zcell_2]; simp [up2, zv, mK, mI, mQ, mJ, mN, tI, tQ, tJ, tD, sI, sQ, sJ]) (fun b hb κ => zcell_sI _ _ _ _ _ hb κ) (Or.inl rfl) hn hfc hl0 d h
theorem zg0_limit {a index : Nat} (C : zC X own cc nL Ts) (hin : ∀ w ∈ wsX00, w ∈ Ts) (hk : mK S a = 2) (hl0 : Cond.fieldLink own index "Smartcrate$Crate" "limit" "I" ∈ Ts) (d : decode cc pc = .ok (.getfield index, 3)) (h : zW X nL k n S (pc + 3) ls (zi (mI S 2 a) :: st)) : zW X nL k n S pc ls (zr (some a) :: st) := z_get (Cn := RX0) (T := TX0) (N := 3) (ci := 2) 2 C hin rfl hk (zcell_2 _ _ _) (Nat.le_of_ble_eq_true rfl) rfl hl0 d h
theorem zp0_limit {a index : Nat} {v : Int32} (C : zC X own cc nL Ts) (hin : ∀ w ∈ wsX00, w ∈ Ts) (hk : mK S a = 2) (hl0 : Cond.fieldLink own index "Smartcrate$Crate" "limit" "I" ∈ Ts) (d : decode cc pc = .ok (.putfield index, 3)) (h : zW X nL k n (sI S 2 a v) (pc + 3) ls st) : zW X nL k n S pc ls (zi v :: zr (some a) :: st) := z_put (Cn := RX0) (T := TX0) (N := 3) (ci := 2) (S' := sI S 2 a v) (v := zi v) 2 tyX0 tyX0_ok nmX0 C hin rfl hk (zcell_2 _ _ _) (Nat.le_of_ble_eq_true rfl) (Nat.le_of_ble_eq_true rfl) rfl (by rw [zcell_2]; simp [up2, zv, mK, mI, mQ, mJ, mN, tI, tQ, tJ, tD, sI, sQ, sJ]) (fun b hb κ => zcell_sI _ _ _ _ _ hb κ) (Or.inl rfl) rfl rfl hl0 d h
theorem zg1_number {a index : Nat} (C : zC X own cc nL Ts) (hin : ∀ w ∈ wsX10, w ∈ Ts) (hk : mK S a = 3) (hl0 : Cond.fieldLink own index "Smartcrate$Rule" "number" "I" ∈ Ts) (d : decode cc pc = .ok (.getfield index, 3)) (h : zW X nL k n S (pc + 3) ls (zi (mI S 3 a) :: st)) : zW X nL k n S pc ls (zr (some a) :: st) := z_get (Cn := RX1) (T := TX1) (N := 7) (ci := 3) 0 C hin rfl hk (zcell_3 _ _ _) (Nat.le_of_ble_eq_true rfl) rfl hl0 d h
theorem zp1_number {a index : Nat} {v : Int32} (C : zC X own cc nL Ts) (hin : ∀ w ∈ wsX10, w ∈ Ts) (hk : mK S a = 3) (hfi : (xh X).name = "<init>") (ho : "Smartcrate$Rule" = own) (hl0 : Cond.fieldLink own index "Smartcrate$Rule" "number" "I" ∈ Ts) (d : decode cc pc = .ok (.putfield index, 3)) (h : zW X nL k n (sI S 3 a v) (pc + 3) ls st) : zW X nL k n S pc ls (zi v :: zr (some a) :: st) := z_put (Cn := RX1) (T := TX1) (N := 7) (ci := 3) (S' := sI S 3 a v) (v := zi v) 0 tyX1 tyX1_ok nmX1 C hin rfl hk (zcell_3 _ _ _) (Nat.le_of_ble_eq_true rfl) (Nat.le_of_ble_eq_true rfl) rfl (by rw [zcell_3]; simp [up2, zv, mK, mI, mQ, mJ, mN, tI, tQ, tJ, tD, sI, sQ, sJ]) (fun b hb κ => zcell_sI _ _ _ _ _ hb κ) (Or.inr ⟨hfi, ho⟩) rfl rfl hl0 d h
theorem zg1_kind {a index : Nat} (C : zC X own cc nL Ts) (hin : ∀ w ∈ wsX10, w ∈ Ts) (hk : mK S a = 3) (hl0 : Cond.fieldLink own index "Smartcrate$Rule" "kind" "I" ∈ Ts) (d : decode cc pc = .ok (.getfield index, 3)) (h : zW X nL k n S (pc + 3) ls (zi (mI S 4 a) :: st)) : zW X nL k n S pc ls (zr (some a) :: st) := z_get (Cn := RX1) (T := TX1) (N := 7) (ci := 3) 1 C hin rfl hk (zcell_3 _ _ _) (Nat.le_of_ble_eq_true rfl) rfl hl0 d h
theorem zp1_kind {a index : Nat} {v : Int32} (C : zC X own cc nL Ts) (hin : ∀ w ∈ wsX10, w ∈ Ts) (hk : mK S a = 3) (hfi : (xh X).name = "<init>") (ho : "Smartcrate$Rule" = own) (hl0 : Cond.fieldLink own index "Smartcrate$Rule" "kind" "I" ∈ Ts) (d : decode cc pc = .ok (.putfield index, 3)) (h : zW X nL k n (sI S 4 a v) (pc + 3) ls st) : zW X nL k n S pc ls (zi v :: zr (some a) :: st) := z_put (Cn := RX1) (T := TX1) (N := 7) (ci := 3) (S' := sI S 4 a v) (v := zi v) 1 tyX1 tyX1_ok nmX1 C hin rfl hk (zcell_3 _ _ _) (Nat.le_of_ble_eq_true rfl) (Nat.le_of_ble_eq_true rfl) rfl (by rw [zcell_3]; simp [up2, zv, mK, mI, mQ, mJ, mN, tI, tQ, tJ, tD, sI, sQ, sJ]) (fun b hb κ => zcell_sI _ _ _ _ _ hb κ) (Or.inr ⟨hfi, ho⟩) rfl rfl hl0 d h
theorem zg1_asked {a index : Nat} (C : zC X own cc nL Ts) (hin : ∀ w ∈ wsX10, w ∈ Ts) (hk : mK S a = 3) (hl0 : Cond.fieldLink own index "Smartcrate$Rule" "asked" "I" ∈ Ts) (d : decode cc pc = .ok (.getfield index, 3)) (h : zW X nL k n S (pc + 3) ls (zi (mI S 5 a) :: st)) : zW X nL k n S pc ls (zr (some a) :: st) := z_get (Cn := RX1) (T := TX1) (N := 7) (ci := 3) 2 C hin rfl hk (zcell_3 _ _ _) (Nat.le_of_ble_eq_true rfl) rfl hl0 d h
theorem zp1_asked {a index : Nat} {v : Int32} (C : zC X own cc nL Ts) (hin : ∀ w ∈ wsX10, w ∈ Ts) (hk : mK S a = 3) (hfi : (xh X).name = "<init>") (ho : "Smartcrate$Rule" = own) (hl0 : Cond.fieldLink own index "Smartcrate$Rule" "asked" "I" ∈ Ts) (d : decode cc pc = .ok (.putfield index, 3)) (h : zW X nL k n (sI S 5 a v) (pc + 3) ls st) : zW X nL k n S pc ls (zi v :: zr (some a) :: st) := z_put (Cn := RX1) (T := TX1) (N := 7) (ci := 3) (S' := sI S 5 a v) (v := zi v) 2 tyX1 tyX1_ok nmX1 C hin rfl hk (zcell_3 _ _ _) (Nat.le_of_ble_eq_true rfl) (Nat.le_of_ble_eq_true rfl) rfl (by rw [zcell_3]; simp [up2, zv, mK, mI, mQ, mJ, mN, tI, tQ, tJ, tD, sI, sQ, sJ]) (fun b hb κ => zcell_sI _ _ _ _ _ hb κ) (Or.inr ⟨hfi, ho⟩) rfl rfl hl0 d h
theorem zg1_one {a index : Nat} (C : zC X own cc nL Ts) (hin : ∀ w ∈ wsX10, w ∈ Ts) (hk : mK S a = 3) (hl0 : Cond.fieldLink own index "Smartcrate$Rule" "one" "LSmartcrate$Rule;" ∈ Ts) (d : decode cc pc = .ok (.getfield index, 3)) (h : zW X nL k n S (pc + 3) ls (zr (mQ S 6 a) :: st)) : zW X nL k n S pc ls (zr (some a) :: st) := z_get (Cn := RX1) (T := TX1) (N := 7) (ci := 3) 3 C hin rfl hk (zcell_3 _ _ _) (Nat.le_of_ble_eq_true rfl) rfl hl0 d h
theorem zp1_one {a index : Nat} {v : Option Nat} (C : zC X own cc nL Ts) (hin : ∀ w ∈ wsX10, w ∈ Ts) (hk : mK S a = 3) (hfi : (xh X).name = "<init>") (ho : "Smartcrate$Rule" = own) (hl0 : Cond.fieldLink own index "Smartcrate$Rule" "one" "LSmartcrate$Rule;" ∈ Ts) (d : decode cc pc = .ok (.putfield index, 3)) (h : zW X nL k n (sQ S 6 a v) (pc + 3) ls st) : zW X nL k n S pc ls (zr v :: zr (some a) :: st) := z_put (Cn := RX1) (T := TX1) (N := 7) (ci := 3) (S' := sQ S 6 a v) (v := zr v) 3 tyX1 tyX1_ok nmX1 C hin rfl hk (zcell_3 _ _ _) (Nat.le_of_ble_eq_true rfl) (Nat.le_of_ble_eq_true rfl) rfl (by rw [zcell_3]; simp [up2, zv, mK, mI, mQ, mJ, mN, tI, tQ, tJ, tD, sI, sQ, sJ]) (fun b hb κ => zcell_sQ _ _ _ _ _ hb κ) (Or.inr ⟨hfi, ho⟩) (by cases v <;> rfl) (by cases v <;> rfl) hl0 d h
theorem zg1_other {a index : Nat} (C : zC X own cc nL Ts) (hin : ∀ w ∈ wsX10, w ∈ Ts) (hk : mK S a = 3) (hl0 : Cond.fieldLink own index "Smartcrate$Rule" "other" "LSmartcrate$Rule;" ∈ Ts) (d : decode cc pc = .ok (.getfield index, 3)) (h : zW X nL k n S (pc + 3) ls (zr (mQ S 7 a) :: st)) : zW X nL k n S pc ls (zr (some a) :: st) := z_get (Cn := RX1) (T := TX1) (N := 7) (ci := 3) 4 C hin rfl hk (zcell_3 _ _ _) (Nat.le_of_ble_eq_true rfl) rfl hl0 d h
theorem zp1_other {a index : Nat} {v : Option Nat} (C : zC X own cc nL Ts) (hin : ∀ w ∈ wsX10, w ∈ Ts) (hk : mK S a = 3) (hfi : (xh X).name = "<init>") (ho : "Smartcrate$Rule" = own) (hl0 : Cond.fieldLink own index "Smartcrate$Rule" "other" "LSmartcrate$Rule;" ∈ Ts) (d : decode cc pc = .ok (.putfield index, 3)) (h : zW X nL k n (sQ S 7 a v) (pc + 3) ls st) : zW X nL k n S pc ls (zr v :: zr (some a) :: st) := z_put (Cn := RX1) (T := TX1) (N := 7) (ci := 3) (S' := sQ S 7 a v) (v := zr v) 4 tyX1 tyX1_ok nmX1 C hin rfl hk (zcell_3 _ _ _) (Nat.le_of_ble_eq_true rfl) (Nat.le_of_ble_eq_true rfl) rfl (by rw [zcell_3]; simp [up2, zv, mK, mI, mQ, mJ, mN, tI, tQ, tJ, tD, sI, sQ, sJ]) (fun b hb κ => zcell_sQ _ _ _ _ _ hb κ) (Or.inr ⟨hfi, ho⟩) (by cases v <;> rfl) (by cases v <;> rfl) hl0 d h
theorem zg1_size {a index : Nat} (C : zC X own cc nL Ts) (hin : ∀ w ∈ wsX10, w ∈ Ts) (hk : mK S a = 3) (hl0 : Cond.fieldLink own index "Smartcrate$Rule" "size" "I" ∈ Ts) (d : decode cc pc = .ok (.getfield index, 3)) (h : zW X nL k n S (pc + 3) ls (zi (mI S 8 a) :: st)) : zW X nL k n S pc ls (zr (some a) :: st) := z_get (Cn := RX1) (T := TX1) (N := 7) (ci := 3) 5 C hin rfl hk (zcell_3 _ _ _) (Nat.le_of_ble_eq_true rfl) rfl hl0 d h
theorem zp1_size {a index : Nat} {v : Int32} (C : zC X own cc nL Ts) (hin : ∀ w ∈ wsX10, w ∈ Ts) (hk : mK S a = 3) (hfi : (xh X).name = "<init>") (ho : "Smartcrate$Rule" = own) (hl0 : Cond.fieldLink own index "Smartcrate$Rule" "size" "I" ∈ Ts) (d : decode cc pc = .ok (.putfield index, 3)) (h : zW X nL k n (sI S 8 a v) (pc + 3) ls st) : zW X nL k n S pc ls (zi v :: zr (some a) :: st) := z_put (Cn := RX1) (T := TX1) (N := 7) (ci := 3) (S' := sI S 8 a v) (v := zi v) 5 tyX1 tyX1_ok nmX1 C hin rfl hk (zcell_3 _ _ _) (Nat.le_of_ble_eq_true rfl) (Nat.le_of_ble_eq_true rfl) rfl (by rw [zcell_3]; simp [up2, zv, mK, mI, mQ, mJ, mN, tI, tQ, tJ, tD, sI, sQ, sJ]) (fun b hb κ => zcell_sI _ _ _ _ _ hb κ) (Or.inr ⟨hfi, ho⟩) rfl rfl hl0 d h
theorem zg1_listSet {a index : Nat} (C : zC X own cc nL Ts) (hin : ∀ w ∈ wsX10, w ∈ Ts) (hk : mK S a = 3) (hl0 : Cond.fieldLink own index "Smartcrate$Rule" "listSet" "I" ∈ Ts) (d : decode cc pc = .ok (.getfield index, 3)) (h : zW X nL k n S (pc + 3) ls (zi (mI S 9 a) :: st)) : zW X nL k n S pc ls (zr (some a) :: st) := z_get (Cn := RX1) (T := TX1) (N := 7) (ci := 3) 6 C hin rfl hk (zcell_3 _ _ _) (Nat.le_of_ble_eq_true rfl) rfl hl0 d h
theorem zp1_listSet {a index : Nat} {v : Int32} (C : zC X own cc nL Ts) (hin : ∀ w ∈ wsX10, w ∈ Ts) (hk : mK S a = 3) (hfi : (xh X).name = "<init>") (ho : "Smartcrate$Rule" = own) (hl0 : Cond.fieldLink own index "Smartcrate$Rule" "listSet" "I" ∈ Ts) (d : decode cc pc = .ok (.putfield index, 3)) (h : zW X nL k n (sI S 9 a v) (pc + 3) ls st) : zW X nL k n S pc ls (zi v :: zr (some a) :: st) := z_put (Cn := RX1) (T := TX1) (N := 7) (ci := 3) (S' := sI S 9 a v) (v := zi v) 6 tyX1 tyX1_ok nmX1 C hin rfl hk (zcell_3 _ _ _) (Nat.le_of_ble_eq_true rfl) (Nat.le_of_ble_eq_true rfl) rfl (by rw [zcell_3]; simp [up2, zv, mK, mI, mQ, mJ, mN, tI, tQ, tJ, tD, sI, sQ, sJ]) (fun b hb κ => zcell_sI _ _ _ _ _ hb κ) (Or.inr ⟨hfi, ho⟩) rfl rfl hl0 d h
theorem zg2_number {a index : Nat} (C : zC X own cc nL Ts) (hin : ∀ w ∈ wsX20, w ∈ Ts) (hk : mK S a = 4) (hl0 : Cond.fieldLink own index "Smartcrate$Tag" "number" "I" ∈ Ts) (d : decode cc pc = .ok (.getfield index, 3)) (h : zW X nL k n S (pc + 3) ls (zi (mI S 10 a) :: st)) : zW X nL k n S pc ls (zr (some a) :: st) := z_get (Cn := RX2) (T := TX2) (N := 6) (ci := 4) 0 C hin rfl hk (zcell_4 _ _ _) (Nat.le_of_ble_eq_true rfl) rfl hl0 d h
theorem zp2_number {a index : Nat} {v : Int32} (C : zC X own cc nL Ts) (hin : ∀ w ∈ wsX20, w ∈ Ts) (hk : mK S a = 4) (hfi : (xh X).name = "<init>") (ho : "Smartcrate$Tag" = own) (hl0 : Cond.fieldLink own index "Smartcrate$Tag" "number" "I" ∈ Ts) (d : decode cc pc = .ok (.putfield index, 3)) (h : zW X nL k n (sI S 10 a v) (pc + 3) ls st) : zW X nL k n S pc ls (zi v :: zr (some a) :: st) := z_put (Cn := RX2) (T := TX2) (N := 6) (ci := 4) (S' := sI S 10 a v) (v := zi v) 0 tyX2 tyX2_ok nmX2 C hin rfl hk (zcell_4 _ _ _) (Nat.le_of_ble_eq_true rfl) (Nat.le_of_ble_eq_true rfl) rfl (by rw [zcell_4]; simp [up2, zv, mK, mI, mQ, mJ, mN, tI, tQ, tJ, tD, sI, sQ, sJ]) (fun b hb κ => zcell_sI _ _ _ _ _ hb κ) (Or.inr ⟨hfi, ho⟩) rfl rfl hl0 d h
theorem zg2_name {a index : Nat} (C : zC X own cc nL Ts) (hin : ∀ w ∈ wsX20, w ∈ Ts) (hk : mK S a = 4) (hl0 : Cond.fieldLink own index "Smartcrate$Tag" "name" "[C" ∈ Ts) (d : decode cc pc = .ok (.getfield index, 3)) (h : zW X nL k n S (pc + 3) ls (zr (mQ S 11 a) :: st)) : zW X nL k n S pc ls (zr (some a) :: st) := z_get (Cn := RX2) (T := TX2) (N := 6) (ci := 4) 1 C hin rfl hk (zcell_4 _ _ _) (Nat.le_of_ble_eq_true rfl) rfl hl0 d h
theorem zp2_name {a index : Nat} {v : Option Nat} (C : zC X own cc nL Ts) (hin : ∀ w ∈ wsX20, w ∈ Ts) (hk : mK S a = 4) (hfi : (xh X).name = "<init>") (ho : "Smartcrate$Tag" = own) (hl0 : Cond.fieldLink own index "Smartcrate$Tag" "name" "[C" ∈ Ts) (d : decode cc pc = .ok (.putfield index, 3)) (h : zW X nL k n (sQ S 11 a v) (pc + 3) ls st) : zW X nL k n S pc ls (zr v :: zr (some a) :: st) := z_put (Cn := RX2) (T := TX2) (N := 6) (ci := 4) (S' := sQ S 11 a v) (v := zr v) 1 tyX2 tyX2_ok nmX2 C hin rfl hk (zcell_4 _ _ _) (Nat.le_of_ble_eq_true rfl) (Nat.le_of_ble_eq_true rfl) rfl (by rw [zcell_4]; simp [up2, zv, mK, mI, mQ, mJ, mN, tI, tQ, tJ, tD, sI, sQ, sJ]) (fun b hb κ => zcell_sQ _ _ _ _ _ hb κ) (Or.inr ⟨hfi, ho⟩) (by cases v <;> rfl) (by cases v <;> rfl) hl0 d h
theorem zg2_letters {a index : Nat} (C : zC X own cc nL Ts) (hin : ∀ w ∈ wsX20, w ∈ Ts) (hk : mK S a = 4) (hl0 : Cond.fieldLink own index "Smartcrate$Tag" "letters" "I" ∈ Ts) (d : decode cc pc = .ok (.getfield index, 3)) (h : zW X nL k n S (pc + 3) ls (zi (mI S 12 a) :: st)) : zW X nL k n S pc ls (zr (some a) :: st) := z_get (Cn := RX2) (T := TX2) (N := 6) (ci := 4) 2 C hin rfl hk (zcell_4 _ _ _) (Nat.le_of_ble_eq_true rfl) rfl hl0 d h
theorem zp2_letters {a index : Nat} {v : Int32} (C : zC X own cc nL Ts) (hin : ∀ w ∈ wsX20, w ∈ Ts) (hk : mK S a = 4) (hl0 : Cond.fieldLink own index "Smartcrate$Tag" "letters" "I" ∈ Ts) (d : decode cc pc = .ok (.putfield index, 3)) (h : zW X nL k n (sI S 12 a v) (pc + 3) ls st) : zW X nL k n S pc ls (zi v :: zr (some a) :: st) := z_put (Cn := RX2) (T := TX2) (N := 6) (ci := 4) (S' := sI S 12 a v) (v := zi v) 2 tyX2 tyX2_ok nmX2 C hin rfl hk (zcell_4 _ _ _) (Nat.le_of_ble_eq_true rfl) (Nat.le_of_ble_eq_true rfl) rfl (by rw [zcell_4]; simp [up2, zv, mK, mI, mQ, mJ, mN, tI, tQ, tJ, tD, sI, sQ, sJ]) (fun b hb κ => zcell_sI _ _ _ _ _ hb κ) (Or.inl rfl) rfl rfl hl0 d h
theorem zg2_becomes {a index : Nat} (C : zC X own cc nL Ts) (hin : ∀ w ∈ wsX20, w ∈ Ts) (hk : mK S a = 4) (hl0 : Cond.fieldLink own index "Smartcrate$Tag" "becomes" "LSmartcrate$Tag;" ∈ Ts) (d : decode cc pc = .ok (.getfield index, 3)) (h : zW X nL k n S (pc + 3) ls (zr (mQ S 13 a) :: st)) : zW X nL k n S pc ls (zr (some a) :: st) := z_get (Cn := RX2) (T := TX2) (N := 6) (ci := 4) 3 C hin rfl hk (zcell_4 _ _ _) (Nat.le_of_ble_eq_true rfl) rfl hl0 d h
theorem zp2_becomes {a index : Nat} {v : Option Nat} (C : zC X own cc nL Ts) (hin : ∀ w ∈ wsX20, w ∈ Ts) (hk : mK S a = 4) (hl0 : Cond.fieldLink own index "Smartcrate$Tag" "becomes" "LSmartcrate$Tag;" ∈ Ts) (d : decode cc pc = .ok (.putfield index, 3)) (h : zW X nL k n (sQ S 13 a v) (pc + 3) ls st) : zW X nL k n S pc ls (zr v :: zr (some a) :: st) := z_put (Cn := RX2) (T := TX2) (N := 6) (ci := 4) (S' := sQ S 13 a v) (v := zr v) 3 tyX2 tyX2_ok nmX2 C hin rfl hk (zcell_4 _ _ _) (Nat.le_of_ble_eq_true rfl) (Nat.le_of_ble_eq_true rfl) rfl (by rw [zcell_4]; simp [up2, zv, mK, mI, mQ, mJ, mN, tI, tQ, tJ, tD, sI, sQ, sJ]) (fun b hb κ => zcell_sQ _ _ _ _ _ hb κ) (Or.inl rfl) (by cases v <;> rfl) (by cases v <;> rfl) hl0 d h
theorem zg2_tagSetsAhead {a index : Nat} (C : zC X own cc nL Ts) (hin : ∀ w ∈ wsX20, w ∈ Ts) (hk : mK S a = 4) (hl0 : Cond.fieldLink own index "Smartcrate$Tag" "tagSetsAhead" "[I" ∈ Ts) (d : decode cc pc = .ok (.getfield index, 3)) (h : zW X nL k n S (pc + 3) ls (zr (mQ S 14 a) :: st)) : zW X nL k n S pc ls (zr (some a) :: st) := z_get (Cn := RX2) (T := TX2) (N := 6) (ci := 4) 4 C hin rfl hk (zcell_4 _ _ _) (Nat.le_of_ble_eq_true rfl) rfl hl0 d h
theorem zp2_tagSetsAhead {a index : Nat} {v : Option Nat} (C : zC X own cc nL Ts) (hin : ∀ w ∈ wsX20, w ∈ Ts) (hk : mK S a = 4) (hfi : (xh X).name = "<init>") (ho : "Smartcrate$Tag" = own) (hl0 : Cond.fieldLink own index "Smartcrate$Tag" "tagSetsAhead" "[I" ∈ Ts) (d : decode cc pc = .ok (.putfield index, 3)) (h : zW X nL k n (sQ S 14 a v) (pc + 3) ls st) : zW X nL k n S pc ls (zr v :: zr (some a) :: st) := z_put (Cn := RX2) (T := TX2) (N := 6) (ci := 4) (S' := sQ S 14 a v) (v := zr v) 4 tyX2 tyX2_ok nmX2 C hin rfl hk (zcell_4 _ _ _) (Nat.le_of_ble_eq_true rfl) (Nat.le_of_ble_eq_true rfl) rfl (by rw [zcell_4]; simp [up2, zv, mK, mI, mQ, mJ, mN, tI, tQ, tJ, tD, sI, sQ, sJ]) (fun b hb κ => zcell_sQ _ _ _ _ _ hb κ) (Or.inr ⟨hfi, ho⟩) (by cases v <;> rfl) (by cases v <;> rfl) hl0 d h
theorem zg2_goneEarlier {a index : Nat} (C : zC X own cc nL Ts) (hin : ∀ w ∈ wsX20, w ∈ Ts) (hk : mK S a = 4) (hl0 : Cond.fieldLink own index "Smartcrate$Tag" "goneEarlier" "LSmartcrate$Tag;" ∈ Ts) (d : decode cc pc = .ok (.getfield index, 3)) (h : zW X nL k n S (pc + 3) ls (zr (mQ S 15 a) :: st)) : zW X nL k n S pc ls (zr (some a) :: st) := z_get (Cn := RX2) (T := TX2) (N := 6) (ci := 4) 5 C hin rfl hk (zcell_4 _ _ _) (Nat.le_of_ble_eq_true rfl) rfl hl0 d h
theorem zp2_goneEarlier {a index : Nat} {v : Option Nat} (C : zC X own cc nL Ts) (hin : ∀ w ∈ wsX20, w ∈ Ts) (hk : mK S a = 4) (hl0 : Cond.fieldLink own index "Smartcrate$Tag" "goneEarlier" "LSmartcrate$Tag;" ∈ Ts) (d : decode cc pc = .ok (.putfield index, 3)) (h : zW X nL k n (sQ S 15 a v) (pc + 3) ls st) : zW X nL k n S pc ls (zr v :: zr (some a) :: st) := z_put (Cn := RX2) (T := TX2) (N := 6) (ci := 4) (S' := sQ S 15 a v) (v := zr v) 5 tyX2 tyX2_ok nmX2 C hin rfl hk (zcell_4 _ _ _) (Nat.le_of_ble_eq_true rfl) (Nat.le_of_ble_eq_true rfl) rfl (by rw [zcell_4]; simp [up2, zv, mK, mI, mQ, mJ, mN, tI, tQ, tJ, tD, sI, sQ, sJ]) (fun b hb κ => zcell_sQ _ _ _ _ _ hb κ) (Or.inl rfl) (by cases v <;> rfl) (by cases v <;> rfl) hl0 d h
theorem zg3_number {a index : Nat} (C : zC X own cc nL Ts) (hin : ∀ w ∈ wsX30, w ∈ Ts) (hk : mK S a = 5) (hl0 : Cond.fieldLink own index "Smartcrate$Track" "number" "I" ∈ Ts) (d : decode cc pc = .ok (.getfield index, 3)) (h : zW X nL k n S (pc + 3) ls (zi (mI S 16 a) :: st)) : zW X nL k n S pc ls (zr (some a) :: st) := z_get (Cn := RX3) (T := TX3) (N := 6) (ci := 5) 0 C hin rfl hk (zcell_5 _ _ _) (Nat.le_of_ble_eq_true rfl) rfl hl0 d h
theorem zp3_number {a index : Nat} {v : Int32} (C : zC X own cc nL Ts) (hin : ∀ w ∈ wsX30, w ∈ Ts) (hk : mK S a = 5) (hfi : (xh X).name = "<init>") (ho : "Smartcrate$Track" = own) (hl0 : Cond.fieldLink own index "Smartcrate$Track" "number" "I" ∈ Ts) (d : decode cc pc = .ok (.putfield index, 3)) (h : zW X nL k n (sI S 16 a v) (pc + 3) ls st) : zW X nL k n S pc ls (zi v :: zr (some a) :: st) := z_put (Cn := RX3) (T := TX3) (N := 6) (ci := 5) (S' := sI S 16 a v) (v := zi v) 0 tyX3 tyX3_ok nmX3 C hin rfl hk (zcell_5 _ _ _) (Nat.le_of_ble_eq_true rfl) (Nat.le_of_ble_eq_true rfl) rfl (by rw [zcell_5]; simp [up2, zv, mK, mI, mQ, mJ, mN, tI, tQ, tJ, tD, sI, sQ, sJ]) (fun b hb κ => zcell_sI _ _ _ _ _ hb κ) (Or.inr ⟨hfi, ho⟩) rfl rfl hl0 d h
theorem zg3_length {a index : Nat} (C : zC X own cc nL Ts) (hin : ∀ w ∈ wsX30, w ∈ Ts) (hk : mK S a = 5) (hl0 : Cond.fieldLink own index "Smartcrate$Track" "length" "I" ∈ Ts) (d : decode cc pc = .ok (.getfield index, 3)) (h : zW X nL k n S (pc + 3) ls (zi (mI S 17 a) :: st)) : zW X nL k n S pc ls (zr (some a) :: st) := z_get (Cn := RX3) (T := TX3) (N := 6) (ci := 5) 1 C hin rfl hk (zcell_5 _ _ _) (Nat.le_of_ble_eq_true rfl) rfl hl0 d h
theorem zp3_length {a index : Nat} {v : Int32} (C : zC X own cc nL Ts) (hin : ∀ w ∈ wsX30, w ∈ Ts) (hk : mK S a = 5) (hfi : (xh X).name = "<init>") (ho : "Smartcrate$Track" = own) (hl0 : Cond.fieldLink own index "Smartcrate$Track" "length" "I" ∈ Ts) (d : decode cc pc = .ok (.putfield index, 3)) (h : zW X nL k n (sI S 17 a v) (pc + 3) ls st) : zW X nL k n S pc ls (zi v :: zr (some a) :: st) := z_put (Cn := RX3) (T := TX3) (N := 6) (ci := 5) (S' := sI S 17 a v) (v := zi v) 1 tyX3 tyX3_ok nmX3 C hin rfl hk (zcell_5 _ _ _) (Nat.le_of_ble_eq_true rfl) (Nat.le_of_ble_eq_true rfl) rfl (by rw [zcell_5]; simp [up2, zv, mK, mI, mQ, mJ, mN, tI, tQ, tJ, tD, sI, sQ, sJ]) (fun b hb κ => zcell_sI _ _ _ _ _ hb κ) (Or.inr ⟨hfi, ho⟩) rfl rfl hl0 d h
theorem zg3_rating {a index : Nat} (C : zC X own cc nL Ts) (hin : ∀ w ∈ wsX30, w ∈ Ts) (hk : mK S a = 5) (hl0 : Cond.fieldLink own index "Smartcrate$Track" "rating" "I" ∈ Ts) (d : decode cc pc = .ok (.getfield index, 3)) (h : zW X nL k n S (pc + 3) ls (zi (mI S 18 a) :: st)) : zW X nL k n S pc ls (zr (some a) :: st) := z_get (Cn := RX3) (T := TX3) (N := 6) (ci := 5) 2 C hin rfl hk (zcell_5 _ _ _) (Nat.le_of_ble_eq_true rfl) rfl hl0 d h
theorem zp3_rating {a index : Nat} {v : Int32} (C : zC X own cc nL Ts) (hin : ∀ w ∈ wsX30, w ∈ Ts) (hk : mK S a = 5) (hl0 : Cond.fieldLink own index "Smartcrate$Track" "rating" "I" ∈ Ts) (d : decode cc pc = .ok (.putfield index, 3)) (h : zW X nL k n (sI S 18 a v) (pc + 3) ls st) : zW X nL k n S pc ls (zi v :: zr (some a) :: st) := z_put (Cn := RX3) (T := TX3) (N := 6) (ci := 5) (S' := sI S 18 a v) (v := zi v) 2 tyX3 tyX3_ok nmX3 C hin rfl hk (zcell_5 _ _ _) (Nat.le_of_ble_eq_true rfl) (Nat.le_of_ble_eq_true rfl) rfl (by rw [zcell_5]; simp [up2, zv, mK, mI, mQ, mJ, mN, tI, tQ, tJ, tD, sI, sQ, sJ]) (fun b hb κ => zcell_sI _ _ _ _ _ hb κ) (Or.inl rfl) rfl rfl hl0 d h
theorem zg3_plays {a index : Nat} (C : zC X own cc nL Ts) (hin : ∀ w ∈ wsX30, w ∈ Ts) (hk : mK S a = 5) (hl0 : Cond.fieldLink own index "Smartcrate$Track" "plays" "I" ∈ Ts) (d : decode cc pc = .ok (.getfield index, 3)) (h : zW X nL k n S (pc + 3) ls (zi (mI S 19 a) :: st)) : zW X nL k n S pc ls (zr (some a) :: st) := z_get (Cn := RX3) (T := TX3) (N := 6) (ci := 5) 3 C hin rfl hk (zcell_5 _ _ _) (Nat.le_of_ble_eq_true rfl) rfl hl0 d h
theorem zp3_plays {a index : Nat} {v : Int32} (C : zC X own cc nL Ts) (hin : ∀ w ∈ wsX30, w ∈ Ts) (hk : mK S a = 5) (hl0 : Cond.fieldLink own index "Smartcrate$Track" "plays" "I" ∈ Ts) (d : decode cc pc = .ok (.putfield index, 3)) (h : zW X nL k n (sI S 19 a v) (pc + 3) ls st) : zW X nL k n S pc ls (zi v :: zr (some a) :: st) := z_put (Cn := RX3) (T := TX3) (N := 6) (ci := 5) (S' := sI S 19 a v) (v := zi v) 3 tyX3 tyX3_ok nmX3 C hin rfl hk (zcell_5 _ _ _) (Nat.le_of_ble_eq_true rfl) (Nat.le_of_ble_eq_true rfl) rfl (by rw [zcell_5]; simp [up2, zv, mK, mI, mQ, mJ, mN, tI, tQ, tJ, tD, sI, sQ, sJ]) (fun b hb κ => zcell_sI _ _ _ _ _ hb κ) (Or.inl rfl) rfl rfl hl0 d h
theorem zg3_lastDay {a index : Nat} (C : zC X own cc nL Ts) (hin : ∀ w ∈ wsX30, w ∈ Ts) (hk : mK S a = 5) (hl0 : Cond.fieldLink own index "Smartcrate$Track" "lastDay" "I" ∈ Ts) (d : decode cc pc = .ok (.getfield index, 3)) (h : zW X nL k n S (pc + 3) ls (zi (mI S 20 a) :: st)) : zW X nL k n S pc ls (zr (some a) :: st) := z_get (Cn := RX3) (T := TX3) (N := 6) (ci := 5) 4 C hin rfl hk (zcell_5 _ _ _) (Nat.le_of_ble_eq_true rfl) rfl hl0 d h
theorem zp3_lastDay {a index : Nat} {v : Int32} (C : zC X own cc nL Ts) (hin : ∀ w ∈ wsX30, w ∈ Ts) (hk : mK S a = 5) (hl0 : Cond.fieldLink own index "Smartcrate$Track" "lastDay" "I" ∈ Ts) (d : decode cc pc = .ok (.putfield index, 3)) (h : zW X nL k n (sI S 20 a v) (pc + 3) ls st) : zW X nL k n S pc ls (zi v :: zr (some a) :: st) := z_put (Cn := RX3) (T := TX3) (N := 6) (ci := 5) (S' := sI S 20 a v) (v := zi v) 4 tyX3 tyX3_ok nmX3 C hin rfl hk (zcell_5 _ _ _) (Nat.le_of_ble_eq_true rfl) (Nat.le_of_ble_eq_true rfl) rfl (by rw [zcell_5]; simp [up2, zv, mK, mI, mQ, mJ, mN, tI, tQ, tJ, tD, sI, sQ, sJ]) (fun b hb κ => zcell_sI _ _ _ _ _ hb κ) (Or.inl rfl) rfl rfl hl0 d h
theorem zg3_tagSet {a index : Nat} (C : zC X own cc nL Ts) (hin : ∀ w ∈ wsX30, w ∈ Ts) (hk : mK S a = 5) (hl0 : Cond.fieldLink own index "Smartcrate$Track" "tagSet" "I" ∈ Ts) (d : decode cc pc = .ok (.getfield index, 3)) (h : zW X nL k n S (pc + 3) ls (zi (mI S 21 a) :: st)) : zW X nL k n S pc ls (zr (some a) :: st) := z_get (Cn := RX3) (T := TX3) (N := 6) (ci := 5) 5 C hin rfl hk (zcell_5 _ _ _) (Nat.le_of_ble_eq_true rfl) rfl hl0 d h
theorem zp3_tagSet {a index : Nat} {v : Int32} (C : zC X own cc nL Ts) (hin : ∀ w ∈ wsX30, w ∈ Ts) (hk : mK S a = 5) (hl0 : Cond.fieldLink own index "Smartcrate$Track" "tagSet" "I" ∈ Ts) (d : decode cc pc = .ok (.putfield index, 3)) (h : zW X nL k n (sI S 21 a v) (pc + 3) ls st) : zW X nL k n S pc ls (zi v :: zr (some a) :: st) := z_put (Cn := RX3) (T := TX3) (N := 6) (ci := 5) (S' := sI S 21 a v) (v := zi v) 5 tyX3 tyX3_ok nmX3 C hin rfl hk (zcell_5 _ _ _) (Nat.le_of_ble_eq_true rfl) (Nat.le_of_ble_eq_true rfl) rfl (by rw [zcell_5]; simp [up2, zv, mK, mI, mQ, mJ, mN, tI, tQ, tJ, tD, sI, sQ, sJ]) (fun b hb κ => zcell_sI _ _ _ _ _ hb κ) (Or.inl rfl) rfl rfl hl0 d h
theorem zg4_allTracks {a index : Nat} (C : zC X own cc nL Ts) (hin : ∀ w ∈ wsX40, w ∈ Ts) (hk : mK S a = 6) (hl0 : Cond.fieldLink own index "Smartcrate" "allTracks" "[LSmartcrate$Track;" ∈ Ts) (d : decode cc pc = .ok (.getfield index, 3)) (h : zW X nL k n S (pc + 3) ls (zr (mQ S 22 a) :: st)) : zW X nL k n S pc ls (zr (some a) :: st) := z_get (Cn := RX4) (T := TX4) (N := 17) (ci := 6) 0 C hin rfl hk (zcell_6 _ _ _) (Nat.le_of_ble_eq_true rfl) rfl hl0 d h
theorem zp4_allTracks {a index : Nat} {v : Option Nat} (C : zC X own cc nL Ts) (hin : ∀ w ∈ wsX40, w ∈ Ts) (hk : mK S a = 6) (hfi : (xh X).name = "<init>") (ho : "Smartcrate" = own) (hl0 : Cond.fieldLink own index "Smartcrate" "allTracks" "[LSmartcrate$Track;" ∈ Ts) (d : decode cc pc = .ok (.putfield index, 3)) (h : zW X nL k n (sQ S 22 a v) (pc + 3) ls st) : zW X nL k n S pc ls (zr v :: zr (some a) :: st) := z_put (Cn := RX4) (T := TX4) (N := 17) (ci := 6) (S' := sQ S 22 a v) (v := zr v) 0 tyX4 tyX4_ok nmX4 C hin rfl hk (zcell_6 _ _ _) (Nat.le_of_ble_eq_true rfl) (Nat.le_of_ble_eq_true rfl) rfl (by rw [zcell_6]; simp [up2, zv, mK, mI, mQ, mJ, mN, tI, tQ, tJ, tD, sI, sQ, sJ]) (fun b hb κ => zcell_sQ _ _ _ _ _ hb κ) (Or.inr ⟨hfi, ho⟩) (by cases v <;> rfl) (by cases v <;> rfl) hl0 d h
theorem zg4_allTags {a index : Nat} (C : zC X own cc nL Ts) (hin : ∀ w ∈ wsX40, w ∈ Ts) (hk : mK S a = 6) (hl0 : Cond.fieldLink own index "Smartcrate" "allTags" "[LSmartcrate$Tag;" ∈ Ts) (d : decode cc pc = .ok (.getfield index, 3)) (h : zW X nL k n S (pc + 3) ls (zr (mQ S 23 a) :: st)) : zW X nL k n S pc ls (zr (some a) :: st) := z_get (Cn := RX4) (T := TX4) (N := 17) (ci := 6) 1 C hin rfl hk (zcell_6 _ _ _) (Nat.le_of_ble_eq_true rfl) rfl hl0 d h
theorem zp4_allTags {a index : Nat} {v : Option Nat} (C : zC X own cc nL Ts) (hin : ∀ w ∈ wsX40, w ∈ Ts) (hk : mK S a = 6) (hfi : (xh X).name = "<init>") (ho : "Smartcrate" = own) (hl0 : Cond.fieldLink own index "Smartcrate" "allTags" "[LSmartcrate$Tag;" ∈ Ts) (d : decode cc pc = .ok (.putfield index, 3)) (h : zW X nL k n (sQ S 23 a v) (pc + 3) ls st) : zW X nL k n S pc ls (zr v :: zr (some a) :: st) := z_put (Cn := RX4) (T := TX4) (N := 17) (ci := 6) (S' := sQ S 23 a v) (v := zr v) 1 tyX4 tyX4_ok nmX4 C hin rfl hk (zcell_6 _ _ _) (Nat.le_of_ble_eq_true rfl) (Nat.le_of_ble_eq_true rfl) rfl (by rw [zcell_6]; simp [up2, zv, mK, mI, mQ, mJ, mN, tI, tQ, tJ, tD, sI, sQ, sJ]) (fun b hb κ => zcell_sQ _ _ _ _ _ hb κ) (Or.inr ⟨hfi, ho⟩) (by cases v <;> rfl) (by cases v <;> rfl) hl0 d h
theorem zg4_allRules {a index : Nat} (C : zC X own cc nL Ts) (hin : ∀ w ∈ wsX40, w ∈ Ts) (hk : mK S a = 6) (hl0 : Cond.fieldLink own index "Smartcrate" "allRules" "[LSmartcrate$Rule;" ∈ Ts) (d : decode cc pc = .ok (.getfield index, 3)) (h : zW X nL k n S (pc + 3) ls (zr (mQ S 24 a) :: st)) : zW X nL k n S pc ls (zr (some a) :: st) := z_get (Cn := RX4) (T := TX4) (N := 17) (ci := 6) 2 C hin rfl hk (zcell_6 _ _ _) (Nat.le_of_ble_eq_true rfl) rfl hl0 d h
theorem zp4_allRules {a index : Nat} {v : Option Nat} (C : zC X own cc nL Ts) (hin : ∀ w ∈ wsX40, w ∈ Ts) (hk : mK S a = 6) (hfi : (xh X).name = "<init>") (ho : "Smartcrate" = own) (hl0 : Cond.fieldLink own index "Smartcrate" "allRules" "[LSmartcrate$Rule;" ∈ Ts) (d : decode cc pc = .ok (.putfield index, 3)) (h : zW X nL k n (sQ S 24 a v) (pc + 3) ls st) : zW X nL k n S pc ls (zr v :: zr (some a) :: st) := z_put (Cn := RX4) (T := TX4) (N := 17) (ci := 6) (S' := sQ S 24 a v) (v := zr v) 2 tyX4 tyX4_ok nmX4 C hin rfl hk (zcell_6 _ _ _) (Nat.le_of_ble_eq_true rfl) (Nat.le_of_ble_eq_true rfl) rfl (by rw [zcell_6]; simp [up2, zv, mK, mI, mQ, mJ, mN, tI, tQ, tJ, tD, sI, sQ, sJ]) (fun b hb κ => zcell_sQ _ _ _ _ _ hb κ) (Or.inr ⟨hfi, ho⟩) (by cases v <;> rfl) (by cases v <;> rfl) hl0 d h
theorem zg4_allLists {a index : Nat} (C : zC X own cc nL Ts) (hin : ∀ w ∈ wsX40, w ∈ Ts) (hk : mK S a = 6) (hl0 : Cond.fieldLink own index "Smartcrate" "allLists" "[LSmartcrate$Crate;" ∈ Ts) (d : decode cc pc = .ok (.getfield index, 3)) (h : zW X nL k n S (pc + 3) ls (zr (mQ S 25 a) :: st)) : zW X nL k n S pc ls (zr (some a) :: st) := z_get (Cn := RX4) (T := TX4) (N := 17) (ci := 6) 3 C hin rfl hk (zcell_6 _ _ _) (Nat.le_of_ble_eq_true rfl) rfl hl0 d h
theorem zp4_allLists {a index : Nat} {v : Option Nat} (C : zC X own cc nL Ts) (hin : ∀ w ∈ wsX40, w ∈ Ts) (hk : mK S a = 6) (hfi : (xh X).name = "<init>") (ho : "Smartcrate" = own) (hl0 : Cond.fieldLink own index "Smartcrate" "allLists" "[LSmartcrate$Crate;" ∈ Ts) (d : decode cc pc = .ok (.putfield index, 3)) (h : zW X nL k n (sQ S 25 a v) (pc + 3) ls st) : zW X nL k n S pc ls (zr v :: zr (some a) :: st) := z_put (Cn := RX4) (T := TX4) (N := 17) (ci := 6) (S' := sQ S 25 a v) (v := zr v) 3 tyX4 tyX4_ok nmX4 C hin rfl hk (zcell_6 _ _ _) (Nat.le_of_ble_eq_true rfl) (Nat.le_of_ble_eq_true rfl) rfl (by rw [zcell_6]; simp [up2, zv, mK, mI, mQ, mJ, mN, tI, tQ, tJ, tD, sI, sQ, sJ]) (fun b hb κ => zcell_sQ _ _ _ _ _ hb κ) (Or.inr ⟨hfi, ho⟩) (by cases v <;> rfl) (by cases v <;> rfl) hl0 d h
theorem zg4_tracksAdded {a index : Nat} (C : zC X own cc nL Ts) (hin : ∀ w ∈ wsX40, w ∈ Ts) (hk : mK S a = 6) (hl0 : Cond.fieldLink own index "Smartcrate" "tracksAdded" "I" ∈ Ts) (d : decode cc pc = .ok (.getfield index, 3)) (h : zW X nL k n S (pc + 3) ls (zi (mI S 26 a) :: st)) : zW X nL k n S pc ls (zr (some a) :: st) := z_get (Cn := RX4) (T := TX4) (N := 17) (ci := 6) 4 C hin rfl hk (zcell_6 _ _ _) (Nat.le_of_ble_eq_true rfl) rfl hl0 d h
theorem zp4_tracksAdded {a index : Nat} {v : Int32} (C : zC X own cc nL Ts) (hin : ∀ w ∈ wsX40, w ∈ Ts) (hk : mK S a = 6) (hl0 : Cond.fieldLink own index "Smartcrate" "tracksAdded" "I" ∈ Ts) (d : decode cc pc = .ok (.putfield index, 3)) (h : zW X nL k n (sI S 26 a v) (pc + 3) ls st) : zW X nL k n S pc ls (zi v :: zr (some a) :: st) := z_put (Cn := RX4) (T := TX4) (N := 17) (ci := 6) (S' := sI S 26 a v) (v := zi v) 4 tyX4 tyX4_ok nmX4 C hin rfl hk (zcell_6 _ _ _) (Nat.le_of_ble_eq_true rfl) (Nat.le_of_ble_eq_true rfl) rfl (by rw [zcell_6]; simp [up2, zv, mK, mI, mQ, mJ, mN, tI, tQ, tJ, tD, sI, sQ, sJ]) (fun b hb κ => zcell_sI _ _ _ _ _ hb κ) (Or.inl rfl) rfl rfl hl0 d h
theorem zg4_tracksLeft {a index : Nat} (C : zC X own cc nL Ts) (hin : ∀ w ∈ wsX40, w ∈ Ts) (hk : mK S a = 6) (hl0 : Cond.fieldLink own index "Smartcrate" "tracksLeft" "I" ∈ Ts) (d : decode cc pc = .ok (.getfield index, 3)) (h : zW X nL k n S (pc + 3) ls (zi (mI S 27 a) :: st)) : zW X nL k n S pc ls (zr (some a) :: st) := z_get (Cn := RX4) (T := TX4) (N := 17) (ci := 6) 5 C hin rfl hk (zcell_6 _ _ _) (Nat.le_of_ble_eq_true rfl) rfl hl0 d h
theorem zp4_tracksLeft {a index : Nat} {v : Int32} (C : zC X own cc nL Ts) (hin : ∀ w ∈ wsX40, w ∈ Ts) (hk : mK S a = 6) (hl0 : Cond.fieldLink own index "Smartcrate" "tracksLeft" "I" ∈ Ts) (d : decode cc pc = .ok (.putfield index, 3)) (h : zW X nL k n (sI S 27 a v) (pc + 3) ls st) : zW X nL k n S pc ls (zi v :: zr (some a) :: st) := z_put (Cn := RX4) (T := TX4) (N := 17) (ci := 6) (S' := sI S 27 a v) (v := zi v) 5 tyX4 tyX4_ok nmX4 C hin rfl hk (zcell_6 _ _ _) (Nat.le_of_ble_eq_true rfl) (Nat.le_of_ble_eq_true rfl) rfl (by rw [zcell_6]; simp [up2, zv, mK, mI, mQ, mJ, mN, tI, tQ, tJ, tD, sI, sQ, sJ]) (fun b hb κ => zcell_sI _ _ _ _ _ hb κ) (Or.inl rfl) rfl rfl hl0 d h
theorem zg4_tagCount {a index : Nat} (C : zC X own cc nL Ts) (hin : ∀ w ∈ wsX40, w ∈ Ts) (hk : mK S a = 6) (hl0 : Cond.fieldLink own index "Smartcrate" "tagCount" "I" ∈ Ts) (d : decode cc pc = .ok (.getfield index, 3)) (h : zW X nL k n S (pc + 3) ls (zi (mI S 28 a) :: st)) : zW X nL k n S pc ls (zr (some a) :: st) := z_get (Cn := RX4) (T := TX4) (N := 17) (ci := 6) 6 C hin rfl hk (zcell_6 _ _ _) (Nat.le_of_ble_eq_true rfl) rfl hl0 d h
theorem zp4_tagCount {a index : Nat} {v : Int32} (C : zC X own cc nL Ts) (hin : ∀ w ∈ wsX40, w ∈ Ts) (hk : mK S a = 6) (hl0 : Cond.fieldLink own index "Smartcrate" "tagCount" "I" ∈ Ts) (d : decode cc pc = .ok (.putfield index, 3)) (h : zW X nL k n (sI S 28 a v) (pc + 3) ls st) : zW X nL k n S pc ls (zi v :: zr (some a) :: st) := z_put (Cn := RX4) (T := TX4) (N := 17) (ci := 6) (S' := sI S 28 a v) (v := zi v) 6 tyX4 tyX4_ok nmX4 C hin rfl hk (zcell_6 _ _ _) (Nat.le_of_ble_eq_true rfl) (Nat.le_of_ble_eq_true rfl) rfl (by rw [zcell_6]; simp [up2, zv, mK, mI, mQ, mJ, mN, tI, tQ, tJ, tD, sI, sQ, sJ]) (fun b hb κ => zcell_sI _ _ _ _ _ hb κ) (Or.inl rfl) rfl rfl hl0 d h
theorem zg4_ruleCount {a index : Nat} (C : zC X own cc nL Ts) (hin : ∀ w ∈ wsX40, w ∈ Ts) (hk : mK S a = 6) (hl0 : Cond.fieldLink own index "Smartcrate" "ruleCount" "I" ∈ Ts) (d : decode cc pc = .ok (.getfield index, 3)) (h : zW X nL k n S (pc + 3) ls (zi (mI S 29 a) :: st)) : zW X nL k n S pc ls (zr (some a) :: st) := z_get (Cn := RX4) (T := TX4) (N := 17) (ci := 6) 7 C hin rfl hk (zcell_6 _ _ _) (Nat.le_of_ble_eq_true rfl) rfl hl0 d h
theorem zp4_ruleCount {a index : Nat} {v : Int32} (C : zC X own cc nL Ts) (hin : ∀ w ∈ wsX40, w ∈ Ts) (hk : mK S a = 6) (hl0 : Cond.fieldLink own index "Smartcrate" "ruleCount" "I" ∈ Ts) (d : decode cc pc = .ok (.putfield index, 3)) (h : zW X nL k n (sI S 29 a v) (pc + 3) ls st) : zW X nL k n S pc ls (zi v :: zr (some a) :: st) := z_put (Cn := RX4) (T := TX4) (N := 17) (ci := 6) (S' := sI S 29 a v) (v := zi v) 7 tyX4 tyX4_ok nmX4 C hin rfl hk (zcell_6 _ _ _) (Nat.le_of_ble_eq_true rfl) (Nat.le_of_ble_eq_true rfl) rfl (by rw [zcell_6]; simp [up2, zv, mK, mI, mQ, mJ, mN, tI, tQ, tJ, tD, sI, sQ, sJ]) (fun b hb κ => zcell_sI _ _ _ _ _ hb κ) (Or.inl rfl) rfl rfl hl0 d h
theorem zg4_listCount {a index : Nat} (C : zC X own cc nL Ts) (hin : ∀ w ∈ wsX40, w ∈ Ts) (hk : mK S a = 6) (hl0 : Cond.fieldLink own index "Smartcrate" "listCount" "I" ∈ Ts) (d : decode cc pc = .ok (.getfield index, 3)) (h : zW X nL k n S (pc + 3) ls (zi (mI S 30 a) :: st)) : zW X nL k n S pc ls (zr (some a) :: st) := z_get (Cn := RX4) (T := TX4) (N := 17) (ci := 6) 8 C hin rfl hk (zcell_6 _ _ _) (Nat.le_of_ble_eq_true rfl) rfl hl0 d h
theorem zp4_listCount {a index : Nat} {v : Int32} (C : zC X own cc nL Ts) (hin : ∀ w ∈ wsX40, w ∈ Ts) (hk : mK S a = 6) (hl0 : Cond.fieldLink own index "Smartcrate" "listCount" "I" ∈ Ts) (d : decode cc pc = .ok (.putfield index, 3)) (h : zW X nL k n (sI S 30 a v) (pc + 3) ls st) : zW X nL k n S pc ls (zi v :: zr (some a) :: st) := z_put (Cn := RX4) (T := TX4) (N := 17) (ci := 6) (S' := sI S 30 a v) (v := zi v) 8 tyX4 tyX4_ok nmX4 C hin rfl hk (zcell_6 _ _ _) (Nat.le_of_ble_eq_true rfl) (Nat.le_of_ble_eq_true rfl) rfl (by rw [zcell_6]; simp [up2, zv, mK, mI, mQ, mJ, mN, tI, tQ, tJ, tD, sI, sQ, sJ]) (fun b hb κ => zcell_sI _ _ _ _ _ hb κ) (Or.inl rfl) rfl rfl hl0 d h
theorem zg4_kept {a index : Nat} (C : zC X own cc nL Ts) (hin : ∀ w ∈ wsX40, w ∈ Ts) (hk : mK S a = 6) (hl0 : Cond.fieldLink own index "Smartcrate" "kept" "[I" ∈ Ts) (d : decode cc pc = .ok (.getfield index, 3)) (h : zW X nL k n S (pc + 3) ls (zr (mQ S 31 a) :: st)) : zW X nL k n S pc ls (zr (some a) :: st) := z_get (Cn := RX4) (T := TX4) (N := 17) (ci := 6) 9 C hin rfl hk (zcell_6 _ _ _) (Nat.le_of_ble_eq_true rfl) rfl hl0 d h
theorem zp4_kept {a index : Nat} {v : Option Nat} (C : zC X own cc nL Ts) (hin : ∀ w ∈ wsX40, w ∈ Ts) (hk : mK S a = 6) (hfi : (xh X).name = "<init>") (ho : "Smartcrate" = own) (hl0 : Cond.fieldLink own index "Smartcrate" "kept" "[I" ∈ Ts) (d : decode cc pc = .ok (.putfield index, 3)) (h : zW X nL k n (sQ S 31 a v) (pc + 3) ls st) : zW X nL k n S pc ls (zr v :: zr (some a) :: st) := z_put (Cn := RX4) (T := TX4) (N := 17) (ci := 6) (S' := sQ S 31 a v) (v := zr v) 9 tyX4 tyX4_ok nmX4 C hin rfl hk (zcell_6 _ _ _) (Nat.le_of_ble_eq_true rfl) (Nat.le_of_ble_eq_true rfl) rfl (by rw [zcell_6]; simp [up2, zv, mK, mI, mQ, mJ, mN, tI, tQ, tJ, tD, sI, sQ, sJ]) (fun b hb κ => zcell_sQ _ _ _ _ _ hb κ) (Or.inr ⟨hfi, ho⟩) (by cases v <;> rfl) (by cases v <;> rfl) hl0 d h
theorem zg4_keptAhead {a index : Nat} (C : zC X own cc nL Ts) (hin : ∀ w ∈ wsX40, w ∈ Ts) (hk : mK S a = 6) (hl0 : Cond.fieldLink own index "Smartcrate" "keptAhead" "[I" ∈ Ts) (d : decode cc pc = .ok (.getfield index, 3)) (h : zW X nL k n S (pc + 3) ls (zr (mQ S 32 a) :: st)) : zW X nL k n S pc ls (zr (some a) :: st) := z_get (Cn := RX4) (T := TX4) (N := 17) (ci := 6) 10 C hin rfl hk (zcell_6 _ _ _) (Nat.le_of_ble_eq_true rfl) rfl hl0 d h
theorem zp4_keptAhead {a index : Nat} {v : Option Nat} (C : zC X own cc nL Ts) (hin : ∀ w ∈ wsX40, w ∈ Ts) (hk : mK S a = 6) (hfi : (xh X).name = "<init>") (ho : "Smartcrate" = own) (hl0 : Cond.fieldLink own index "Smartcrate" "keptAhead" "[I" ∈ Ts) (d : decode cc pc = .ok (.putfield index, 3)) (h : zW X nL k n (sQ S 32 a v) (pc + 3) ls st) : zW X nL k n S pc ls (zr v :: zr (some a) :: st) := z_put (Cn := RX4) (T := TX4) (N := 17) (ci := 6) (S' := sQ S 32 a v) (v := zr v) 10 tyX4 tyX4_ok nmX4 C hin rfl hk (zcell_6 _ _ _) (Nat.le_of_ble_eq_true rfl) (Nat.le_of_ble_eq_true rfl) rfl (by rw [zcell_6]; simp [up2, zv, mK, mI, mQ, mJ, mN, tI, tQ, tJ, tD, sI, sQ, sJ]) (fun b hb κ => zcell_sQ _ _ _ _ _ hb κ) (Or.inr ⟨hfi, ho⟩) (by cases v <;> rfl) (by cases v <;> rfl) hl0 d h
theorem zg4_byRounds {a index : Nat} (C : zC X own cc nL Ts) (hin : ∀ w ∈ wsX40, w ∈ Ts) (hk : mK S a = 6) (hl0 : Cond.fieldLink own index "Smartcrate" "byRounds" "[I" ∈ Ts) (d : decode cc pc = .ok (.getfield index, 3)) (h : zW X nL k n S (pc + 3) ls (zr (mQ S 33 a) :: st)) : zW X nL k n S pc ls (zr (some a) :: st) := z_get (Cn := RX4) (T := TX4) (N := 17) (ci := 6) 11 C hin rfl hk (zcell_6 _ _ _) (Nat.le_of_ble_eq_true rfl) rfl hl0 d h
theorem zp4_byRounds {a index : Nat} {v : Option Nat} (C : zC X own cc nL Ts) (hin : ∀ w ∈ wsX40, w ∈ Ts) (hk : mK S a = 6) (hfi : (xh X).name = "<init>") (ho : "Smartcrate" = own) (hl0 : Cond.fieldLink own index "Smartcrate" "byRounds" "[I" ∈ Ts) (d : decode cc pc = .ok (.putfield index, 3)) (h : zW X nL k n (sQ S 33 a v) (pc + 3) ls st) : zW X nL k n S pc ls (zr v :: zr (some a) :: st) := z_put (Cn := RX4) (T := TX4) (N := 17) (ci := 6) (S' := sQ S 33 a v) (v := zr v) 11 tyX4 tyX4_ok nmX4 C hin rfl hk (zcell_6 _ _ _) (Nat.le_of_ble_eq_true rfl) (Nat.le_of_ble_eq_true rfl) rfl (by rw [zcell_6]; simp [up2, zv, mK, mI, mQ, mJ, mN, tI, tQ, tJ, tD, sI, sQ, sJ]) (fun b hb κ => zcell_sQ _ _ _ _ _ hb κ) (Or.inr ⟨hfi, ho⟩) (by cases v <;> rfl) (by cases v <;> rfl) hl0 d h
theorem zg4_distanceTable {a index : Nat} (C : zC X own cc nL Ts) (hin : ∀ w ∈ wsX40, w ∈ Ts) (hk : mK S a = 6) (hl0 : Cond.fieldLink own index "Smartcrate" "distanceTable" "[[I" ∈ Ts) (d : decode cc pc = .ok (.getfield index, 3)) (h : zW X nL k n S (pc + 3) ls (zr (mQ S 34 a) :: st)) : zW X nL k n S pc ls (zr (some a) :: st) := z_get (Cn := RX4) (T := TX4) (N := 17) (ci := 6) 12 C hin rfl hk (zcell_6 _ _ _) (Nat.le_of_ble_eq_true rfl) rfl hl0 d h
theorem zp4_distanceTable {a index : Nat} {v : Option Nat} (C : zC X own cc nL Ts) (hin : ∀ w ∈ wsX40, w ∈ Ts) (hk : mK S a = 6) (hfi : (xh X).name = "<init>") (ho : "Smartcrate" = own) (hl0 : Cond.fieldLink own index "Smartcrate" "distanceTable" "[[I" ∈ Ts) (d : decode cc pc = .ok (.putfield index, 3)) (h : zW X nL k n (sQ S 34 a v) (pc + 3) ls st) : zW X nL k n S pc ls (zr v :: zr (some a) :: st) := z_put (Cn := RX4) (T := TX4) (N := 17) (ci := 6) (S' := sQ S 34 a v) (v := zr v) 12 tyX4 tyX4_ok nmX4 C hin rfl hk (zcell_6 _ _ _) (Nat.le_of_ble_eq_true rfl) (Nat.le_of_ble_eq_true rfl) rfl (by rw [zcell_6]; simp [up2, zv, mK, mI, mQ, mJ, mN, tI, tQ, tJ, tD, sI, sQ, sJ]) (fun b hb κ => zcell_sQ _ _ _ _ _ hb κ) (Or.inr ⟨hfi, ho⟩) (by cases v <;> rfl) (by cases v <;> rfl) hl0 d h
theorem zg4_goneLatest {a index : Nat} (C : zC X own cc nL Ts) (hin : ∀ w ∈ wsX40, w ∈ Ts) (hk : mK S a = 6) (hl0 : Cond.fieldLink own index "Smartcrate" "goneLatest" "LSmartcrate$Tag;" ∈ Ts) (d : decode cc pc = .ok (.getfield index, 3)) (h : zW X nL k n S (pc + 3) ls (zr (mQ S 35 a) :: st)) : zW X nL k n S pc ls (zr (some a) :: st) := z_get (Cn := RX4) (T := TX4) (N := 17) (ci := 6) 13 C hin rfl hk (zcell_6 _ _ _) (Nat.le_of_ble_eq_true rfl) rfl hl0 d h
theorem zp4_goneLatest {a index : Nat} {v : Option Nat} (C : zC X own cc nL Ts) (hin : ∀ w ∈ wsX40, w ∈ Ts) (hk : mK S a = 6) (hl0 : Cond.fieldLink own index "Smartcrate" "goneLatest" "LSmartcrate$Tag;" ∈ Ts) (d : decode cc pc = .ok (.putfield index, 3)) (h : zW X nL k n (sQ S 35 a v) (pc + 3) ls st) : zW X nL k n S pc ls (zr v :: zr (some a) :: st) := z_put (Cn := RX4) (T := TX4) (N := 17) (ci := 6) (S' := sQ S 35 a v) (v := zr v) 13 tyX4 tyX4_ok nmX4 C hin rfl hk (zcell_6 _ _ _) (Nat.le_of_ble_eq_true rfl) (Nat.le_of_ble_eq_true rfl) rfl (by rw [zcell_6]; simp [up2, zv, mK, mI, mQ, mJ, mN, tI, tQ, tJ, tD, sI, sQ, sJ]) (fun b hb κ => zcell_sQ _ _ _ _ _ hb κ) (Or.inl rfl) (by cases v <;> rfl) (by cases v <;> rfl) hl0 d h
theorem zg4_day {a index : Nat} (C : zC X own cc nL Ts) (hin : ∀ w ∈ wsX40, w ∈ Ts) (hk : mK S a = 6) (hl0 : Cond.fieldLink own index "Smartcrate" "day" "I" ∈ Ts) (d : decode cc pc = .ok (.getfield index, 3)) (h : zW X nL k n S (pc + 3) ls (zi (mI S 36 a) :: st)) : zW X nL k n S pc ls (zr (some a) :: st) := z_get (Cn := RX4) (T := TX4) (N := 17) (ci := 6) 14 C hin rfl hk (zcell_6 _ _ _) (Nat.le_of_ble_eq_true rfl) rfl hl0 d h
theorem zp4_day {a index : Nat} {v : Int32} (C : zC X own cc nL Ts) (hin : ∀ w ∈ wsX40, w ∈ Ts) (hk : mK S a = 6) (hl0 : Cond.fieldLink own index "Smartcrate" "day" "I" ∈ Ts) (d : decode cc pc = .ok (.putfield index, 3)) (h : zW X nL k n (sI S 36 a v) (pc + 3) ls st) : zW X nL k n S pc ls (zi v :: zr (some a) :: st) := z_put (Cn := RX4) (T := TX4) (N := 17) (ci := 6) (S' := sI S 36 a v) (v := zi v) 14 tyX4 tyX4_ok nmX4 C hin rfl hk (zcell_6 _ _ _) (Nat.le_of_ble_eq_true rfl) (Nat.le_of_ble_eq_true rfl) rfl (by rw [zcell_6]; simp [up2, zv, mK, mI, mQ, mJ, mN, tI, tQ, tJ, tD, sI, sQ, sJ]) (fun b hb κ => zcell_sI _ _ _ _ _ hb κ) (Or.inl rfl) rfl rfl hl0 d h
theorem zg4_secondsPlayed {a index : Nat} (C : zC X own cc nL Ts) (hin : ∀ w ∈ wsX40, w ∈ Ts) (hk : mK S a = 6) (hl0 : Cond.fieldLink own index "Smartcrate" "secondsPlayed" "J" ∈ Ts) (d : decode cc pc = .ok (.getfield index, 3)) (h : zW X nL k n S (pc + 3) ls (zj (mJ S 37 a) :: st)) : zW X nL k n S pc ls (zr (some a) :: st) := z_get (Cn := RX4) (T := TX4) (N := 17) (ci := 6) 15 C hin rfl hk (zcell_6 _ _ _) (Nat.le_of_ble_eq_true rfl) rfl hl0 d h
theorem zp4_secondsPlayed {a index : Nat} {v : Int64} (C : zC X own cc nL Ts) (hin : ∀ w ∈ wsX40, w ∈ Ts) (hk : mK S a = 6) (hl0 : Cond.fieldLink own index "Smartcrate" "secondsPlayed" "J" ∈ Ts) (d : decode cc pc = .ok (.putfield index, 3)) (h : zW X nL k n (sJ S 37 a v) (pc + 3) ls st) : zW X nL k n S pc ls (zj v :: zr (some a) :: st) := z_put (Cn := RX4) (T := TX4) (N := 17) (ci := 6) (S' := sJ S 37 a v) (v := zj v) 15 tyX4 tyX4_ok nmX4 C hin rfl hk (zcell_6 _ _ _) (Nat.le_of_ble_eq_true rfl) (Nat.le_of_ble_eq_true rfl) rfl (by rw [zcell_6]; simp [up2, zv, mK, mI, mQ, mJ, mN, tI, tQ, tJ, tD, sI, sQ, sJ]) (fun b hb κ => zcell_sJ _ _ _ _ _ hb κ) (Or.inl rfl) rfl rfl hl0 d h
theorem zg4_listsTouched {a index : Nat} (C : zC X own cc nL Ts) (hin : ∀ w ∈ wsX40, w ∈ Ts) (hk : mK S a = 6) (hl0 : Cond.fieldLink own index "Smartcrate" "listsTouched" "I" ∈ Ts) (d : decode cc pc = .ok (.getfield index, 3)) (h : zW X nL k n S (pc + 3) ls (zi (mI S 38 a) :: st)) : zW X nL k n S pc ls (zr (some a) :: st) := z_get (Cn := RX4) (T := TX4) (N := 17) (ci := 6) 16 C hin rfl hk (zcell_6 _ _ _) (Nat.le_of_ble_eq_true rfl) rfl hl0 d h
theorem zp4_listsTouched {a index : Nat} {v : Int32} (C : zC X own cc nL Ts) (hin : ∀ w ∈ wsX40, w ∈ Ts) (hk : mK S a = 6) (hl0 : Cond.fieldLink own index "Smartcrate" "listsTouched" "I" ∈ Ts) (d : decode cc pc = .ok (.putfield index, 3)) (h : zW X nL k n (sI S 38 a v) (pc + 3) ls st) : zW X nL k n S pc ls (zi v :: zr (some a) :: st) := z_put (Cn := RX4) (T := TX4) (N := 17) (ci := 6) (S' := sI S 38 a v) (v := zi v) 16 tyX4 tyX4_ok nmX4 C hin rfl hk (zcell_6 _ _ _) (Nat.le_of_ble_eq_true rfl) (Nat.le_of_ble_eq_true rfl) rfl (by rw [zcell_6]; simp [up2, zv, mK, mI, mQ, mJ, mN, tI, tQ, tJ, tD, sI, sQ, sJ]) (fun b hb κ => zcell_sI _ _ _ _ _ hb κ) (Or.inl rfl) rfl rfl hl0 d h
theorem z_iaload {a : Nat} {i : Int32} (C : zC X own cc nL Ts) (hk : mK S a = 10) (hi : vp_in i (mN S a)) (d : decode cc pc = .ok (.iaload, 1)) (h : zW X nL k n S (pc + 1) ls (zi (tI S a i.toNatClampNeg) :: st)) : zW X nL k n S pc ls (zi i :: zr (some a) :: st) := fun H locs la hH hS hl => va_iald C.1 C.2.1 C.K (va_one (hH a _ (hk ▸ zcell_10 _ _ _)).1) 0 0 rfl rfl hi d (h H locs la hH hS hl)
theorem z_caload {a : Nat} {i : Int32} (C : zC X own cc nL Ts) (hk : mK S a = 11) (hi : vp_in i (mN S a)) (d : decode cc pc = .ok (.caload, 1)) (h : zW X nL k n S (pc + 1) ls (zi (tI S a i.toNatClampNeg) :: st)) : zW X nL k n S pc ls (zi i :: zr (some a) :: st) := fun H locs la hH hS hl => va_cald C.1 C.2.1 C.K (va_one (hH a _ (hk ▸ zcell_11 _ _ _)).1) 0 1 rfl rfl hi d (h H locs la hH hS hl)
theorem z_aaload_0 {a : Nat} {i : Int32} (C : zC X own cc nL Ts) (hk : mK S a = 15) (hi : vp_in i (mN S a)) (d : decode cc pc = .ok (.aaload, 1)) (h : zW X nL k n S (pc + 1) ls (zr (tQ S a i.toNatClampNeg) :: st)) : zW X nL k n S pc ls (zi i :: zr (some a) :: st) := fun H locs la hH hS hl => va_aldq C.1 C.2.1 C.K (va_one (hH a _ (hk ▸ zcell_15 _ _ _)).1) 0 5 rfl rfl hi d (h H locs la hH hS hl)
theorem z_aaload_1 {a : Nat} {i : Int32} (C : zC X own cc nL Ts) (hk : mK S a = 16) (hi : vp_in i (mN S a)) (d : decode cc pc = .ok (.aaload, 1)) (h : zW X nL k n S (pc + 1) ls (zr (tQ S a i.toNatClampNeg) :: st)) : zW X nL k n S pc ls (zi i :: zr (some a) :: st) := fun H locs la hH hS hl => va_aldq C.1 C.2.1 C.K (va_one (hH a _ (hk ▸ zcell_16 _ _ _)).1) 0 6 rfl rfl hi d (h H locs la hH hS hl)
theorem z_aaload_2 {a : Nat} {i : Int32} (C : zC X own cc nL Ts) (hk : mK S a = 17) (hi : vp_in i (mN S a)) (d : decode cc pc = .ok (.aaload, 1)) (h : zW X nL k n S (pc + 1) ls (zr (tQ S a i.toNatClampNeg) :: st)) : zW X nL k n S pc ls (zi i :: zr (some a) :: st) := fun H locs la hH hS hl => va_aldq C.1 C.2.1 C.K (va_one (hH a _ (hk ▸ zcell_17 _ _ _)).1) 0 7 rfl rfl hi d (h H locs la hH hS hl)
theorem z_aaload_3 {a : Nat} {i : Int32} (C : zC X own cc nL Ts) (hk : mK S a = 18) (hi : vp_in i (mN S a)) (d : decode cc pc = .ok (.aaload, 1)) (h : zW X nL k n S (pc + 1) ls (zr (tQ S a i.toNatClampNeg) :: st)) : zW X nL k n S pc ls (zi i :: zr (some a) :: st) := fun H locs la hH hS hl => va_aldq C.1 C.2.1 C.K (va_one (hH a _ (hk ▸ zcell_18 _ _ _)).1) 0 8 rfl rfl hi d (h H locs la hH hS hl)
theorem z_aaload_4 {a : Nat} {i : Int32} (C : zC X own cc nL Ts) (hk : mK S a = 19) (hi : vp_in i (mN S a)) (d : decode cc pc = .ok (.aaload, 1)) (h : zW X nL k n S (pc + 1) ls (zr (tQ S a i.toNatClampNeg) :: st)) : zW X nL k n S pc ls (zi i :: zr (some a) :: st) := fun H locs la hH hS hl => by
  have hlt : i.toNatClampNeg < mN S a := Nat.not_le.mp fun q => hi (Or.inr q)
  have hat := (hH a _ (hk ▸ zcell_19 _ _ _)).1
  exact W.aald (v := va_rf (tQ S a i.toNatClampNeg)) (ty := .array .int) C.1 C.2.1 hat ((C.K.2 9 _ rfl).1 (mN S a) (fun j => va_rf (tQ S a j))) rfl (fun q => by cases q) (by show ¬ (i < 0 ∨ (arrV _ _ _).slots.size ≤ _); rw [arrV_size]; exact hi) (by show (arrV _ _ _).slots[_]? = _; rw [arrV_read _ _ hlt]) rfl rfl d (h H locs la hH hS hl)
theorem z_alen_i {a : Nat} {v : Int32} (C : zC X own cc nL Ts) (hk : mK S a = 10) (hv : Int32.ofNat (mN S a) = v) (d : decode cc pc = .ok (.arraylength, 1)) (h : zW X nL k n S (pc + 1) ls (zi v :: st)) : zW X nL k n S pc ls (zr (some a) :: st) := fun H locs la hH hS hl => va_alen C.1 C.2.1 C.K (va_one (hH a _ (hk ▸ zcell_10 _ _ _)).1) 0 0 rfl rfl hv d (h H locs la hH hS hl)
theorem z_iastore {a : Nat} {i : Int32} {x : Int32} (C : zC X own cc nL Ts) (hk : mK S a = 10) (hi : vp_in i (mN S a)) (d : decode cc pc = .ok (.iastore, 1)) (h : zW X nL k n (eI S a i.toNatClampNeg x) (pc + 1) ls st) : zW X nL k n S pc ls (zi x :: zi i :: zr (some a) :: st) := fun H locs la hH hS hl => by
  obtain ⟨hat, hAa⟩ := hH a _ (hk ▸ zcell_10 _ _ _)
  refine W.iast C.1 C.2.1 hat ((C.K.2 0 _ rfl).1 (mN S a) (fun j => .int (tI S a j))) (fun q => by cases q) (by show ¬ (i < 0 ∨ (arrV _ _ _).slots.size ≤ _); rw [arrV_size]; exact hi) rfl rfl d fun H1 e z oq => ?_
  refine h H1 _ la (hH.write (a := a) oq (fun b hb => zcell_eI _ _ _ _ _ hb _) (fun e9 h9 => ?_)) (hS.put z oq hAa) hl
  have h9 : zcell (xG X) (eI S a i.toNatClampNeg x) a (mK S a) = some e9 := h9
  rw [hk, zcell_10] at h9
  cases h9
  refine ⟨?_, hAa⟩
  show H1[a]? = some (vp_cell _ _)
  rw [e]
  rw [vp_cell_i, vp_cell_i, arrV_store]
  congr 2
  funext q
  by_cases hq : q = i.toNatClampNeg
  · subst hq
    simp [updV, up2, mK, mI, mQ, mJ, mN, tI, tQ, tJ, tD, eI, eQ, eJ, eD]
    try rfl
  · simp [updV, up2, mK, mI, mQ, mJ, mN, tI, tQ, tJ, tD, eI, eQ, eJ, eD, hq]
theorem z_castore {a : Nat} {i : Int32} {x : Int32} (C : zC X own cc nL Ts) (hk : mK S a = 11) (hi : vp_in i (mN S a)) (d : decode cc pc = .ok (.castore, 1)) (h : zW X nL k n (eI S a i.toNatClampNeg (vp_nar .char x)) (pc + 1) ls st) : zW X nL k n S pc ls (zi x :: zi i :: zr (some a) :: st) := fun H locs la hH hS hl => by
  obtain ⟨hat, hAa⟩ := hH a _ (hk ▸ zcell_11 _ _ _)
  refine W.cast C.1 C.2.1 hat ((C.K.2 1 _ rfl).1 (mN S a) (fun j => .int (tI S a j))) (fun q => by cases q) (by show ¬ (i < 0 ∨ (arrV _ _ _).slots.size ≤ _); rw [arrV_size]; exact hi) rfl rfl d fun H1 e z oq => ?_
  refine h H1 _ la (hH.write (a := a) oq (fun b hb => zcell_eI _ _ _ _ _ hb _) (fun e9 h9 => ?_)) (hS.put z oq hAa) hl
  have h9 : zcell (xG X) (eI S a i.toNatClampNeg (vp_nar .char x)) a (mK S a) = some e9 := h9
  rw [hk, zcell_11] at h9
  cases h9
  refine ⟨?_, hAa⟩
  show H1[a]? = some (vp_cell _ _)
  rw [e]
  rw [vp_cell_i, vp_cell_i, arrV_store]
  congr 2
  funext q
  by_cases hq : q = i.toNatClampNeg
  · subst hq
    simp [updV, up2, mK, mI, mQ, mJ, mN, tI, tQ, tJ, tD, eI, eQ, eJ, eD, vp_nar]
    try rfl
  · simp [updV, up2, mK, mI, mQ, mJ, mN, tI, tQ, tJ, tD, eI, eQ, eJ, eD, hq]
theorem z_aastore_0 {a : Nat} {i : Int32} {r : Option Nat} (C : zC X own cc nL Ts) (hk : mK S a = 15) (hr : ∀ v : Nat, r = some v → mK S v = 2) (hi : vp_in i (mN S a)) (d : decode cc pc = .ok (.aastore, 1)) (h : zW X nL k n (eQ S a i.toNatClampNeg r) (pc + 1) ls st) : zW X nL k n S pc ls (zr r :: zi i :: zr (some a) :: st) := fun H locs la hH hS hl => by
  obtain ⟨hat, hAa⟩ := hH a _ (hk ▸ zcell_15 _ _ _)
  have hlt : i.toNatClampNeg < mN S a := Nat.not_le.mp fun q => hi (Or.inr q)
  have h0 : ¬ i < 0 := fun q => hi (Or.inl q)
  have fin : ∀ H1 : Heap, H1[a]? = some ((vp_cell ((xG X).2.2 5) (mN S a, .inr (.inr (.inr (.inr (tQ S a)))))).setSlot i.toNatClampNeg (va_rf r)) → H1.size = H.size → (∀ q : Nat, q ≠ a → H1[q]? = H[q]?) → zH (xG X) (xA X) (eQ S a i.toNatClampNeg r) H1 := by
    intro H1 e z oq
    refine hH.write (a := a) oq (fun b hb => zcell_eQ _ _ _ _ _ hb _) (fun e9 h9 => ?_)
    have h9 : zcell (xG X) (eQ S a i.toNatClampNeg r) a (mK S a) = some e9 := h9
    rw [hk, zcell_15] at h9
    cases h9
    refine ⟨?_, hAa⟩
    show H1[a]? = some (vp_cell _ _)
    rw [e]
    rw [vp_cell_q, vp_cell_q, arrV_store]
    congr 2
    funext q
    by_cases hq : q = i.toNatClampNeg
    · subst hq
      simp [updV, up2, mK, mI, mQ, mJ, mN, tI, tQ, tJ, tD, eI, eQ, eJ, eD]
    · simp [updV, up2, mK, mI, mQ, mJ, mN, tI, tQ, tJ, tD, eI, eQ, eJ, eD, hq]
  cases r with
  | none =>
    refine va_WaastN (C := RX0) C.1 C.2.1 hat ((C.K.2 5 _ rfl).1 (mN S a) (fun j => va_rf (tQ S a j))) (fun h => by cases h) (by show ¬ (i < 0 ∨ (arrV _ _ _).slots.size ≤ _); rw [arrV_size]; exact hi) rfl rfl d fun H1 e z oq => ?_
    exact h H1 _ la (fin H1 e z oq) (hS.put z oq hAa) hl
  | some v =>
    have hz : zcell (xG X) S v (mK S v) = zcell (xG X) S v 2 := by rw [hr v rfl]
    obtain ⟨r', hr', cellV, g1, g2, g3, -⟩ := (hH v _ (hz.trans (zcell_2 _ _ _))).1
    have hcls := (C.K.1 2 (RX0, TX0, 3) rfl).2
    obtain ⟨kA, comp, k1, k2, k3, -⟩ := (C.K.2 5 _ rfl).2
    have hcomp : comp = (zDD (xG X)).1 2 := Option.some.inj (k3.symm.trans hcls.1)
    subst hcomp
    obtain ⟨kC, hkC, -⟩ := hcls.2
    refine W.aast C.1 C.2.1 hat (fun q h => by cases h) (fun h => by cases h) k1 k2 rfl hkC ⟨h0, by show _ < (arrV _ _ _).slots.size; rw [arrV_size]; exact hlt⟩ g1 (fun q h => by rw [g3] at h; cases h) (by rw [g2]; exact hkC) (by rw [g2]; exact va_assign hcls) rfl rfl d fun H1 e z oq => ?_
    exact h H1 _ la (fin H1 e z oq) (hS.put z oq hAa) hl
theorem z_aastore_1 {a : Nat} {i : Int32} {r : Option Nat} (C : zC X own cc nL Ts) (hk : mK S a = 16) (hr : ∀ v : Nat, r = some v → mK S v = 3) (hi : vp_in i (mN S a)) (d : decode cc pc = .ok (.aastore, 1)) (h : zW X nL k n (eQ S a i.toNatClampNeg r) (pc + 1) ls st) : zW X nL k n S pc ls (zr r :: zi i :: zr (some a) :: st) := fun H locs la hH hS hl => by
  obtain ⟨hat, hAa⟩ := hH a _ (hk ▸ zcell_16 _ _ _)
  have hlt : i.toNatClampNeg < mN S a := Nat.not_le.mp fun q => hi (Or.inr q)
  have h0 : ¬ i < 0 := fun q => hi (Or.inl q)
  have fin : ∀ H1 : Heap, H1[a]? = some ((vp_cell ((xG X).2.2 6) (mN S a, .inr (.inr (.inr (.inr (tQ S a)))))).setSlot i.toNatClampNeg (va_rf r)) → H1.size = H.size → (∀ q : Nat, q ≠ a → H1[q]? = H[q]?) → zH (xG X) (xA X) (eQ S a i.toNatClampNeg r) H1 := by
    intro H1 e z oq
    refine hH.write (a := a) oq (fun b hb => zcell_eQ _ _ _ _ _ hb _) (fun e9 h9 => ?_)
    have h9 : zcell (xG X) (eQ S a i.toNatClampNeg r) a (mK S a) = some e9 := h9
    rw [hk, zcell_16] at h9
    cases h9
    refine ⟨?_, hAa⟩
    show H1[a]? = some (vp_cell _ _)
    rw [e]
    rw [vp_cell_q, vp_cell_q, arrV_store]
    congr 2
    funext q
    by_cases hq : q = i.toNatClampNeg
    · subst hq
      simp [updV, up2, mK, mI, mQ, mJ, mN, tI, tQ, tJ, tD, eI, eQ, eJ, eD]
    · simp [updV, up2, mK, mI, mQ, mJ, mN, tI, tQ, tJ, tD, eI, eQ, eJ, eD, hq]
  cases r with
  | none =>
    refine va_WaastN (C := RX1) C.1 C.2.1 hat ((C.K.2 6 _ rfl).1 (mN S a) (fun j => va_rf (tQ S a j))) (fun h => by cases h) (by show ¬ (i < 0 ∨ (arrV _ _ _).slots.size ≤ _); rw [arrV_size]; exact hi) rfl rfl d fun H1 e z oq => ?_
    exact h H1 _ la (fin H1 e z oq) (hS.put z oq hAa) hl
  | some v =>
    have hz : zcell (xG X) S v (mK S v) = zcell (xG X) S v 3 := by rw [hr v rfl]
    obtain ⟨r', hr', cellV, g1, g2, g3, -⟩ := (hH v _ (hz.trans (zcell_3 _ _ _))).1
    have hcls := (C.K.1 3 (RX1, TX1, 7) rfl).2
    obtain ⟨kA, comp, k1, k2, k3, -⟩ := (C.K.2 6 _ rfl).2
    have hcomp : comp = (zDD (xG X)).1 3 := Option.some.inj (k3.symm.trans hcls.1)
    subst hcomp
    obtain ⟨kC, hkC, -⟩ := hcls.2
    refine W.aast C.1 C.2.1 hat (fun q h => by cases h) (fun h => by cases h) k1 k2 rfl hkC ⟨h0, by show _ < (arrV _ _ _).slots.size; rw [arrV_size]; exact hlt⟩ g1 (fun q h => by rw [g3] at h; cases h) (by rw [g2]; exact hkC) (by rw [g2]; exact va_assign hcls) rfl rfl d fun H1 e z oq => ?_
    exact h H1 _ la (fin H1 e z oq) (hS.put z oq hAa) hl
theorem z_aastore_2 {a : Nat} {i : Int32} {r : Option Nat} (C : zC X own cc nL Ts) (hk : mK S a = 17) (hr : ∀ v : Nat, r = some v → mK S v = 4) (hi : vp_in i (mN S a)) (d : decode cc pc = .ok (.aastore, 1)) (h : zW X nL k n (eQ S a i.toNatClampNeg r) (pc + 1) ls st) : zW X nL k n S pc ls (zr r :: zi i :: zr (some a) :: st) := fun H locs la hH hS hl => by
  obtain ⟨hat, hAa⟩ := hH a _ (hk ▸ zcell_17 _ _ _)
  have hlt : i.toNatClampNeg < mN S a := Nat.not_le.mp fun q => hi (Or.inr q)
  have h0 : ¬ i < 0 := fun q => hi (Or.inl q)
  have fin : ∀ H1 : Heap, H1[a]? = some ((vp_cell ((xG X).2.2 7) (mN S a, .inr (.inr (.inr (.inr (tQ S a)))))).setSlot i.toNatClampNeg (va_rf r)) → H1.size = H.size → (∀ q : Nat, q ≠ a → H1[q]? = H[q]?) → zH (xG X) (xA X) (eQ S a i.toNatClampNeg r) H1 := by
    intro H1 e z oq
    refine hH.write (a := a) oq (fun b hb => zcell_eQ _ _ _ _ _ hb _) (fun e9 h9 => ?_)
    have h9 : zcell (xG X) (eQ S a i.toNatClampNeg r) a (mK S a) = some e9 := h9
    rw [hk, zcell_17] at h9
    cases h9
    refine ⟨?_, hAa⟩
    show H1[a]? = some (vp_cell _ _)
    rw [e]
    rw [vp_cell_q, vp_cell_q, arrV_store]
    congr 2
    funext q
    by_cases hq : q = i.toNatClampNeg
    · subst hq
      simp [updV, up2, mK, mI, mQ, mJ, mN, tI, tQ, tJ, tD, eI, eQ, eJ, eD]
    · simp [updV, up2, mK, mI, mQ, mJ, mN, tI, tQ, tJ, tD, eI, eQ, eJ, eD, hq]
  cases r with
  | none =>
    refine va_WaastN (C := RX2) C.1 C.2.1 hat ((C.K.2 7 _ rfl).1 (mN S a) (fun j => va_rf (tQ S a j))) (fun h => by cases h) (by show ¬ (i < 0 ∨ (arrV _ _ _).slots.size ≤ _); rw [arrV_size]; exact hi) rfl rfl d fun H1 e z oq => ?_
    exact h H1 _ la (fin H1 e z oq) (hS.put z oq hAa) hl
  | some v =>
    have hz : zcell (xG X) S v (mK S v) = zcell (xG X) S v 4 := by rw [hr v rfl]
    obtain ⟨r', hr', cellV, g1, g2, g3, -⟩ := (hH v _ (hz.trans (zcell_4 _ _ _))).1
    have hcls := (C.K.1 4 (RX2, TX2, 6) rfl).2
    obtain ⟨kA, comp, k1, k2, k3, -⟩ := (C.K.2 7 _ rfl).2
    have hcomp : comp = (zDD (xG X)).1 4 := Option.some.inj (k3.symm.trans hcls.1)
    subst hcomp
    obtain ⟨kC, hkC, -⟩ := hcls.2
    refine W.aast C.1 C.2.1 hat (fun q h => by cases h) (fun h => by cases h) k1 k2 rfl hkC ⟨h0, by show _ < (arrV _ _ _).slots.size; rw [arrV_size]; exact hlt⟩ g1 (fun q h => by rw [g3] at h; cases h) (by rw [g2]; exact hkC) (by rw [g2]; exact va_assign hcls) rfl rfl d fun H1 e z oq => ?_
    exact h H1 _ la (fin H1 e z oq) (hS.put z oq hAa) hl
theorem z_aastore_3 {a : Nat} {i : Int32} {r : Option Nat} (C : zC X own cc nL Ts) (hk : mK S a = 18) (hr : ∀ v : Nat, r = some v → mK S v = 5) (hi : vp_in i (mN S a)) (d : decode cc pc = .ok (.aastore, 1)) (h : zW X nL k n (eQ S a i.toNatClampNeg r) (pc + 1) ls st) : zW X nL k n S pc ls (zr r :: zi i :: zr (some a) :: st) := fun H locs la hH hS hl => by
  obtain ⟨hat, hAa⟩ := hH a _ (hk ▸ zcell_18 _ _ _)
  have hlt : i.toNatClampNeg < mN S a := Nat.not_le.mp fun q => hi (Or.inr q)
  have h0 : ¬ i < 0 := fun q => hi (Or.inl q)
  have fin : ∀ H1 : Heap, H1[a]? = some ((vp_cell ((xG X).2.2 8) (mN S a, .inr (.inr (.inr (.inr (tQ S a)))))).setSlot i.toNatClampNeg (va_rf r)) → H1.size = H.size → (∀ q : Nat, q ≠ a → H1[q]? = H[q]?) → zH (xG X) (xA X) (eQ S a i.toNatClampNeg r) H1 := by
    intro H1 e z oq
    refine hH.write (a := a) oq (fun b hb => zcell_eQ _ _ _ _ _ hb _) (fun e9 h9 => ?_)
    have h9 : zcell (xG X) (eQ S a i.toNatClampNeg r) a (mK S a) = some e9 := h9
    rw [hk, zcell_18] at h9
    cases h9
    refine ⟨?_, hAa⟩
    show H1[a]? = some (vp_cell _ _)
    rw [e]
    rw [vp_cell_q, vp_cell_q, arrV_store]
    congr 2
    funext q
    by_cases hq : q = i.toNatClampNeg
    · subst hq
      simp [updV, up2, mK, mI, mQ, mJ, mN, tI, tQ, tJ, tD, eI, eQ, eJ, eD]
    · simp [updV, up2, mK, mI, mQ, mJ, mN, tI, tQ, tJ, tD, eI, eQ, eJ, eD, hq]
  cases r with
  | none =>
    refine va_WaastN (C := RX3) C.1 C.2.1 hat ((C.K.2 8 _ rfl).1 (mN S a) (fun j => va_rf (tQ S a j))) (fun h => by cases h) (by show ¬ (i < 0 ∨ (arrV _ _ _).slots.size ≤ _); rw [arrV_size]; exact hi) rfl rfl d fun H1 e z oq => ?_
    exact h H1 _ la (fin H1 e z oq) (hS.put z oq hAa) hl
  | some v =>
    have hz : zcell (xG X) S v (mK S v) = zcell (xG X) S v 5 := by rw [hr v rfl]
    obtain ⟨r', hr', cellV, g1, g2, g3, -⟩ := (hH v _ (hz.trans (zcell_5 _ _ _))).1
    have hcls := (C.K.1 5 (RX3, TX3, 6) rfl).2
    obtain ⟨kA, comp, k1, k2, k3, -⟩ := (C.K.2 8 _ rfl).2
    have hcomp : comp = (zDD (xG X)).1 5 := Option.some.inj (k3.symm.trans hcls.1)
    subst hcomp
    obtain ⟨kC, hkC, -⟩ := hcls.2
    refine W.aast C.1 C.2.1 hat (fun q h => by cases h) (fun h => by cases h) k1 k2 rfl hkC ⟨h0, by show _ < (arrV _ _ _).slots.size; rw [arrV_size]; exact hlt⟩ g1 (fun q h => by rw [g3] at h; cases h) (by rw [g2]; exact hkC) (by rw [g2]; exact va_assign hcls) rfl rfl d fun H1 e z oq => ?_
    exact h H1 _ la (fin H1 e z oq) (hS.put z oq hAa) hl
theorem z_new0 {index : Nat} (C : zC X own cc nL Ts) (hin : ∀ w ∈ wsX00, w ∈ Ts) (h1 : Cond.classLink own index RX0 ∈ Ts) (h2 : Cond.instantiable RX0 3 ∈ Ts) (h3 : Cond.initialized RX0 ∈ Ts) (hc : k + 1 ≤ (xR X).cells) (hs : n + 3 ≤ (xR X).slots) (d : decode cc pc = .ok (.new index, 3)) (h : ∀ a : Nat, zkn (mK S a) = false → zW X nL (k + 1) (n + 3) (nO S a 2) (pc + 3) ls (zr (some a) :: st)) : zW X nL k n S pc ls st := fun H locs la hH hS hl => by
  have hKn := C.K.1 2 (RX0, TX0, 3) rfl
  refine W.newcK C.1 C.2.1 C.o (C.t _ h1) (C.t _ h2) (C.t _ h3) rfl d hc hs hKn.2.1 rfl fun H1 kC hkC e1 z1 o1 => ?_
  have h0 : zcell (xG X) S H.size (mK S H.size) = none := by
    cases hz : zcell (xG X) S H.size (mK S H.size) with
    | none => rfl
    | some e => exact absurd (hH _ _ hz).1.lt (Nat.lt_irrefl _)
  have hK0 : ∀ b : Nat, b ≠ H.size → mK (nO S H.size 2) b = mK S b := fun b hb => up1_ne hb
  refine h H.size (z_kn h0) H1 locs la (hH.make o1 (fun b hb => by rw [hK0 b hb]; exact zcell_nO _ _ _ _ hb _) (fun e he => ?_)) ⟨Nat.le_trans hS.1 (by omega), fun q q1 q2 => (o1 q (Nat.lt_of_lt_of_le q1 hS.1)).trans (hS.2.1 q q1 q2), hS.2.2⟩ hl
  rw [show mK (nO S H.size 2) H.size = 2 from up1_self, zcell_2] at he
  cases he
  refine ⟨⟨_, rfl, (u_born tyX0 C.t hin hKn hkC e1 tyX0_ok).to (fun j hj => ?_)⟩, C.A _ hS.1⟩
  rcases (show j = 0 ∨ j = 1 ∨ j = 2 by omega) with rfl | rfl | rfl <;> simp [vp_V, upz, mI, mQ, mJ, nO, tyX0, defaultValue, va_rf]
theorem z_new1 {index : Nat} (C : zC X own cc nL Ts) (hin : ∀ w ∈ wsX10, w ∈ Ts) (h1 : Cond.classLink own index RX1 ∈ Ts) (h2 : Cond.instantiable RX1 7 ∈ Ts) (h3 : Cond.initialized RX1 ∈ Ts) (hc : k + 1 ≤ (xR X).cells) (hs : n + 7 ≤ (xR X).slots) (d : decode cc pc = .ok (.new index, 3)) (h : ∀ a : Nat, zkn (mK S a) = false → zW X nL (k + 1) (n + 7) (nO S a 3) (pc + 3) ls (zr (some a) :: st)) : zW X nL k n S pc ls st := fun H locs la hH hS hl => by
  have hKn := C.K.1 3 (RX1, TX1, 7) rfl
  refine W.newcK C.1 C.2.1 C.o (C.t _ h1) (C.t _ h2) (C.t _ h3) rfl d hc hs hKn.2.1 rfl fun H1 kC hkC e1 z1 o1 => ?_
  have h0 : zcell (xG X) S H.size (mK S H.size) = none := by
    cases hz : zcell (xG X) S H.size (mK S H.size) with
    | none => rfl
    | some e => exact absurd (hH _ _ hz).1.lt (Nat.lt_irrefl _)
  have hK0 : ∀ b : Nat, b ≠ H.size → mK (nO S H.size 3) b = mK S b := fun b hb => up1_ne hb
  refine h H.size (z_kn h0) H1 locs la (hH.make o1 (fun b hb => by rw [hK0 b hb]; exact zcell_nO _ _ _ _ hb _) (fun e he => ?_)) ⟨Nat.le_trans hS.1 (by omega), fun q q1 q2 => (o1 q (Nat.lt_of_lt_of_le q1 hS.1)).trans (hS.2.1 q q1 q2), hS.2.2⟩ hl
  rw [show mK (nO S H.size 3) H.size = 3 from up1_self, zcell_3] at he
  cases he
  refine ⟨⟨_, rfl, (u_born tyX1 C.t hin hKn hkC e1 tyX1_ok).to (fun j hj => ?_)⟩, C.A _ hS.1⟩
  rcases (show j = 0 ∨ j = 1 ∨ j = 2 ∨ j = 3 ∨ j = 4 ∨ j = 5 ∨ j = 6 by omega) with rfl | rfl | rfl | rfl | rfl | rfl | rfl <;> simp [vp_V, upz, mI, mQ, mJ, nO, tyX1, defaultValue, va_rf]
theorem z_new2 {index : Nat} (C : zC X own cc nL Ts) (hin : ∀ w ∈ wsX20, w ∈ Ts) (h1 : Cond.classLink own index RX2 ∈ Ts) (h2 : Cond.instantiable RX2 6 ∈ Ts) (h3 : Cond.initialized RX2 ∈ Ts) (hc : k + 1 ≤ (xR X).cells) (hs : n + 6 ≤ (xR X).slots) (d : decode cc pc = .ok (.new index, 3)) (h : ∀ a : Nat, zkn (mK S a) = false → zW X nL (k + 1) (n + 6) (nO S a 4) (pc + 3) ls (zr (some a) :: st)) : zW X nL k n S pc ls st := fun H locs la hH hS hl => by
  have hKn := C.K.1 4 (RX2, TX2, 6) rfl
  refine W.newcK C.1 C.2.1 C.o (C.t _ h1) (C.t _ h2) (C.t _ h3) rfl d hc hs hKn.2.1 rfl fun H1 kC hkC e1 z1 o1 => ?_
  have h0 : zcell (xG X) S H.size (mK S H.size) = none := by
    cases hz : zcell (xG X) S H.size (mK S H.size) with
    | none => rfl
    | some e => exact absurd (hH _ _ hz).1.lt (Nat.lt_irrefl _)
  have hK0 : ∀ b : Nat, b ≠ H.size → mK (nO S H.size 4) b = mK S b := fun b hb => up1_ne hb
  refine h H.size (z_kn h0) H1 locs la (hH.make o1 (fun b hb => by rw [hK0 b hb]; exact zcell_nO _ _ _ _ hb _) (fun e he => ?_)) ⟨Nat.le_trans hS.1 (by omega), fun q q1 q2 => (o1 q (Nat.lt_of_lt_of_le q1 hS.1)).trans (hS.2.1 q q1 q2), hS.2.2⟩ hl
  rw [show mK (nO S H.size 4) H.size = 4 from up1_self, zcell_4] at he
  cases he
  refine ⟨⟨_, rfl, (u_born tyX2 C.t hin hKn hkC e1 tyX2_ok).to (fun j hj => ?_)⟩, C.A _ hS.1⟩
  rcases (show j = 0 ∨ j = 1 ∨ j = 2 ∨ j = 3 ∨ j = 4 ∨ j = 5 by omega) with rfl | rfl | rfl | rfl | rfl | rfl <;> simp [vp_V, upz, mI, mQ, mJ, nO, tyX2, defaultValue, va_rf]
theorem z_new3 {index : Nat} (C : zC X own cc nL Ts) (hin : ∀ w ∈ wsX30, w ∈ Ts) (h1 : Cond.classLink own index RX3 ∈ Ts) (h2 : Cond.instantiable RX3 6 ∈ Ts) (h3 : Cond.initialized RX3 ∈ Ts) (hc : k + 1 ≤ (xR X).cells) (hs : n + 6 ≤ (xR X).slots) (d : decode cc pc = .ok (.new index, 3)) (h : ∀ a : Nat, zkn (mK S a) = false → zW X nL (k + 1) (n + 6) (nO S a 5) (pc + 3) ls (zr (some a) :: st)) : zW X nL k n S pc ls st := fun H locs la hH hS hl => by
  have hKn := C.K.1 5 (RX3, TX3, 6) rfl
  refine W.newcK C.1 C.2.1 C.o (C.t _ h1) (C.t _ h2) (C.t _ h3) rfl d hc hs hKn.2.1 rfl fun H1 kC hkC e1 z1 o1 => ?_
  have h0 : zcell (xG X) S H.size (mK S H.size) = none := by
    cases hz : zcell (xG X) S H.size (mK S H.size) with
    | none => rfl
    | some e => exact absurd (hH _ _ hz).1.lt (Nat.lt_irrefl _)
  have hK0 : ∀ b : Nat, b ≠ H.size → mK (nO S H.size 5) b = mK S b := fun b hb => up1_ne hb
  refine h H.size (z_kn h0) H1 locs la (hH.make o1 (fun b hb => by rw [hK0 b hb]; exact zcell_nO _ _ _ _ hb _) (fun e he => ?_)) ⟨Nat.le_trans hS.1 (by omega), fun q q1 q2 => (o1 q (Nat.lt_of_lt_of_le q1 hS.1)).trans (hS.2.1 q q1 q2), hS.2.2⟩ hl
  rw [show mK (nO S H.size 5) H.size = 5 from up1_self, zcell_5] at he
  cases he
  refine ⟨⟨_, rfl, (u_born tyX3 C.t hin hKn hkC e1 tyX3_ok).to (fun j hj => ?_)⟩, C.A _ hS.1⟩
  rcases (show j = 0 ∨ j = 1 ∨ j = 2 ∨ j = 3 ∨ j = 4 ∨ j = 5 by omega) with rfl | rfl | rfl | rfl | rfl | rfl <;> simp [vp_V, upz, mI, mQ, mJ, nO, tyX3, defaultValue, va_rf]
theorem z_new4 {index : Nat} (C : zC X own cc nL Ts) (hin : ∀ w ∈ wsX40, w ∈ Ts) (h1 : Cond.classLink own index RX4 ∈ Ts) (h2 : Cond.instantiable RX4 17 ∈ Ts) (h3 : Cond.initialized RX4 ∈ Ts) (hc : k + 1 ≤ (xR X).cells) (hs : n + 17 ≤ (xR X).slots) (d : decode cc pc = .ok (.new index, 3)) (h : ∀ a : Nat, zkn (mK S a) = false → zW X nL (k + 1) (n + 17) (nO S a 6) (pc + 3) ls (zr (some a) :: st)) : zW X nL k n S pc ls st := fun H locs la hH hS hl => by
  have hKn := C.K.1 6 (RX4, TX4, 17) rfl
  refine W.newcK C.1 C.2.1 C.o (C.t _ h1) (C.t _ h2) (C.t _ h3) rfl d hc hs hKn.2.1 rfl fun H1 kC hkC e1 z1 o1 => ?_
  have h0 : zcell (xG X) S H.size (mK S H.size) = none := by
    cases hz : zcell (xG X) S H.size (mK S H.size) with
    | none => rfl
    | some e => exact absurd (hH _ _ hz).1.lt (Nat.lt_irrefl _)
  have hK0 : ∀ b : Nat, b ≠ H.size → mK (nO S H.size 6) b = mK S b := fun b hb => up1_ne hb
  refine h H.size (z_kn h0) H1 locs la (hH.make o1 (fun b hb => by rw [hK0 b hb]; exact zcell_nO _ _ _ _ hb _) (fun e he => ?_)) ⟨Nat.le_trans hS.1 (by omega), fun q q1 q2 => (o1 q (Nat.lt_of_lt_of_le q1 hS.1)).trans (hS.2.1 q q1 q2), hS.2.2⟩ hl
  rw [show mK (nO S H.size 6) H.size = 6 from up1_self, zcell_6] at he
  cases he
  refine ⟨⟨_, rfl, (u_born tyX4 C.t hin hKn hkC e1 tyX4_ok).to (fun j hj => ?_)⟩, C.A _ hS.1⟩
  rcases (show j = 0 ∨ j = 1 ∨ j = 2 ∨ j = 3 ∨ j = 4 ∨ j = 5 ∨ j = 6 ∨ j = 7 ∨ j = 8 ∨ j = 9 ∨ j = 10 ∨ j = 11 ∨ j = 12 ∨ j = 13 ∨ j = 14 ∨ j = 15 ∨ j = 16 by omega) with rfl | rfl | rfl | rfl | rfl | rfl | rfl | rfl | rfl | rfl | rfl | rfl | rfl | rfl | rfl | rfl | rfl <;> simp [vp_V, upz, mI, mQ, mJ, nO, tyX4, defaultValue, va_rf]
theorem z_newarr_int {c0 : Int32} (N : Nat) (C : zC X own cc nL Ts) (h1 : Cond.arrayClass .int ∈ Ts) (hn : ¬ c0 < 0) (hN : c0.toNatClampNeg = N) (hb : N * componentBytes .int ≤ 536870912) (hc : k + 1 ≤ (xR X).cells) (hs : n + N ≤ (xR X).slots) (d : decode cc pc = .ok (.newarray .int, 2)) (h : ∀ a : Nat, zkn (mK S a) = false → zW X nL (k + 1) (n + N) (nA S a 10 N) (pc + 2) ls (zr (some a) :: st)) : zW X nL k n S pc ls (zi c0 :: st) := fun H locs la hH hS hl => by
  refine va_newaK (atype := .int) C.1 C.2.1 (C.t _ h1) rfl d rfl hn hN hb hc hs rfl fun H1 cA e1 z1 o1 hAr hNm => ?_
  have h0 : zcell (xG X) S H.size (mK S H.size) = none := by
    cases hz : zcell (xG X) S H.size (mK S H.size) with
    | none => rfl
    | some e => exact absurd (hH _ _ hz).1.lt (Nat.lt_irrefl _)
  have hcA : cA = (xG X).2.2 0 := Option.some.inj (hNm.symm.trans (show (xs X).vm.findClass _ = some _ from (C.K.2 0 _ rfl).2))
  subst hcA
  refine h H.size (z_kn h0) H1 locs la (hH.make o1 (fun b hb => by rw [show mK (nA S H.size 10 N) b = mK S b from up1_ne hb]; exact zcell_nA _ _ _ _ _ hb _) (fun e he => ?_)) ⟨Nat.le_trans hS.1 (by omega), fun q q1 q2 => (o1 q (Nat.lt_of_lt_of_le q1 hS.1)).trans (hS.2.1 q q1 q2), hS.2.2⟩ hl
  rw [show mK (nA S H.size 10 N) H.size = 10 from up1_self, zcell_10] at he
  cases he
  refine ⟨?_, C.A _ hS.1⟩
  show H1[H.size]? = some (vp_cell _ _)
  rw [e1]
  simp only [mN, tI, tQ, tJ, tD, nA, up1_self]
  rfl
theorem z_newarr_char {c0 : Int32} (N : Nat) (C : zC X own cc nL Ts) (h1 : Cond.arrayClass .char ∈ Ts) (hn : ¬ c0 < 0) (hN : c0.toNatClampNeg = N) (hb : N * componentBytes .char ≤ 536870912) (hc : k + 1 ≤ (xR X).cells) (hs : n + N ≤ (xR X).slots) (d : decode cc pc = .ok (.newarray .char, 2)) (h : ∀ a : Nat, zkn (mK S a) = false → zW X nL (k + 1) (n + N) (nA S a 11 N) (pc + 2) ls (zr (some a) :: st)) : zW X nL k n S pc ls (zi c0 :: st) := fun H locs la hH hS hl => by
  refine va_newaK (atype := .char) C.1 C.2.1 (C.t _ h1) rfl d rfl hn hN hb hc hs rfl fun H1 cA e1 z1 o1 hAr hNm => ?_
  have h0 : zcell (xG X) S H.size (mK S H.size) = none := by
    cases hz : zcell (xG X) S H.size (mK S H.size) with
    | none => rfl
    | some e => exact absurd (hH _ _ hz).1.lt (Nat.lt_irrefl _)
  have hcA : cA = (xG X).2.2 1 := Option.some.inj (hNm.symm.trans (show (xs X).vm.findClass _ = some _ from (C.K.2 1 _ rfl).2))
  subst hcA
  refine h H.size (z_kn h0) H1 locs la (hH.make o1 (fun b hb => by rw [show mK (nA S H.size 11 N) b = mK S b from up1_ne hb]; exact zcell_nA _ _ _ _ _ hb _) (fun e he => ?_)) ⟨Nat.le_trans hS.1 (by omega), fun q q1 q2 => (o1 q (Nat.lt_of_lt_of_le q1 hS.1)).trans (hS.2.1 q q1 q2), hS.2.2⟩ hl
  rw [show mK (nA S H.size 11 N) H.size = 11 from up1_self, zcell_11] at he
  cases he
  refine ⟨?_, C.A _ hS.1⟩
  show H1[H.size]? = some (vp_cell _ _)
  rw [e1]
  simp only [mN, tI, tQ, tJ, tD, nA, up1_self]
  rfl
theorem z_anew_0 {index : Nat} {c0 : Int32} (N : Nat) (C : zC X own cc nL Ts) (h1 : Cond.classLink own index RX0 ∈ Ts) (hn : ¬ c0 < 0) (hN : c0.toNatClampNeg = N) (hb : N * 4 ≤ 536870912) (hc : k + 1 ≤ (xR X).cells) (hs : n + N ≤ (xR X).slots) (d : decode cc pc = .ok (.anewarray index, 3)) (h : ∀ a : Nat, zkn (mK S a) = false → zW X nL (k + 1) (n + N) (nA S a 15 N) (pc + 3) ls (zr (some a) :: st)) : zW X nL k n S pc ls (zi c0 :: st) := fun H locs la hH hS hl => by
  subst hN
  have hover : va_AO RX0 (xs X) := C.E.2.2.2.1.1
  refine W.anew C.1 C.2.1 C.o (C.t _ h1) (va_AO.use hover) rfl d rfl hn hb hc hs fun cA kA comp f1 f2 f3 f4 => ?_
  generalize hH1 : H.push ({ cls := cA, slots := Array.replicate c0.toNatClampNeg .null, vm := .none } : Cell) = H1
  have z1 : H1.size = H.size + 1 := by rw [← hH1, Array.size_push]
  have e1 : H1[H.size]? = some (arrV cA c0.toNatClampNeg (fun _ => .null)) := by rw [← hH1, Array.getElem?_push_size, ← arrV_new]
  have o1 : ∀ q : Nat, q < H.size → H1[q]? = H[q]? := fun q hq => by rw [← hH1, Array.getElem?_push, if_neg (Nat.ne_of_lt hq)]
  have h0 : zcell (xG X) S H.size (mK S H.size) = none := by
    cases hz : zcell (xG X) S H.size (mK S H.size) with
    | none => rfl
    | some e => exact absurd (hH _ _ hz).1.lt (Nat.lt_irrefl _)
  obtain ⟨-, kB, compB, g1, g2, g3, g4⟩ := C.K.2 5 _ rfl
  have hcA : cA = (xG X).2.2 5 := Option.some.inj (f1.symm.trans g4)
  subst hcA
  refine h H.size (z_kn h0) H1 locs la (hH.make o1 (fun b hb => by rw [show mK (nA S H.size 15 c0.toNatClampNeg) b = mK S b from up1_ne hb]; exact zcell_nA _ _ _ _ _ hb _) (fun e he => ?_)) ⟨Nat.le_trans hS.1 (by omega), fun q q1 q2 => (o1 q (Nat.lt_of_lt_of_le q1 hS.1)).trans (hS.2.1 q q1 q2), hS.2.2⟩ hl
  rw [show mK (nA S H.size 15 c0.toNatClampNeg) H.size = 15 from up1_self, zcell_15] at he
  cases he
  refine ⟨?_, C.A _ hS.1⟩
  show H1[H.size]? = some (vp_cell _ _)
  rw [e1, vp_cell_q]
  simp only [mN, tI, tQ, tJ, tD, nA, up1_self]
  rfl
theorem z_anew_1 {index : Nat} {c0 : Int32} (N : Nat) (C : zC X own cc nL Ts) (h1 : Cond.classLink own index RX1 ∈ Ts) (hn : ¬ c0 < 0) (hN : c0.toNatClampNeg = N) (hb : N * 4 ≤ 536870912) (hc : k + 1 ≤ (xR X).cells) (hs : n + N ≤ (xR X).slots) (d : decode cc pc = .ok (.anewarray index, 3)) (h : ∀ a : Nat, zkn (mK S a) = false → zW X nL (k + 1) (n + N) (nA S a 16 N) (pc + 3) ls (zr (some a) :: st)) : zW X nL k n S pc ls (zi c0 :: st) := fun H locs la hH hS hl => by
  subst hN
  have hover : va_AO RX1 (xs X) := C.E.2.2.2.1.2.1
  refine W.anew C.1 C.2.1 C.o (C.t _ h1) (va_AO.use hover) rfl d rfl hn hb hc hs fun cA kA comp f1 f2 f3 f4 => ?_
  generalize hH1 : H.push ({ cls := cA, slots := Array.replicate c0.toNatClampNeg .null, vm := .none } : Cell) = H1
  have z1 : H1.size = H.size + 1 := by rw [← hH1, Array.size_push]
  have e1 : H1[H.size]? = some (arrV cA c0.toNatClampNeg (fun _ => .null)) := by rw [← hH1, Array.getElem?_push_size, ← arrV_new]
  have o1 : ∀ q : Nat, q < H.size → H1[q]? = H[q]? := fun q hq => by rw [← hH1, Array.getElem?_push, if_neg (Nat.ne_of_lt hq)]
  have h0 : zcell (xG X) S H.size (mK S H.size) = none := by
    cases hz : zcell (xG X) S H.size (mK S H.size) with
    | none => rfl
    | some e => exact absurd (hH _ _ hz).1.lt (Nat.lt_irrefl _)
  obtain ⟨-, kB, compB, g1, g2, g3, g4⟩ := C.K.2 6 _ rfl
  have hcA : cA = (xG X).2.2 6 := Option.some.inj (f1.symm.trans g4)
  subst hcA
  refine h H.size (z_kn h0) H1 locs la (hH.make o1 (fun b hb => by rw [show mK (nA S H.size 16 c0.toNatClampNeg) b = mK S b from up1_ne hb]; exact zcell_nA _ _ _ _ _ hb _) (fun e he => ?_)) ⟨Nat.le_trans hS.1 (by omega), fun q q1 q2 => (o1 q (Nat.lt_of_lt_of_le q1 hS.1)).trans (hS.2.1 q q1 q2), hS.2.2⟩ hl
  rw [show mK (nA S H.size 16 c0.toNatClampNeg) H.size = 16 from up1_self, zcell_16] at he
  cases he
  refine ⟨?_, C.A _ hS.1⟩
  show H1[H.size]? = some (vp_cell _ _)
  rw [e1, vp_cell_q]
  simp only [mN, tI, tQ, tJ, tD, nA, up1_self]
  rfl
theorem z_anew_2 {index : Nat} {c0 : Int32} (N : Nat) (C : zC X own cc nL Ts) (h1 : Cond.classLink own index RX2 ∈ Ts) (hn : ¬ c0 < 0) (hN : c0.toNatClampNeg = N) (hb : N * 4 ≤ 536870912) (hc : k + 1 ≤ (xR X).cells) (hs : n + N ≤ (xR X).slots) (d : decode cc pc = .ok (.anewarray index, 3)) (h : ∀ a : Nat, zkn (mK S a) = false → zW X nL (k + 1) (n + N) (nA S a 17 N) (pc + 3) ls (zr (some a) :: st)) : zW X nL k n S pc ls (zi c0 :: st) := fun H locs la hH hS hl => by
  subst hN
  have hover : va_AO RX2 (xs X) := C.E.2.2.2.1.2.2.1
  refine W.anew C.1 C.2.1 C.o (C.t _ h1) (va_AO.use hover) rfl d rfl hn hb hc hs fun cA kA comp f1 f2 f3 f4 => ?_
  generalize hH1 : H.push ({ cls := cA, slots := Array.replicate c0.toNatClampNeg .null, vm := .none } : Cell) = H1
  have z1 : H1.size = H.size + 1 := by rw [← hH1, Array.size_push]
  have e1 : H1[H.size]? = some (arrV cA c0.toNatClampNeg (fun _ => .null)) := by rw [← hH1, Array.getElem?_push_size, ← arrV_new]
  have o1 : ∀ q : Nat, q < H.size → H1[q]? = H[q]? := fun q hq => by rw [← hH1, Array.getElem?_push, if_neg (Nat.ne_of_lt hq)]
  have h0 : zcell (xG X) S H.size (mK S H.size) = none := by
    cases hz : zcell (xG X) S H.size (mK S H.size) with
    | none => rfl
    | some e => exact absurd (hH _ _ hz).1.lt (Nat.lt_irrefl _)
  obtain ⟨-, kB, compB, g1, g2, g3, g4⟩ := C.K.2 7 _ rfl
  have hcA : cA = (xG X).2.2 7 := Option.some.inj (f1.symm.trans g4)
  subst hcA
  refine h H.size (z_kn h0) H1 locs la (hH.make o1 (fun b hb => by rw [show mK (nA S H.size 17 c0.toNatClampNeg) b = mK S b from up1_ne hb]; exact zcell_nA _ _ _ _ _ hb _) (fun e he => ?_)) ⟨Nat.le_trans hS.1 (by omega), fun q q1 q2 => (o1 q (Nat.lt_of_lt_of_le q1 hS.1)).trans (hS.2.1 q q1 q2), hS.2.2⟩ hl
  rw [show mK (nA S H.size 17 c0.toNatClampNeg) H.size = 17 from up1_self, zcell_17] at he
  cases he
  refine ⟨?_, C.A _ hS.1⟩
  show H1[H.size]? = some (vp_cell _ _)
  rw [e1, vp_cell_q]
  simp only [mN, tI, tQ, tJ, tD, nA, up1_self]
  rfl
theorem z_anew_3 {index : Nat} {c0 : Int32} (N : Nat) (C : zC X own cc nL Ts) (h1 : Cond.classLink own index RX3 ∈ Ts) (hn : ¬ c0 < 0) (hN : c0.toNatClampNeg = N) (hb : N * 4 ≤ 536870912) (hc : k + 1 ≤ (xR X).cells) (hs : n + N ≤ (xR X).slots) (d : decode cc pc = .ok (.anewarray index, 3)) (h : ∀ a : Nat, zkn (mK S a) = false → zW X nL (k + 1) (n + N) (nA S a 18 N) (pc + 3) ls (zr (some a) :: st)) : zW X nL k n S pc ls (zi c0 :: st) := fun H locs la hH hS hl => by
  subst hN
  have hover : va_AO RX3 (xs X) := C.E.2.2.2.1.2.2.2.1
  refine W.anew C.1 C.2.1 C.o (C.t _ h1) (va_AO.use hover) rfl d rfl hn hb hc hs fun cA kA comp f1 f2 f3 f4 => ?_
  generalize hH1 : H.push ({ cls := cA, slots := Array.replicate c0.toNatClampNeg .null, vm := .none } : Cell) = H1
  have z1 : H1.size = H.size + 1 := by rw [← hH1, Array.size_push]
  have e1 : H1[H.size]? = some (arrV cA c0.toNatClampNeg (fun _ => .null)) := by rw [← hH1, Array.getElem?_push_size, ← arrV_new]
  have o1 : ∀ q : Nat, q < H.size → H1[q]? = H[q]? := fun q hq => by rw [← hH1, Array.getElem?_push, if_neg (Nat.ne_of_lt hq)]
  have h0 : zcell (xG X) S H.size (mK S H.size) = none := by
    cases hz : zcell (xG X) S H.size (mK S H.size) with
    | none => rfl
    | some e => exact absurd (hH _ _ hz).1.lt (Nat.lt_irrefl _)
  obtain ⟨-, kB, compB, g1, g2, g3, g4⟩ := C.K.2 8 _ rfl
  have hcA : cA = (xG X).2.2 8 := Option.some.inj (f1.symm.trans g4)
  subst hcA
  refine h H.size (z_kn h0) H1 locs la (hH.make o1 (fun b hb => by rw [show mK (nA S H.size 18 c0.toNatClampNeg) b = mK S b from up1_ne hb]; exact zcell_nA _ _ _ _ _ hb _) (fun e he => ?_)) ⟨Nat.le_trans hS.1 (by omega), fun q q1 q2 => (o1 q (Nat.lt_of_lt_of_le q1 hS.1)).trans (hS.2.1 q q1 q2), hS.2.2⟩ hl
  rw [show mK (nA S H.size 18 c0.toNatClampNeg) H.size = 18 from up1_self, zcell_18] at he
  cases he
  refine ⟨?_, C.A _ hS.1⟩
  show H1[H.size]? = some (vp_cell _ _)
  rw [e1, vp_cell_q]
  simp only [mN, tI, tQ, tJ, tD, nA, up1_self]
  rfl
end ZH
/-! the contract -/
abbrev zP : Type := (Option ZV) ⊕ String → ZM → Prop
def zQc (G : zG) (A : Nat → Prop) (P : zP) : Array Value → State → Outcome → State → Prop := fun _ st oc t => (∃ (v : Option ZV) (S' : ZM), oc = .returned (v.map zv) ∧ P (.inl v) S' ∧ zH G A S' t.heap) ∧ va_F A st t
def zXC (G : zG) (A : Nat → Prop) (P : zP) : String → State → State → Prop := fun E st t => (∃ S' : ZM, P (.inr E) S' ∧ zH G A S' t.heap) ∧ va_F A st t
def zPre (G : zG) (A : Nat → Prop) (vs : List ZV) (S : ZM) (sz : Nat) : Array Value → State → Prop := va_Pc (vs.map zv) (fun U => U.heap.size = sz ∧ zH G A S U.heap ∧ va_K (zDD G) vwCl (ztys G) U ∧ zE A U)
/-- y, called with vs over the memory S, returns or throws, with P of the answer and the memory behind it -/
def zMet (l : Launch) (y : MethodName) (ws : List Cond) (rm : Room) (mc ms : Nat) (vs : List ZV) (S : ZM) (P : zP) : Prop :=
  ∀ (G : zG) (A : Nat → Prop) (sz : Nat), (∀ q : Nat, sz ≤ q → A q) → vx_Met l y ws rm (zPre G A vs S sz) (zQc G A P) (zXC G A P) mc ms A
theorem zE.at {A : Nat → Prop} {s U : State} {H : Heap} {locs : List Loc} (h : zE A s) (hS : va_S A s.heap H locs) (hU : U.heap = H) (hW : s.WarmedH U.vm) : zE A U := by
  obtain ⟨h1, h2, h3, ⟨h4, h5, h6, h7, h10⟩, h8, h9⟩ := h
  refine ⟨?_, ?_, fun q hq => ?_, ⟨h4.moved hW.alike, h5.moved hW.alike, h6.moved hW.alike, h7.moved hW.alike, h10.moved hW.alike⟩, fun E hE => va_Nw.warmC hW (h8 E hE), fun Y hY => va_Nw.warmD hW (h9 Y hY)⟩
  · rw [hU]; exact (h1.kept hS.2.1).moved hW.alike
  · rw [hU]; exact (h2.kept hS.2.1).moved hW.alike
  · obtain ⟨sa, h⟩ := h3 q hq
    exact ⟨sa, h.warm hW⟩
theorem zPre.blind {G : zG} {A : Nat → Prop} {vs : List ZV} {S : ZM} {sz : Nat} : FrameBlind (zPre G A vs S sz) := fun a U g mk q => by
  obtain ⟨q1, q2, q3, q4, q5, q6, q7, q8, q9, q10⟩ := q
  refine ⟨q1, q2, q3, va_K.moved (u := U) (U := U.calling g mk a) (Vm.Alike.refl U.vm) q4, ?_, ?_, fun q hq => ?_, ?_, fun E hE => va_Nw.same (U := U.calling g mk a) rfl rfl (q9 E hE), fun Y hY => va_Nw.same (U := U.calling g mk a) rfl rfl (q10 Y hY)⟩
  · exact q5.moved (u := U) (U := U.calling g mk a) (Vm.Alike.refl U.vm)
  · exact q6.moved (u := U) (U := U.calling g mk a) (Vm.Alike.refl U.vm)
  · obtain ⟨sa, h⟩ := q7 q hq
    exact ⟨sa, h.same (U := U.calling g mk a) rfl⟩
  · exact ⟨q8.1.moved (u := U) (U := U.calling g mk a) (Vm.Alike.refl U.vm), q8.2.1.moved (u := U) (U := U.calling g mk a) (Vm.Alike.refl U.vm), q8.2.2.1.moved (u := U) (U := U.calling g mk a) (Vm.Alike.refl U.vm), q8.2.2.2.1.moved (u := U) (U := U.calling g mk a) (Vm.Alike.refl U.vm), q8.2.2.2.2.moved (u := U) (U := U.calling g mk a) (Vm.Alike.refl U.vm)⟩
/-- an exception of class E is thrown here, over the memory S -/
def zT (X : zX) (nL k n : Nat) (S : ZM) (pc : Nat) (ls : List (Option ZV)) (st : List ZV) (E : String) : Prop :=
  ∀ (H : Heap) (locs : List Loc) (la : Array Slot) (q : Addr) (ce : Cell), zH (xG X) (xA X) S H → va_S (xA X) (xs X).heap H locs → zL la nL ls → H[q]? = some ce → ce.vm = .none → (xs X).vm.findClass E = some ce.cls →
    vx_W (xp X) (xl X) (xe X) (xR X) (xs X) (xm X) (xa X) (xb X) (xh X) (xc X) H locs k n (xQ X) (F0 (xm X) pc la (st.map zv)) q
/-- what the walk owes at its end -/
def zF (X : zX) (P : zP) (mc ms : Nat) (ret : Option FieldType) : Prop := xQ X = vx_MQ (xb X) (zQc (xG X) (xA X) P) (zXC (xG X) (xA X) P) (xa X) (xs X) mc ms (xA X) ∧ (xh X).sig.returnType = ret
/-- no handlers here -/
def zN (X : zX) : Prop := ∀ x ∈ (xc X).exceptionTable.toList, False
theorem zv_map_rev (as st : List ZV) : (as.reverse ++ st).map zv = (as.map zv).reverse ++ st.map zv := by simp
section ZJ
variable {X : zX} {own : String} {cc : ByteArray} {nL : Nat} {Ts : List Cond} {k n : Nat} {S : ZM} {pc : Nat} {ls : List (Option ZV)} {st : List ZV}
theorem z_sum : ∀ (st : List ZV), ((st.map zv).map fun v => v.category).sum = (st.map fun v => if zwide v = true then 2 else 1).sum
  | [] => rfl
  | v :: t => by simp only [List.map_cons, List.sum_cons, z_sum t, zv_cat]
/-- behind a call of any kind -/
theorem z_after {mc ms : Nat} {a : Array Value} {P : zP} {st0 : List Value} {H : Heap} {locs : List Loc} {la : Array Slot} (hr : vx_Run (xp X) (xl X) (xe X) (xR X) (xs X) (xm X) (xa X) (xb X) (xh X) (xc X) H locs k n mc ms (F0 (xm X) pc la st0) (st.map zv) (zQc (xG X) (xA X) P a) (zXC (xG X) (xA X) P) (xA X)) (hS : va_S (xA X) (xs X).heap H locs) (hl : zL la nL ls)
    (kk : ∀ (v : Option ZV) (S' : ZM), P (.inl v) S' → zW X nL (k + mc) (n + ms) S' (pc + 3) ls (v.toList ++ st)) (kx : ∀ (E : String) (S' : ZM), P (.inr E) S' → zT X nL (k + mc) (n + ms) S' pc ls st E) :
    W (xp X) (xl X) (xe X) (xR X) (xs X) (xm X) (xa X) (xb X) (xh X) (xc X) H locs k n (xQ X) (F0 (xm X) pc la st0) := by
  intro T hT X0
  rcases hr T hT X0 with ⟨v, st₀, t, T', L, h0, X', hL, e1, e2, ⟨⟨v', S', hv, hp, hb⟩, hF⟩, stp⟩ | ⟨q, st₀, t, T', L, E, ce, h0, X', hL, e1, e2, ⟨⟨S', hp, hb⟩, hF⟩, hce, hcv, hcl, stp⟩
  · have hv : v = v'.map zv := by injection hv
    subst hv
    obtain ⟨k1, k2, k3⟩ := vx_keep h0 e1 hS (fun _ _ h => h) (fun _ h => h) hL hF
    obtain ⟨t2, a1, b1⟩ := kk v' S' hp T'.heap (locs ++ L) la (by rw [e1]; exact hb) k3 hl T' rfl X'
    refine ⟨t2, stp t2 ?_, b1⟩
    have e9 : ((v'.map zv).toList ++ st.map zv) = (v'.toList ++ st).map zv := by cases v' <;> rfl
    show Steps _ _ _ (T'.setTop (F0 (xm X) (pc + 3) la ((v'.map zv).toList ++ st.map zv))) t2
    rw [e9]
    exact a1
  · obtain ⟨k1, k2, k3⟩ := vx_keep h0 e1 hS (fun _ _ h => h) (fun _ h => h) hL hF
    obtain ⟨t2, a1, b1⟩ := kx E S' hp T'.heap (locs ++ L) la q ce (by rw [e1]; exact hb) k3 hl (by rw [e1]; exact hce) hcv hcl T' rfl X'
    exact ⟨t2, stp.trans a1, b1⟩
variable {y : MethodName} {bytes : ByteArray} {maxL mc ms index : Nat} {ret : Option FieldType} {ws ws' : List Cond} {rm : Room} {P : zP}
theorem zPre.now {G : zG} {A : Nat → Prop} {s : State} {H : Heap} {locs : List Loc} {vs : List ZV} {S : ZM} (hK : va_K (zDD G) vwCl (ztys G) s) (hE : zE A s) (hS : va_S A s.heap H locs) (hH : zH G A S H) (U : State) (hU : U.heap = H) (hW : s.WarmedH U.vm) : zPre G A vs S H.size ((vs.map zv).toArray) U := ⟨rfl, by rw [hU], by rw [hU]; exact hH, hK.moved hW.alike, hE.at hS hU hW⟩
/-- a call of a method of an object of a class of ours -/
theorem z_callV {b ci N : Nat} (n0 : Nat) {T : u_T} {fs : List Value} {κ : Nat} (as : List ZV) {stk : List ZV} (C : zC X own cc nL Ts) (hM : zMet (xl X) y ws rm mc ms (zr (some b) :: as) S P) (hst : stk = as.reverse ++ zr (some b) :: st) (hG : GoodIn Ts (wsV own index y.cls y ws)) (hw : ws = Cond.code y bytes maxL ret :: ws') (hrc : rm.cells = mc) (hrs : rm.slots = ms)
    (hd : y.cls = y.cls ∧ y.cls ≠ "java/lang/invoke/MethodHandle" ∧ y.cls ≠ "java/lang/invoke/VarHandle" ∧ (parseMethodDescriptor y.desc).map (fun d => d.parameters.length) = some n0) (hn0 : as.length = n0) (hR : rm.frames + 1 ≤ (xR X).frames ∧ 8 + (maxL + 11) + rm.locals ≤ (xR X).locals)
    (hk : mK S b = κ) (he : zcell (xG X) S b κ = some (.inr (ci, fs))) (hc : vwCl[ci]? = some (y.cls, T, N)) (hf : k + mc ≤ (xR X).cells ∧ n + ms ≤ (xR X).slots) (hcat : (st.map fun v => if zwide v = true then 2 else 1).sum ≤ 8) (d : decode cc pc = .ok (.invokevirtual index, 3))
    (kk : ∀ (v : Option ZV) (S' : ZM), P (.inl v) S' → zW X nL (k + mc) (n + ms) S' (pc + 3) ls (v.toList ++ st)) (kx : ∀ (E : String) (S' : ZM), P (.inr E) S' → zT X nL (k + mc) (n + ms) S' pc ls st E) : zW X nL k n S pc ls stk := fun H locs la hH hS hl => by
  subst hk
  refine z_after (mc := mc) (ms := ms) (P := P) (vx_runV (C := y.cls) (index := index) (bytes := bytes) (maxL := maxL) (ret := ret) (ws := ws) (rm := rm) (As := as.map zv) (rest := st.map zv) ⟨C.1, C.2.1, C.2.2.1, C.o, C.t⟩ (hM (xG X) (xA X) H.size (fun q hq => C.A q (Nat.le_trans hS.1 hq))) (cwV as.length C.t hG hw hrc hrs (by rw [hn0]; exact hd) hR) ⟨zPre.blind, va_recv C.K (va_one (hH b _ he).1) (ci := ci) (q0 := 0) hc rfl, fun U hU hW => ?_⟩ rfl (by simp) hl.1 (by rw [hst, zv_map_rev]; rfl) (lv_room (by rw [z_sum]; exact hcat)) d hf) hS hl kk kx
  exact zPre.now C.K C.E hS hH U hU hW
/-- a static call, of any class of ours -/
theorem z_callS (n0 : Nat) (as : List ZV) {stk : List ZV} (C : zC X own cc nL Ts) (hM : zMet (xl X) y ws rm mc ms as S P) (hst : stk = as.reverse ++ st) (hG : GoodIn Ts (va_wsS own index y ws)) (hw : ws = Cond.code y bytes maxL ret :: ws') (hrc : rm.cells = mc) (hrs : rm.slots = ms)
    (hd : y.cls ≠ "java/lang/invoke/MethodHandle" ∧ y.cls ≠ "java/lang/invoke/VarHandle" ∧ (parseMethodDescriptor y.desc).map (fun d => d.parameters.length) = some n0) (hn0 : as.length = n0) (hR : rm.frames + 1 ≤ (xR X).frames ∧ 8 + (maxL + 11) + rm.locals ≤ (xR X).locals)
    (hf : k + mc ≤ (xR X).cells ∧ n + ms ≤ (xR X).slots) (hcat : (st.map fun v => if zwide v = true then 2 else 1).sum ≤ 8) (d : decode cc pc = .ok (.invokestatic index, 3))
    (kk : ∀ (v : Option ZV) (S' : ZM), P (.inl v) S' → zW X nL (k + mc) (n + ms) S' (pc + 3) ls (v.toList ++ st)) (kx : ∀ (E : String) (S' : ZM), P (.inr E) S' → zT X nL (k + mc) (n + ms) S' pc ls st E) : zW X nL k n S pc ls stk := fun H locs la hH hS hl => by
  refine z_after (mc := mc) (ms := ms) (P := P) (vx_runS (index := index) (bytes := bytes) (maxL := maxL) (ret := ret) (ws := ws) (rm := rm) (As := as.map zv) (rest := st.map zv) ⟨C.1, C.2.1, C.2.2.1, C.o, C.t⟩ (hM (xG X) (xA X) H.size (fun q hq => C.A q (Nat.le_trans hS.1 hq))) (va_cwS as.length C.t hG hw hrc hrs (by rw [hn0]; exact hd) hR) ⟨zPre.blind, fun U hU hW => ?_⟩ rfl (by simp) hl.1 (by rw [hst, zv_map_rev]) (lv_room (by rw [z_sum]; exact hcat)) d hf) hS hl kk kx
  exact zPre.now C.K C.E hS hH U hU hW
/-- not caught here -/
theorem z_out {E : String} {MC MS : Nat} (C : zC X own cc nL Ts) (F : zF X P MC MS ret) (N : zN X) (hk : k ≤ MC) (hn : n ≤ MS) (hp : P (.inr E) S) : zT X nL k n S pc ls st E := fun H locs la q ce hH hS hl hcell hv hcl => by
  rw [F.1]
  exact vx_out (fun x hx => absurd hx (fun h => N x h)) C.lk hcell hv hcl (fun t ht ha => ⟨⟨S, hp, by rw [ht]; exact hH⟩, hS.F ht⟩) hS.2.2 hk hn

theorem z_ireturn {x : Int32} {MC MS : Nat} (C : zC X own cc nL Ts) (F : zF X P MC MS (some .int)) (hk : k ≤ MC) (hn : n ≤ MS) (d : decode cc pc = .ok (.ireturn, 1)) (hp : P (.inl (some (zi x))) S) : zW X nL k n S pc ls [zi x] := fun H locs la hH hS hl => by
  rw [F.1]
  have hlocks := C.lk
  exact W.widen hk hn (vx_ret (W.iret C.1 C.2.1 F.2 (fun t ht hW => ⟨⟨some (zi x), S, rfl, hp, by rw [ht]; exact hH⟩, hS.F ht⟩) hS.2.2 d))
theorem z_lreturn {x : Int64} {MC MS : Nat} (C : zC X own cc nL Ts) (F : zF X P MC MS (some .long)) (hk : k ≤ MC) (hn : n ≤ MS) (d : decode cc pc = .ok (.lreturn, 1)) (hp : P (.inl (some (zj x))) S) : zW X nL k n S pc ls [zj x] := fun H locs la hH hS hl => by
  rw [F.1]
  have hlocks := C.lk
  exact W.widen hk hn (vx_ret (W.lret C.1 C.2.1 F.2 (fun t ht hW => ⟨⟨some (zj x), S, rfl, hp, by rw [ht]; exact hH⟩, hS.F ht⟩) hS.2.2 d))
theorem z_freturn {x : UInt32} {MC MS : Nat} (C : zC X own cc nL Ts) (F : zF X P MC MS (some .float)) (hk : k ≤ MC) (hn : n ≤ MS) (d : decode cc pc = .ok (.freturn, 1)) (hp : P (.inl (some (zf x))) S) : zW X nL k n S pc ls [zf x] := fun H locs la hH hS hl => by
  rw [F.1]
  have hlocks := C.lk
  exact W.widen hk hn (vx_ret (W.fret C.1 C.2.1 F.2 (fun t ht hW => ⟨⟨some (zf x), S, rfl, hp, by rw [ht]; exact hH⟩, hS.F ht⟩) hS.2.2 d))
theorem z_dreturn {x : UInt64} {MC MS : Nat} (C : zC X own cc nL Ts) (F : zF X P MC MS (some .double)) (hk : k ≤ MC) (hn : n ≤ MS) (d : decode cc pc = .ok (.dreturn, 1)) (hp : P (.inl (some (zd x))) S) : zW X nL k n S pc ls [zd x] := fun H locs la hH hS hl => by
  rw [F.1]
  have hlocks := C.lk
  exact W.widen hk hn (vx_ret (W.dret C.1 C.2.1 F.2 (fun t ht hW => ⟨⟨some (zd x), S, rfl, hp, by rw [ht]; exact hH⟩, hS.F ht⟩) hS.2.2 d))
theorem z_zreturn {x : Int32} {MC MS : Nat} {ty : FieldType} (C : zC X own cc nL Ts) (F : zF X P MC MS (some ty)) (hk : k ≤ MC) (hn : n ≤ MS) (hx : narrow ty (.int x) = .int x) (d : decode cc pc = .ok (.ireturn, 1)) (hp : P (.inl (some (zi x))) S) : zW X nL k n S pc ls [zi x] := fun H locs la hH hS hl => by
  rw [F.1]
  have hlocks := C.lk
  exact W.widen hk hn (vx_ret (W.zret C.1 C.2.1 F.2 hx (fun t ht hW => ⟨⟨some (zi x), S, rfl, hp, by rw [ht]; exact hH⟩, hS.F ht⟩) hS.2.2 d))
theorem z_return {MC MS : Nat} (C : zC X own cc nL Ts) (F : zF X P MC MS none) (hk : k ≤ MC) (hn : n ≤ MS) (d : decode cc pc = .ok (.return_, 1)) (hp : P (.inl none) S) : zW X nL k n S pc ls [] := fun H locs la hH hS hl => by
  rw [F.1]
  have hlocks := C.lk
  exact W.widen hk hn (vx_ret (W.vret C.1 C.2.1 F.2 (fun t ht hW => ⟨⟨none, S, rfl, hp, by rw [ht]; exact hH⟩, hS.F ht⟩) hS.2.2 d))
theorem z_areturn {r : Option Nat} {MC MS : Nat} {rt : FieldType} (C : zC X own cc nL Ts) (F : zF X P MC MS (some rt)) (hrt : (∃ n, rt = .object n) ∨ ∃ t, rt = .array t) (hk : k ≤ MC) (hn : n ≤ MS) (d : decode cc pc = .ok (.areturn, 1)) (hp : P (.inl (some (zr r))) S) : zW X nL k n S pc ls [zr r] := fun H locs la hH hS hl => by
  rw [F.1]
  have hlocks := C.lk
  exact W.widen hk hn (vx_ret (W.aret C.1 C.2.1 F.2 hrt (by cases r <;> simp [zv, va_rf]) (fun t ht hW => ⟨⟨some (zr r), S, rfl, hp, by rw [ht]; exact hH⟩, hS.F ht⟩) hS.2.2 d))

theorem z_throwS {cls text : String} (names : List String) {ik is ic MC MS : Nat} (C : zC X own cc nL Ts) (F : zF X P MC MS ret) (N : zN X) (hcls : Bundle.fit cls = true) (hnames : ∀ n ∈ names, Bundle.fit n = true) (h1 : Cond.classLink own ik cls ∈ Ts) (h2 : Cond.initialized cls ∈ Ts) (hstr : (own, is, text) ∈ zStrs) (hat : ∀ w ∈ (vx_atS own ic cls names).filter goodWord, w ∈ Ts) (hbad : ∀ w ∈ (vx_atS own ic cls names).filter (fun w => !goodWord w), w ∈ zbad cls) (hEx : cls ∈ zEx) (hgood : ∀ w ∈ Cond.classLink own ik cls :: Cond.initialized cls :: vx_atS own ic cls names, vx_ot w = true)
    (d0 : decode cc pc = .ok (.new ik, 3)) (d3 : decode cc (pc + 3) = .ok (.dup, 1)) (d4 : decode cc (pc + 4) = .ok (.ldc is, 2)) (d5 : decode cc (pc + 6) = .ok (.invokespecial ic, 3)) (d6 : decode cc (pc + 9) = .ok (.athrow, 1))
    (hRf : names.length + 3 < (xR X).frames) (hRl : (st.map fun v => if zwide v = true then 2 else 1).sum + (13 * (names.length + 1) + 43) ≤ (xR X).locals) (hRc : k + 1 ≤ (xR X).cells) (hRs : n + 6 ≤ (xR X).slots) (hk : k + 1 ≤ MC) (hn : n + 6 ≤ MS) (hp : P (.inr cls) S) : zW X nL k n S pc ls st := fun H locs la hH hS hl => by
  obtain ⟨sa, hsa⟩ := C.E.2.2.1 _ hstr
  have hB : ∀ w ∈ zbad cls, w.before (xa X) (xs X) = true := by
    intro w hw
    rcases List.mem_cons.mp hw with hw | hw
    · rw [hw]; exact va_Nw.use rfl (C.E.2.2.2.2.1 cls hEx)
    · obtain ⟨Y, hY, rfl⟩ := List.mem_map.mp hw
      exact va_Nw.use rfl (C.E.2.2.2.2.2 Y hY)
  rw [F.1]
  refine vx_throwS (names := names) C.1 C.2.1 C.fl C.o hcls hnames (C.t _ h1) (C.t _ h2) hsa (vx_hat (fun w hw => C.t w (hat w hw)) hbad hB) hgood C.E.1 C.E.2.1 hS (hl.1.trans C.2.2.1.symm) d0 d3 d4 d5 d6 (fun x hx => absurd hx (fun h => N x h)) hRf (by rw [z_sum]; exact hRl) hRc hRs C.lk (fun t ha hz ho => ⟨⟨S, hp, hH.kept (fun q _ hq => ho q hq)⟩, ?_⟩) hS.2.2 hk hn
  exact ⟨Nat.le_trans hS.1 hz, fun q h1 h2 => (ho q (Nat.lt_of_lt_of_le h1 hS.1)).trans (hS.2.1 q h1 h2)⟩
theorem z_throwSW {cls text : String} (names : List String) {ik is ic MC MS : Nat} (C : zC X own cc nL Ts) (F : zF X P MC MS ret) (N : zN X) (hcls : Bundle.fit cls = true) (hnames : ∀ n ∈ names, Bundle.fit n = true) (h1 : Cond.classLink own ik cls ∈ Ts) (h2 : Cond.initialized cls ∈ Ts) (hstr : (own, is, text) ∈ zStrs) (hat : ∀ w ∈ (vx_atS own ic cls names).filter goodWord, w ∈ Ts) (hbad : ∀ w ∈ (vx_atS own ic cls names).filter (fun w => !goodWord w), w ∈ zbad cls) (hEx : cls ∈ zEx) (hgood : ∀ w ∈ Cond.classLink own ik cls :: Cond.initialized cls :: vx_atS own ic cls names, vx_ot w = true)
    (d0 : decode cc pc = .ok (.new ik, 3)) (d3 : decode cc (pc + 3) = .ok (.dup, 1)) (d4 : decode cc (pc + 4) = .ok (.ldc_w is, 3)) (d5 : decode cc (pc + 7) = .ok (.invokespecial ic, 3)) (d6 : decode cc (pc + 10) = .ok (.athrow, 1))
    (hRf : names.length + 3 < (xR X).frames) (hRl : (st.map fun v => if zwide v = true then 2 else 1).sum + (13 * (names.length + 1) + 43) ≤ (xR X).locals) (hRc : k + 1 ≤ (xR X).cells) (hRs : n + 6 ≤ (xR X).slots) (hk : k + 1 ≤ MC) (hn : n + 6 ≤ MS) (hp : P (.inr cls) S) : zW X nL k n S pc ls st := fun H locs la hH hS hl => by
  obtain ⟨sa, hsa⟩ := C.E.2.2.1 _ hstr
  have hB : ∀ w ∈ zbad cls, w.before (xa X) (xs X) = true := by
    intro w hw
    rcases List.mem_cons.mp hw with hw | hw
    · rw [hw]; exact va_Nw.use rfl (C.E.2.2.2.2.1 cls hEx)
    · obtain ⟨Y, hY, rfl⟩ := List.mem_map.mp hw
      exact va_Nw.use rfl (C.E.2.2.2.2.2 Y hY)
  rw [F.1]
  refine vx_throwSW (names := names) C.1 C.2.1 C.fl C.o hcls hnames (C.t _ h1) (C.t _ h2) hsa (vx_hat (fun w hw => C.t w (hat w hw)) hbad hB) hgood C.E.1 C.E.2.1 hS (hl.1.trans C.2.2.1.symm) d0 d3 d4 d5 d6 (fun x hx => absurd hx (fun h => N x h)) hRf (by rw [z_sum]; exact hRl) hRc hRs C.lk (fun t ha hz ho => ⟨⟨S, hp, hH.kept (fun q _ hq => ho q hq)⟩, ?_⟩) hS.2.2 hk hn
  exact ⟨Nat.le_trans hS.1 hz, fun q h1 h2 => (ho q (Nat.lt_of_lt_of_le h1 hS.1)).trans (hS.2.1 q h1 h2)⟩
end ZJ
/-- the locals with which a method begins -/
def zent : List ZV → List (Option ZV)
  | [] => []
  | v :: t => if zwide v = true then some v :: none :: zent t else some v :: zent t
theorem zent_args : ∀ (vs : List ZV) (m i : Nat) (q : Nat × Value), q ∈ zl i (zent vs ++ List.replicate m none) → q ∈ lv_args i (vs.map zv)
  | [], m, i, q, h => by
    have : ∀ (m i : Nat), zl i (List.replicate m none) = [] := fun m => by
      induction m with
      | zero => intro i; rfl
      | succ m ih => intro i; simp only [List.replicate_succ, zl]; exact ih _
    simp [zent, this] at h
  | v :: t, m, i, q, h => by
    simp only [zent] at h
    simp only [List.map_cons, lv_args, zv_cat]
    by_cases hz : zwide v = true
    · rw [if_pos hz] at h
      simp only [List.cons_append, zl, List.mem_cons] at h
      rcases h with h | h
      · rw [h]; exact List.mem_cons_self
      · rw [if_pos hz]; simp only [if_true]
        exact List.mem_cons_of_mem _ (zent_args t m (i + 2) q h)
    · rw [if_neg hz] at h
      simp only [List.cons_append, zl, List.mem_cons] at h
      rcases h with h | h
      · rw [h]; exact List.mem_cons_self
      · rw [if_neg hz]; simp only [show ¬ (1 = 2) by decide, if_false]
        exact List.mem_cons_of_mem _ (zent_args t m (i + 1) q h)
/-- a contract out of the walk of its body -/
theorem zMet.of {l : Launch} {y : MethodName} {ws ws' : List Cond} {rm : Room} {mc ms : Nat} {cc : ByteArray} {maxL : Nat} {ret : Option FieldType} {vs : List ZV} {S : ZM} {P : zP} (ls0 : List (Option ZV)) (hl : l.stackTraces = false) (hy : plainName y.cls = true) (hw : ws = Cond.code y cc maxL ret :: ws') (hlen : (lg_sl (vs.map zv)).length ≤ maxL) (hls : ls0 = zent vs ++ List.replicate (maxL - (zent vs).length) none)
    (body : ∀ X : zX, zC X y.cls cc maxL ws → zN X → xR X = { frames := rm.frames, cells := rm.cells, slots := rm.slots, locals := rm.locals } → (y.name = "<init>" → (xh X).name = "<init>") → xl X = l → zF X P mc ms ret → zW X maxL 0 0 S 0 ls0 []) : zMet l y ws rm mc ms vs S P := by
  intro G A sz hA
  refine vx_ofW (cc := cc) (maxL := maxL) (ret := ret) hy hw ?_
  intro p e s m args below meth c s₁ B hml ht hv
  obtain ⟨rfl, hsz, hH, hK, hE⟩ := hv
  subst hsz
  have hl0 := lv_entry (vs.map zv) (n := maxL) hlen
  rw [lg_entry_eq]
  refine body (p, l, e, (headSpec ws rm).room, s, m, (vs.map zv).toArray, below, meth, c, G, A, _) ⟨B.exec, B.bytes, hml, findClass_of_methodNamed B.named, atoms_spec (ws := ws) B.pre, hK, hA, B.notSynchronized, hE, hl⟩ ht rfl (fun hn => ?_) rfl ⟨rfl, B.returns⟩ s.heap [] _ hH va_S.rf ?_
  · rw [← hn]; exact (name_of_methodNamed B.named B.method).1
  · rw [hls]
    refine ⟨hl0.1, hl0.2.1, fun q hq => hl0.2.2 q (zent_args vs _ 0 q hq)⟩

