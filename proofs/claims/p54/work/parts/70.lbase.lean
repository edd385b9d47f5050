/-! the law: methods with handlers, and what a call leaves alone -/
/-- the handlers of the body that is walked -/
def zHd (X : zX) (hh : List (Nat × Nat × Nat × Nat)) : Prop := (xc X).exceptionTable.toList = tableOf hh
/-- no exception is caught as another one -/
def zNc (U : State) : Prop := ∀ E ∈ zEx, ∀ nm ∈ zEx, E ≠ nm → va_Nc E nm U
theorem zNc.moved {u U : State} (hvm : u.vm.Alike U.vm) (h : zNc u) : zNc U := fun E hE nm hn q => (h E hE nm hn q).moved hvm
/-- the script, a cell that nobody writes -/
abbrev zSQ : Type := Nat × Nat × (Nat → Int32)
def zSc (q : zSQ) (A : Nat → Prop) (U : State) : Prop := va_X q.1 q.2.1 q.2.2 U U.heap ∧ q.1 < U.heap.size ∧ ¬ A q.1
theorem zSc.now {q : zSQ} {A : Nat → Prop} {s U : State} {H : Heap} {locs : List Loc} (h : zSc q A s) (hS : va_S A s.heap H locs) (hU : U.heap = H) (hW : s.WarmedH U.vm) : zSc q A U := by
  obtain ⟨h1, h2, h3⟩ := h
  refine ⟨?_, ?_, h3⟩
  · rw [hU]; exact (h1.kept (hS.2.1 _ h2 h3)).moved hW.alike
  · rw [hU]; exact Nat.lt_of_lt_of_le h2 hS.1
/-- a contract of a method of the law's: it may catch, and it may read the script -/
def zMetL (l : Launch) (sc : zSQ) (y : MethodName) (ws : List Cond) (rm : Room) (mc ms : Nat) (vs : List ZV) (S : ZM) (P : zP) : Prop :=
  ∀ (G : zG) (A : Nat → Prop) (sz : Nat), (∀ q : Nat, sz ≤ q → A q) → vx_Met l y ws rm (fun a U => zPre G A vs S sz a U ∧ zNc U ∧ zSc sc A U) (zQc G A P) (zXC G A P) mc ms A
theorem zMetL.ofH {l : Launch} {sc : zSQ} {y : MethodName} {ws ws' : List Cond} {rm : Room} {mc ms : Nat} {cc : ByteArray} {maxL : Nat} {ret : Option FieldType} {hh : List (Nat × Nat × Nat × Nat)} {vs : List ZV} {S : ZM} {P : zP} (ls0 : List (Option ZV)) (hl : l.stackTraces = false) (hy : plainName y.cls = true) (hw : ws = Cond.codeWith y cc maxL ret hh :: ws') (hlen : (zent vs).length ≤ maxL) (hls : ls0 = zent vs ++ List.replicate (maxL - (zent vs).length) none)
    (body : ∀ X : zX, zC X y.cls cc maxL ws → zHd X hh → zNc (xs X) → zSc sc (xA X) (xs X) → xR X = { frames := rm.frames, cells := rm.cells, slots := rm.slots, locals := rm.locals } → xl X = l → zF X P mc ms ret → zW X maxL 0 0 S 0 ls0 []) : zMetL l sc y ws rm mc ms vs S P := by
  intro G A sz hA
  refine vx_ofWH (cc := cc) (maxL := maxL) (ret := ret) (hh := hh) hy hw ?_
  intro p e s m args below meth c s₁ B hml hv
  obtain ⟨⟨rfl, hsz, hH, hK, hE⟩, hNc, hSc⟩ := hv
  subst hsz
  have hl0 := lv_entry (vs.map zv) (n := maxL) (by rw [zent_len]; exact hlen)
  have hpre := atoms_spec (ws := ws) B.pre
  have htb := vx_table (x := y) B (hpre _ (by rw [hw]; exact List.mem_cons_self))
  rw [lg_entry_eq]
  refine body (p, l, e, (headSpec ws rm).room, s, m, (vs.map zv).toArray, below, meth, c, G, A, _) ⟨B.exec, B.bytes, hml, findClass_of_methodNamed B.named, hpre, hK, hA, B.notSynchronized, hE, hl⟩ htb hNc hSc rfl rfl ⟨rfl, B.returns⟩ s.heap [] _ hH va_S.rf ?_
  rw [hls]
  exact ⟨hl0.1, hl0.2.1, fun q hq => hl0.2.2 q (zent_args vs _ 0 q hq)⟩
theorem zMetL.of {l : Launch} {sc : zSQ} {y : MethodName} {ws ws' : List Cond} {rm : Room} {mc ms : Nat} {cc : ByteArray} {maxL : Nat} {ret : Option FieldType} {vs : List ZV} {S : ZM} {P : zP} (ls0 : List (Option ZV)) (hl : l.stackTraces = false) (hy : plainName y.cls = true) (hw : ws = Cond.code y cc maxL ret :: ws') (hlen : (zent vs).length ≤ maxL) (hls : ls0 = zent vs ++ List.replicate (maxL - (zent vs).length) none)
    (body : ∀ X : zX, zC X y.cls cc maxL ws → zN X → zNc (xs X) → zSc sc (xA X) (xs X) → xR X = { frames := rm.frames, cells := rm.cells, slots := rm.slots, locals := rm.locals } → xl X = l → zF X P mc ms ret → zW X maxL 0 0 S 0 ls0 []) : zMetL l sc y ws rm mc ms vs S P := by
  intro G A sz hA
  refine vx_ofW (cc := cc) (maxL := maxL) (ret := ret) hy hw ?_
  intro p e s m args below meth c s₁ B hml ht hv
  obtain ⟨⟨rfl, hsz, hH, hK, hE⟩, hNc, hSc⟩ := hv
  subst hsz
  have hl0 := lv_entry (vs.map zv) (n := maxL) (by rw [zent_len]; exact hlen)
  rw [lg_entry_eq]
  refine body (p, l, e, (headSpec ws rm).room, s, m, (vs.map zv).toArray, below, meth, c, G, A, _) ⟨B.exec, B.bytes, hml, findClass_of_methodNamed B.named, atoms_spec (ws := ws) B.pre, hK, hA, B.notSynchronized, hE, hl⟩ ht hNc hSc rfl rfl ⟨rfl, B.returns⟩ s.heap [] _ hH va_S.rf ?_
  rw [hls]
  exact ⟨hl0.1, hl0.2.1, fun q hq => hl0.2.2 q (zent_args vs _ 0 q hq)⟩
/-- one that says more is one that says less -/
theorem zMetL.mono {l : Launch} {sc : zSQ} {y : MethodName} {ws : List Cond} {rm : Room} {mc ms : Nat} {vs : List ZV} {S : ZM} {P P' : zP} (h : zMetL l sc y ws rm mc ms vs S P) (hp : ∀ (o : (Option ZV) ⊕ String) (S' : ZM), P o S' → P' o S') : zMetL l sc y ws rm mc ms vs S P' := by
  intro G A sz hA
  refine MetFree.mono (h G A sz hA) (fun a s q => q) (fun _ _ _ _ _ q => q) (fun a s o s' _ q => ?_)
  rcases q with ⟨⟨⟨v, S1, e, hp1, hh⟩, hF⟩, L, k1, k2⟩ | ⟨w, e, E, ce, L, ⟨⟨S1, hp1, hh⟩, hF⟩, k1, k2, k3, k4, k5, k6⟩
  · exact Or.inl ⟨⟨⟨v, S1, e, hp _ _ hp1, hh⟩, hF⟩, L, k1, k2⟩
  · exact Or.inr ⟨w, e, E, ce, L, ⟨⟨S1, hp _ _ hp1, hh⟩, hF⟩, k1, k2, k3, k4, k5, k6⟩
theorem zMet.mono {l : Launch} {y : MethodName} {ws : List Cond} {rm : Room} {mc ms : Nat} {vs : List ZV} {S : ZM} {P P' : zP} (h : zMet l y ws rm mc ms vs S P) (hp : ∀ (o : (Option ZV) ⊕ String) (S' : ZM), P o S' → P' o S') : zMet l y ws rm mc ms vs S P' := by
  intro G A sz hA
  refine MetFree.mono (h G A sz hA) (fun a s q => q) (fun _ _ _ _ _ q => q) (fun a s o s' _ q => ?_)
  rcases q with ⟨⟨⟨v, S1, e, hp1, hh⟩, hF⟩, L, k1, k2⟩ | ⟨w, e, E, ce, L, ⟨⟨S1, hp1, hh⟩, hF⟩, k1, k2, k3, k4, k5, k6⟩
  · exact Or.inl ⟨⟨⟨v, S1, e, hp _ _ hp1, hh⟩, hF⟩, L, k1, k2⟩
  · exact Or.inr ⟨w, e, E, ce, L, ⟨⟨S1, hp _ _ hp1, hh⟩, hF⟩, k1, k2, k3, k4, k5, k6⟩
section ZLW
variable {X : zX} {own : String} {cc : ByteArray} {nL : Nat} {Ts : List Cond} {k n : Nat} {S : ZM} {pc : Nat} {ls : List (Option ZV)} {st : List ZV}
variable {y : MethodName} {bytes : ByteArray} {maxL mc ms index : Nat} {ret : Option FieldType} {ws ws' : List Cond} {rm : Room} {P : zP} {hh : List (Nat × Nat × Nat × Nat)}
/-- a static call of a method of the law's, without handlers -/
theorem z_callL {sc : zSQ} (n0 : Nat) (as : List ZV) {stk : List ZV} (C : zC X own cc nL Ts) (hNc : zNc (xs X)) (hSc : zSc sc (xA X) (xs X)) (hM : zMetL (xl X) sc y ws rm mc ms as S P) (hst : stk = as.reverse ++ st) (hG : GoodIn Ts (va_wsS own index y ws)) (hw : ws = Cond.code y bytes maxL ret :: ws') (hrc : rm.cells = mc) (hrs : rm.slots = ms)
    (hd : y.cls ≠ "java/lang/invoke/MethodHandle" ∧ y.cls ≠ "java/lang/invoke/VarHandle" ∧ (parseMethodDescriptor y.desc).map (fun d => d.parameters.length) = some n0) (hn0 : as.length = n0) (hR : rm.frames + 1 ≤ (xR X).frames ∧ 8 + (maxL + 11) + rm.locals ≤ (xR X).locals)
    (hf : k + mc ≤ (xR X).cells ∧ n + ms ≤ (xR X).slots) (hcat : (st.map fun v => if zwide v = true then 2 else 1).sum ≤ 8) (d : decode cc pc = .ok (.invokestatic index, 3))
    (kk : ∀ (v : Option ZV) (S' : ZM), P (.inl v) S' → zW X nL (k + mc) (n + ms) S' (pc + 3) ls (v.toList ++ st)) (kx : ∀ (E : String) (S' : ZM), P (.inr E) S' → zT X nL (k + mc) (n + ms) S' pc ls st E) : zW X nL k n S pc ls stk := fun H locs la hH hS hl => by
  refine z_after (mc := mc) (ms := ms) (P := P) (vx_runS (index := index) (bytes := bytes) (maxL := maxL) (ret := ret) (ws := ws) (rm := rm) (As := as.map zv) (rest := st.map zv) ⟨C.1, C.2.1, C.2.2.1, C.o, C.t⟩ (hM (xG X) (xA X) H.size (fun q hq => C.A q (Nat.le_trans hS.1 hq))) (va_cwS as.length C.t hG hw hrc hrs (by rw [hn0]; exact hd) hR) ⟨fun a U g mk q => ⟨zPre.blind a U g mk q.1, zNc.moved (u := U) (U := U.calling g mk a) (Vm.Alike.refl U.vm) q.2.1, q.2.2.1.moved (u := U) (U := U.calling g mk a) (Vm.Alike.refl U.vm), q.2.2.2.1, q.2.2.2.2⟩, fun U hU hW => ?_⟩ rfl (by simp) hl.1 (by rw [hst, zv_map_rev]) (lv_room (by rw [z_sum]; exact hcat)) d hf) hS hl kk kx
  exact ⟨zPre.now C.K C.E hS hH U hU hW, hNc.moved hW.alike, hSc.now hS hU hW⟩
/-- the same of a method with handlers -/
theorem z_callLH {sc : zSQ} (n0 : Nat) (as : List ZV) {stk : List ZV} (C : zC X own cc nL Ts) (hNc : zNc (xs X)) (hSc : zSc sc (xA X) (xs X)) (hM : zMetL (xl X) sc y ws rm mc ms as S P) (hst : stk = as.reverse ++ st) (hG : GoodIn Ts (va_wsS own index y ws)) (hw : ws = Cond.codeWith y bytes maxL ret hh :: ws') (hrc : rm.cells = mc) (hrs : rm.slots = ms)
    (hd : y.cls ≠ "java/lang/invoke/MethodHandle" ∧ y.cls ≠ "java/lang/invoke/VarHandle" ∧ (parseMethodDescriptor y.desc).map (fun d => d.parameters.length) = some n0) (hn0 : as.length = n0) (hR : rm.frames + 1 ≤ (xR X).frames ∧ 8 + (maxL + 11) + rm.locals ≤ (xR X).locals)
    (hf : k + mc ≤ (xR X).cells ∧ n + ms ≤ (xR X).slots) (hcat : (st.map fun v => if zwide v = true then 2 else 1).sum ≤ 8) (d : decode cc pc = .ok (.invokestatic index, 3))
    (kk : ∀ (v : Option ZV) (S' : ZM), P (.inl v) S' → zW X nL (k + mc) (n + ms) S' (pc + 3) ls (v.toList ++ st)) (kx : ∀ (E : String) (S' : ZM), P (.inr E) S' → zT X nL (k + mc) (n + ms) S' pc ls st E) : zW X nL k n S pc ls stk := fun H locs la hH hS hl => by
  refine z_after (mc := mc) (ms := ms) (P := P) (vx_runSX (index := index) (bytes := bytes) (maxL := maxL) (ret := ret) (hh := hh) (ws := ws) (rm := rm) (As := as.map zv) (rest := st.map zv) ⟨C.1, C.2.1, C.2.2.1, C.o, C.t⟩ (hM (xG X) (xA X) H.size (fun q hq => C.A q (Nat.le_trans hS.1 hq))) (vx_cwSW as.length C.t hG hw hrc hrs (by rw [hn0]; exact hd) hR) ⟨fun a U g mk q => ⟨zPre.blind a U g mk q.1, zNc.moved (u := U) (U := U.calling g mk a) (Vm.Alike.refl U.vm) q.2.1, q.2.2.1.moved (u := U) (U := U.calling g mk a) (Vm.Alike.refl U.vm), q.2.2.2.1, q.2.2.2.2⟩, fun U hU hW => ?_⟩ rfl (by simp) hl.1 (by rw [hst, zv_map_rev]) (lv_room (by rw [z_sum]; exact hcat)) d hf) hS hl kk kx
  exact ⟨zPre.now C.K C.E hS hH U hU hW, hNc.moved hW.alike, hSc.now hS hU hW⟩
theorem z_sld {sc : zSQ} {i : Int32} (C : zC X own cc nL Ts) (hX : zSc sc (xA X) (xs X)) (hi : vp_in i sc.2.1) (d : decode cc pc = .ok (.iaload, 1)) (h : zW X nL k n S (pc + 1) ls (zi (sc.2.2 i.toNatClampNeg) :: st)) : zW X nL k n S pc ls (zi i :: zr (some sc.1) :: st) := fun H locs la hH hS hl => va_sld C.1 C.2.1 hX.1 hX.2.1 hX.2.2 hS hi d (h H locs la hH hS hl)
theorem z_slen {sc : zSQ} (C : zC X own cc nL Ts) (hX : zSc sc (xA X) (xs X)) (d : decode cc pc = .ok (.arraylength, 1)) (h : zW X nL k n S (pc + 1) ls (zi (nI sc.2.1) :: st)) : zW X nL k n S pc ls (zr (some sc.1) :: st) := fun H locs la hH hS hl => va_slen C.1 C.2.1 hX.1 hX.2.1 hX.2.2 hS d (h H locs la hH hS hl)
theorem z_irem {x y9 : Int32} (hne : ¬ y9 = 0) (C : zC X own cc nL Ts) (d : decode cc pc = .ok (.irem, 1)) (h : zW X nL k n S (pc + 1) ls (zi (x - x / y9 * y9) :: st)) : zW X nL k n S pc ls (zi y9 :: zi x :: st) := fun H locs la hH hS hl => lv_irem C.1 C.2.1 d hne (h H locs la hH hS hl)
theorem z_mmax {x y9 : Int32} {index : Nat} (C : zC X own cc nL Ts) (h1 : Cond.methodLink own index Lib.Math.max.name ∈ Ts) (h2 : Cond.static Lib.Math.max.name ∈ Ts) (h3 : Cond.initialized "java/lang/Math" ∈ Ts) (h4 : Cond.code Lib.Math.max.name Lib.Math.max.code 2 (some .int) ∈ Ts) (hf : 1 ≤ (xR X).frames) (hlo : (st.map fun v => if zwide v = true then 2 else 1).sum + 13 ≤ (xR X).locals) (hc : k ≤ (xR X).cells) (hs : n ≤ (xR X).slots) (d : decode cc pc = .ok (.invokestatic index, 3)) (h : zW X nL k n S (pc + 3) ls (zi (if x < y9 then y9 else x) :: st)) : zW X nL k n S pc ls (zi y9 :: zi x :: st) := fun H locs la hH hS hl =>
  va_mmax C.1 C.2.1 (C.2.2.1.trans hl.1.symm) C.o (C.t _ h1) (C.t _ h2) (C.t _ h3) (C.t _ h4) hf (by rw [z_sum]; exact hlo) hc hs d (h H locs la hH hS hl)
/-- caught here, by the i-th handler -/
theorem z_catch {E : String} (i : Nat) {q : Nat × Nat × Nat × Nat} (C : zC X own cc nL Ts) (hH : zHd X hh) (hNc : zNc (xs X)) (hi : hh[i]? = some q) (hEx : E ∈ zEx)
    (hpass : ∀ z ∈ hh.take i, z.2.2.2 ≠ 0 ∧ ∃ nm : String, Cond.classLink own z.2.2.2 nm ∈ Ts ∧ nm ∈ zEx ∧ E ≠ nm) (hcov : q.1 ≤ pc ∧ pc < q.2.1) (h0 : q.2.2.2 ≠ 0) (hlink : Cond.classLink own q.2.2.2 E ∈ Ts)
    (kk : ∀ r : Option Nat, zW X nL k n S q.2.2.1 ls [zr r]) : zT X nL k n S pc ls st E := fun H locs la a ce hz hS hl hcell hv hcl => by
  have hsp : tableOf hh = tableOf (hh.take i) ++ (⟨q.1, q.2.1, q.2.2.1, q.2.2.2⟩ : ExceptionTableEntry) :: tableOf (hh.drop (i + 1)) := by
    have e : hh = hh.take i ++ q :: hh.drop (i + 1) := by
      conv => lhs; rw [← List.take_append_drop i hh]
      congr 1
      rw [List.drop_eq_getElem_cons (List.getElem?_eq_some_iff.mp hi).1, (List.getElem?_eq_some_iff.mp hi).2]
    conv => lhs; rw [e]
    unfold tableOf
    rw [List.map_append, List.map_cons]
  refine vx_catch C.o (tableOf (hh.take i)) ⟨q.1, q.2.1, q.2.2.1, q.2.2.2⟩ (tableOf (hh.drop (i + 1))) (hH.trans hsp) (fun z hz' => ?_) ?_ h0 (C.t _ hlink) (va_Nw.use rfl (C.E.2.2.2.2.1 E hEx)) hcell hv hcl ?_
  · unfold tableOf at hz'
    obtain ⟨w, hw, rfl⟩ := List.mem_map.mp hz'
    obtain ⟨h1, nm, h2, h3, h4⟩ := hpass w hw
    exact Or.inr ⟨h1, nm, C.t _ h2, hNc E hEx nm h3 h4⟩
  · unfold covers
    simp only [Bool.and_eq_true, decide_eq_true_eq]
    exact hcov
  · exact kk (some a) H locs la hz hS hl
end ZLW
/-! two sides of one memory -/
def rsOff (F : Nat → Bool) (S : ZM) : ZM := ((fun b => bif F b then 0 else S.1 b), S.2)
def mrg (F : Nat → Bool) (S S1 : ZM) : ZM := ((fun b => bif F b then S.1 b else S1.1 b), (fun k b => bif F b then S.2.1 k b else S1.2.1 k b), (fun k b => bif F b then S.2.2.1 k b else S1.2.2.1 k b), (fun k b => bif F b then S.2.2.2.1 k b else S1.2.2.2.1 k b), (fun b => bif F b then S.2.2.2.2.1 b else S1.2.2.2.2.1 b), (fun b => bif F b then S.2.2.2.2.2.1 b else S1.2.2.2.2.2.1 b), (fun b => bif F b then S.2.2.2.2.2.2.1 b else S1.2.2.2.2.2.2.1 b), (fun b => bif F b then S.2.2.2.2.2.2.2.1 b else S1.2.2.2.2.2.2.2.1 b), (fun b => bif F b then S.2.2.2.2.2.2.2.2 b else S1.2.2.2.2.2.2.2.2 b))
/-- at b the two memories are one -/
def atE (S S1 : ZM) (b : Nat) : Prop := mK S1 b = mK S b ∧ mN S1 b = mN S b ∧ (∀ k : Nat, mI S1 k b = mI S k b ∧ mQ S1 k b = mQ S k b ∧ mJ S1 k b = mJ S k b) ∧ tI S1 b = tI S b ∧ tQ S1 b = tQ S b ∧ tJ S1 b = tJ S b ∧ tD S1 b = tD S b
theorem atE.z {S S1 : ZM} {b : Nat} (h : atE S S1 b) (G : zG) (κ : Nat) : zcell G S1 b κ = zcell G S b κ := by
  obtain ⟨h1, h2, h3, h4, h5, h6, h7⟩ := h
  unfold zcell
  simp only [fun k => (h3 k).1, fun k => (h3 k).2.1, fun k => (h3 k).2.2, h2, h4, h5, h6, h7]
theorem mrg_in {F : Nat → Bool} {S S1 : ZM} {b : Nat} (h : F b = true) : atE S (mrg F S S1) b := by
  unfold atE mrg
  simp [mK, mN, mI, mQ, mJ, tI, tQ, tJ, tD, h]
theorem mrg_out {F : Nat → Bool} {S S1 : ZM} {b : Nat} (h : F b = false) : atE S1 (mrg F S S1) b := by
  unfold atE mrg
  simp [mK, mN, mI, mQ, mJ, tI, tQ, tJ, tD, h]
theorem rsOff_out {F : Nat → Bool} {S : ZM} {b : Nat} (h : F b = false) : atE S (rsOff F S) b := by
  unfold atE rsOff
  simp [mK, mN, mI, mQ, mJ, tI, tQ, tJ, tD, h]
theorem rsOff_in {F : Nat → Bool} {S : ZM} {b : Nat} (h : F b = true) : mK (rsOff F S) b = 0 := by
  unfold rsOff
  simp [mK, h]
theorem zkn_cell {G : zG} {S : ZM} {b κ : Nat} (h : zkn κ = true) : ∃ e : va_E, zcell G S b κ = some e := by
  cases hz : zcell G S b κ with
  | none => rw [z_kn hz] at h; cases h
  | some e => exact ⟨e, rfl⟩
/-- a call whose memory lies off F leaves F as it is -/
theorem zMet.off {l : Launch} {y : MethodName} {ws : List Cond} {rm : Room} {mc ms : Nat} {vs : List ZV} {S : ZM} {P : zP} (F : Nat → Bool) (h : zMet l y ws rm mc ms vs (rsOff F S) P) : zMet l y ws rm mc ms vs S (fun o S' => ∃ S1 : ZM, P o S1 ∧ S' = mrg F S S1 ∧ ((∀ b : Nat, F b = true → zkn (mK S b) = true) → ∀ b : Nat, zkn (mK S1 b) = true → F b = false)) := by
  intro G A sz hA
  have h0 := h G (fun q => A q ∧ (F q = false ∨ sz ≤ q)) sz (fun q hq => ⟨hA q hq, Or.inr hq⟩)
  have cells : ∀ (S1 : ZM) (st t : State), st.heap.size = sz → zH G A S st.heap → va_F (fun q => A q ∧ (F q = false ∨ sz ≤ q)) st t → zH G (fun q => A q ∧ (F q = false ∨ sz ≤ q)) S1 t.heap → zH G A (mrg F S S1) t.heap ∧ va_F A st t ∧ ((∀ b : Nat, F b = true → zkn (mK S b) = true) → ∀ b : Nat, zkn (mK S1 b) = true → F b = false) := by
    intro S1 st t hsz hS hF h1
    refine ⟨fun b e he => ?_, ⟨hF.1, fun q q1 q2 => hF.2 q q1 (fun z => q2 z.1)⟩, fun hk b hb => ?_⟩
    · cases hfb : F b with
      | true =>
        rw [(mrg_in hfb).1, (mrg_in hfb).z] at he
        obtain ⟨w1, w2⟩ := hS b e he
        have hlt : b < sz := by rw [← hsz]; exact w1.lt
        exact ⟨w1.kept (hF.2 b (by rw [hsz]; exact hlt) (fun z => by rcases z.2 with z | z; rw [hfb] at z; cases z; omega)), w2⟩
      | false =>
        rw [(mrg_out hfb).1, (mrg_out hfb).z] at he
        obtain ⟨w1, w2⟩ := h1 b e he
        exact ⟨w1, w2.1⟩
    · obtain ⟨e, he⟩ := zkn_cell (G := G) (S := S1) (b := b) hb
      obtain ⟨w1, w2, w3⟩ := h1 b e he
      rcases w3 with w3 | w3
      · exact w3
      · cases hfb : F b with
        | false => rfl
        | true =>
          obtain ⟨e2, he2⟩ := zkn_cell (G := G) (S := S) (b := b) (hk b hfb)
          have := (hS b e2 he2).1.lt
          omega
  refine MetFree.mono h0 (fun a s q => ?_) (fun _ _ _ _ _ q => q) (fun a s o s' hp q => ?_)
  · obtain ⟨q1, q2, q3, q4, q5⟩ := q
    refine ⟨q1, q2, fun b e he => ?_, q4, ?_⟩
    · cases hfb : F b with
      | true => rw [rsOff_in hfb, zcell_0] at he; cases he
      | false =>
        rw [(rsOff_out hfb).1, (rsOff_out hfb).z] at he
        obtain ⟨w1, w2⟩ := q3 b e he
        exact ⟨w1, w2, Or.inl hfb⟩
    · obtain ⟨e1, e2, e3⟩ := q5
      exact ⟨e1.narrow (fun q z => z.1), e2.narrow (fun q z => z.1), e3⟩
  · obtain ⟨p1, p2, p3, p4, p5⟩ := hp
    rcases q with ⟨⟨⟨v, S1, e, hp1, hh⟩, hF⟩, L, k1, k2⟩ | ⟨w, e, E, ce, L, ⟨⟨S1, hp1, hh⟩, hF⟩, k1, k2, k3, k4, k5, k6⟩
    · obtain ⟨r1, r2, r3⟩ := cells S1 s s' p2 p3 hF hh
      exact Or.inl ⟨⟨⟨v, mrg F S S1, e, ⟨S1, hp1, rfl, r3⟩, r1⟩, r2⟩, L, k1, fun q hq => (k2 q hq).1⟩
    · obtain ⟨r1, r2, r3⟩ := cells S1 s s' p2 p3 hF hh
      exact Or.inr ⟨w, e, E, ce, L, ⟨⟨mrg F S S1, ⟨S1, hp1, rfl, r3⟩, r1⟩, r2⟩, k1, k2, k3, k4, k5, fun q hq => (k6 q hq).1⟩
/-- the same of a method of the law's -/
theorem zMetL.off {l : Launch} {sc : zSQ} {y : MethodName} {ws : List Cond} {rm : Room} {mc ms : Nat} {vs : List ZV} {S : ZM} {P : zP} (F : Nat → Bool) (h : zMetL l sc y ws rm mc ms vs (rsOff F S) P) : zMetL l sc y ws rm mc ms vs S (fun o S' => ∃ S1 : ZM, P o S1 ∧ S' = mrg F S S1 ∧ ((∀ b : Nat, F b = true → zkn (mK S b) = true) → ∀ b : Nat, zkn (mK S1 b) = true → F b = false)) := by
  intro G A sz hA
  have h0 := h G (fun q => A q ∧ (F q = false ∨ sz ≤ q)) sz (fun q hq => ⟨hA q hq, Or.inr hq⟩)
  have cells : ∀ (S1 : ZM) (st t : State), st.heap.size = sz → zH G A S st.heap → va_F (fun q => A q ∧ (F q = false ∨ sz ≤ q)) st t → zH G (fun q => A q ∧ (F q = false ∨ sz ≤ q)) S1 t.heap → zH G A (mrg F S S1) t.heap ∧ va_F A st t ∧ ((∀ b : Nat, F b = true → zkn (mK S b) = true) → ∀ b : Nat, zkn (mK S1 b) = true → F b = false) := by
    intro S1 st t hsz hS hF h1
    refine ⟨fun b e he => ?_, ⟨hF.1, fun q q1 q2 => hF.2 q q1 (fun z => q2 z.1)⟩, fun hk b hb => ?_⟩
    · cases hfb : F b with
      | true =>
        rw [(mrg_in hfb).1, (mrg_in hfb).z] at he
        obtain ⟨w1, w2⟩ := hS b e he
        have hlt : b < sz := by rw [← hsz]; exact w1.lt
        exact ⟨w1.kept (hF.2 b (by rw [hsz]; exact hlt) (fun z => by rcases z.2 with z | z; rw [hfb] at z; cases z; omega)), w2⟩
      | false =>
        rw [(mrg_out hfb).1, (mrg_out hfb).z] at he
        obtain ⟨w1, w2⟩ := h1 b e he
        exact ⟨w1, w2.1⟩
    · obtain ⟨e, he⟩ := zkn_cell (G := G) (S := S1) (b := b) hb
      obtain ⟨w1, w2, w3⟩ := h1 b e he
      rcases w3 with w3 | w3
      · exact w3
      · cases hfb : F b with
        | false => rfl
        | true =>
          obtain ⟨e2, he2⟩ := zkn_cell (G := G) (S := S) (b := b) (hk b hfb)
          have := (hS b e2 he2).1.lt
          omega
  refine MetFree.mono h0 (fun a s q => ?_) (fun _ _ _ _ _ q => q) (fun a s o s' hp q => ?_)
  · obtain ⟨⟨q1, q2, q3, q4, q5⟩, qn, qs1, qs2, qs3⟩ := q
    refine ⟨⟨q1, q2, fun b e he => ?_, q4, ?_⟩, qn, qs1, qs2, fun z => qs3 z.1⟩
    · cases hfb : F b with
      | true => rw [rsOff_in hfb, zcell_0] at he; cases he
      | false =>
        rw [(rsOff_out hfb).1, (rsOff_out hfb).z] at he
        obtain ⟨w1, w2⟩ := q3 b e he
        exact ⟨w1, w2, Or.inl hfb⟩
    · obtain ⟨e1, e2, e3⟩ := q5
      exact ⟨e1.narrow (fun q z => z.1), e2.narrow (fun q z => z.1), e3⟩
  · obtain ⟨⟨p1, p2, p3, p4, p5⟩, -⟩ := hp
    rcases q with ⟨⟨⟨v, S1, e, hp1, hh⟩, hF⟩, L, k1, k2⟩ | ⟨w, e, E, ce, L, ⟨⟨S1, hp1, hh⟩, hF⟩, k1, k2, k3, k4, k5, k6⟩
    · obtain ⟨r1, r2, r3⟩ := cells S1 s s' p2 p3 hF hh
      exact Or.inl ⟨⟨⟨v, mrg F S S1, e, ⟨S1, hp1, rfl, r3⟩, r1⟩, r2⟩, L, k1, fun q hq => (k2 q hq).1⟩
    · obtain ⟨r1, r2, r3⟩ := cells S1 s s' p2 p3 hF hh
      exact Or.inr ⟨w, e, E, ce, L, ⟨⟨mrg F S S1, ⟨S1, hp1, rfl, r3⟩, r1⟩, r2⟩, k1, k2, k3, k4, k5, fun q hq => (k6 q hq).1⟩
theorem ext_mrg {F : Nat → Bool} {S S1 : ZM} (h : ∀ b : Nat, zkn (mK S1 b) = true → F b = false) : ext S1 (rsOff F (mrg F S S1)) := fun b hb => by
  have hf := h b hb
  obtain ⟨a1, a2, a3, a4, a5, a6, a7⟩ := rsOff_out (S := mrg F S S1) hf
  obtain ⟨b1, b2, b3, b4, b5, b6, b7⟩ := mrg_out (S := S) (S1 := S1) hf
  exact ⟨a1.trans b1, a2.trans b2, fun k => ⟨(a3 k).1.trans (b3 k).1, (a3 k).2.1.trans (b3 k).2.1, (a3 k).2.2.trans (b3 k).2.2⟩, a4.trans b4, a5.trans b5⟩
theorem ext_off {F : Nat → Bool} {S S1 : ZM} (h : ∀ b : Nat, F b = false → atE S S1 b) : ext (rsOff F S) (rsOff F S1) := fun b hb => by
  have hf : F b = false := by
    cases hq : F b with
    | false => rfl
    | true => rw [rsOff_in hq] at hb; cases hb
  obtain ⟨a1, a2, a3, a4, a5, a6, a7⟩ := rsOff_out (S := S) hf
  obtain ⟨c1, c2, c3, c4, c5, c6, c7⟩ := rsOff_out (S := S1) hf
  obtain ⟨b1, b2, b3, b4, b5, b6, b7⟩ := h b hf
  exact ⟨(c1.trans b1).trans a1.symm, (c2.trans b2).trans a2.symm, fun k => ⟨((c3 k).1.trans (b3 k).1).trans (a3 k).1.symm, ((c3 k).2.1.trans (b3 k).2.1).trans (a3 k).2.1.symm, ((c3 k).2.2.trans (b3 k).2.2).trans (a3 k).2.2.symm⟩, (c4.trans b4).trans a4.symm, (c5.trans b5).trans a5.symm⟩
def offd (F : Nat → Bool) (S1 : ZM) : Prop := ∀ b : Nat, zkn (mK S1 b) = true → F b = false
theorem ini_off {S : ZM} {a : Nat} (f0 : zkn (mK S a) = false) : ini (rsOff (fun b => zkn (mK S b)) (nO S a 6)) (fun _ => a) 1 := by
  refine ⟨?_, fun k => if_pos rfl, fun k => if_pos rfl, if_pos rfl, fun i h1 h2 => absurd h1 (by omega), fun i j h1 h2 _ => by omega⟩
  show (bif zkn (mK S a) then 0 else up1 S.1 a 6 a) = 6
  rw [f0, up1_self]; rfl
theorem atE.trans {S S1 S2 : ZM} {b : Nat} (h : atE S S1 b) (h' : atE S1 S2 b) : atE S S2 b := by
  obtain ⟨a1, a2, a3, a4, a5, a6, a7⟩ := h
  obtain ⟨b1, b2, b3, b4, b5, b6, b7⟩ := h'
  exact ⟨b1.trans a1, b2.trans a2, fun k => ⟨(b3 k).1.trans (a3 k).1, (b3 k).2.1.trans (a3 k).2.1, (b3 k).2.2.trans (a3 k).2.2⟩, b4.trans a4, b5.trans a5, b6.trans a6, b7.trans a7⟩
theorem atE_nO {S : ZM} {a κ b : Nat} (h : b ≠ a) : atE S (nO S a κ) b := ⟨if_neg h, rfl, fun k => ⟨if_neg h, if_neg h, if_neg h⟩, rfl, rfl, rfl, rfl⟩
theorem atE_nA {S : ZM} {a κ n b : Nat} (h : b ≠ a) : atE S (nA S a κ n) b := ⟨if_neg h, if_neg h, fun k => ⟨rfl, rfl, rfl⟩, if_neg h, if_neg h, if_neg h, if_neg h⟩
theorem atE.kn {S S1 : ZM} {b : Nat} (h : atE S S1 b) (hb : zkn (mK S b) = true) : zkn (mK S1 b) = true := by rw [h.1]; exact hb
