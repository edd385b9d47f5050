/-! rows of the JDK's members: Object's constructor, min, arraycopy between int arrays; constructors of ours -/
/-- the ints of the array a replaced -/
abbrev eR (S : ZM) (a : Nat) (f : Nat → Int32) : ZM := (S.1, S.2.1, S.2.2.1, S.2.2.2.1, S.2.2.2.2.1, up1 S.2.2.2.2.2.1 a f, S.2.2.2.2.2.2)
theorem zcell_eR (G : zG) (S : ZM) (x : Nat) (f : Nat → Int32) {b : Nat} (h : b ≠ x) (κ : Nat) : zcell G (eR S x f) b κ = zcell G S b κ := by simp only [zcell, mK, mI, mQ, mJ, mN, tI, tQ, tJ, tD, eR, up1_ne h]
section ZQ
variable {X : zX} {own : String} {cc : ByteArray} {nL : Nat} {Ts : List Cond} {k n : Nat} {S : ZM} {pc : Nat} {ls : List (Option ZV)} {st : List ZV}
theorem z_objInit {a idx : Nat} (C : zC X own cc nL Ts) (h1 : Cond.methodLink own idx objectInit ∈ Ts) (h2 : Cond.instanceMethod objectInit ∈ Ts) (h3 : Cond.code objectInit ⟨#[0xb1]⟩ 1 none ∈ Ts) (hf : 1 ≤ (xR X).frames) (hlo : (st.map fun v => if zwide v = true then 2 else 1).sum + 12 ≤ (xR X).locals) (d : decode cc pc = .ok (.invokespecial idx, 3)) (h : zW X nL k n S (pc + 3) ls st) : zW X nL k n S pc ls (zr (some a) :: st) := fun H locs la hH hS hl => by
  refine W.objInit C.1 C.2.1 C.o (C.t _ h1) (C.t _ h2) (C.t _ h3) (g := F0 (xm X) pc la (.ref a :: st.map zv)) (a := a) (rest := st.map zv) rfl (hl.1.trans C.2.2.1.symm) rfl d hf ?_ (h H locs la hH hS hl)
  show 2 * 0 + _ + 12 ≤ _
  rw [z_sum]; omega
theorem z_mmin {x y : Int32} {index : Nat} (C : zC X own cc nL Ts) (h1 : Cond.methodLink own index Lib.Math.min.name ∈ Ts) (h2 : Cond.static Lib.Math.min.name ∈ Ts) (h3 : Cond.initialized "java/lang/Math" ∈ Ts) (h4 : Cond.code Lib.Math.min.name Lib.Math.min.code 2 (some .int) ∈ Ts) (hf : 1 ≤ (xR X).frames) (hlo : (st.map fun v => if zwide v = true then 2 else 1).sum + 13 ≤ (xR X).locals) (hc : k ≤ (xR X).cells) (hs : n ≤ (xR X).slots) (d : decode cc pc = .ok (.invokestatic index, 3)) (h : zW X nL k n S (pc + 3) ls (zi (if y < x then y else x) :: st)) : zW X nL k n S pc ls (zi y :: zi x :: st) := fun H locs la hH hS hl =>
  va_mmin C.1 C.2.1 (C.2.2.1.trans hl.1.symm) C.o (C.t _ h1) (C.t _ h2) (C.t _ h3) (C.t _ h4) hf (by rw [z_sum]; exact hlo) hc hs d (h H locs la hH hS hl)
theorem z_copy {a0 a : Nat} {sp dp m : Int32} {index : Nat} (C : zC X own cc nL Ts) (g1 : Cond.methodLink own index arraycopyName ∈ Ts) (g2 : Cond.native arraycopyName ∈ Ts) (g3 : Cond.static arraycopyName ∈ Ts) (g4 : Cond.initialized "java/lang/System" ∈ Ts) (hk0 : mK S a0 = 10) (hk1 : mK S a = 10)
    (h1 : ¬ sp < 0) (h2 : ¬ dp < 0) (h3 : ¬ m < 0) (h4 : sp.toNatClampNeg + m.toNatClampNeg ≤ mN S a0) (h5 : dp.toNatClampNeg + m.toNatClampNeg ≤ mN S a) (hf : 1 ≤ (xR X).frames) (hlo : (st.map fun v => if zwide v = true then 2 else 1).sum + (nativeFrameWords "java/lang/System" "arraycopy" 5 + 11) ≤ (xR X).locals) (d : decode cc pc = .ok (.invokestatic index, 3))
    (h : zW X nL k n (eR S a (va_cpy (tI S a0) (tI S a) sp.toNatClampNeg dp.toNatClampNeg m.toNatClampNeg)) (pc + 3) ls st) : zW X nL k n S pc ls (zi m :: zi dp :: zr (some a) :: zi sp :: zr (some a0) :: st) := fun H locs la hH hS hl => by
  have nn : ∀ z : Int32, ¬ z < 0 → z.toInt = (z.toNatClampNeg : Int) := by
    intro z hz
    have hz0 : (0 : Int) ≤ z.toInt := by
      have := Int32.not_lt.mp hz
      simpa using Int32.le_iff_toInt_le.mp this
    show z.toInt = ((z.toInt.toNat : Nat) : Int)
    omega
  intro T hT X9
  obtain ⟨hat0, hA0⟩ := hH a0 _ (hk0 ▸ zcell_10 _ _ _)
  obtain ⟨hat1, hA1⟩ := hH a _ (hk1 ▸ zcell_10 _ _ _)
  have hc0 : H[a0]? = some (vp_cell ((xG X).2.2 0) (mN S a0, .inl (tI S a0))) := hat0
  have hc1 : H[a]? = some (vp_cell ((xG X).2.2 0) (mN S a, .inl (tI S a))) := hat1
  obtain ⟨-, k0, hk0, cm0, hkk0⟩ := (C.K.2 0 _ rfl).1 (mN S a0) (fun j => .int (tI S a0 j))
  obtain ⟨-, k1, hk1', cm1, hkk1⟩ := (C.K.2 0 _ rfl).1 (mN S a) (fun j => .int (tI S a j))
  obtain ⟨vm', X', step⟩ := X9.arraycopy C.1 C.o (C.t _ g1) (C.t _ g2) (C.t _ g3) (C.t _ g4) (src := a0) (dst := a) (cs := vp_cell ((xG X).2.2 0) (mN S a0, .inl (tI S a0))) (cd := vp_cell ((xG X).2.2 0) (mN S a, .inl (tI S a))) (srcPos := sp) (destPos := dp) (n := m) (by rw [hT]; exact hc0) (by rw [hT]; exact hc1)
    (fun _ h => by cases h) (fun _ h => by cases h) (fun h => by cases h) (fun h => by cases h) hk0 hk1' hkk0 hkk1 (by simp [refKind]) h1 h2 h3
    (by rw [nn sp h1, nn m h3]; show ¬ _ > ((arrV ((xG X).2.2 0) (mN S a0) (fun j => .int (tI S a0 j))).slots.size : Int); rw [arrV_size]; omega)
    (by rw [nn dp h2, nn m h3]; show ¬ _ > ((arrV ((xG X).2.2 0) (mN S a) (fun j => .int (tI S a j))).slots.size : Int); rw [arrV_size]; omega)
    (fun vm₁ _ i hi => by
      have e : (vp_cell ((xG X).2.2 0) (mN S a0, .inl (tI S a0))).slots.getD (sp.toNatClampNeg + i) .null = .int (tI S a0 (sp.toNatClampNeg + i)) := by
        show (arrV ((xG X).2.2 0) (mN S a0) (fun j => .int (tI S a0 j))).slots.getD _ _ = _
        rw [Array.getD_eq_getD_getElem?, arrV_read _ _ (by omega)]
        rfl
      refine ⟨?_, ?_⟩
      · rw [e]; rfl
      · rw [e]; exact trivial)
    (g := F0 (xm X) pc la (.int m :: .int dp :: .ref a :: .int sp :: .ref a0 :: st.map zv)) rfl (hl.1.trans C.2.2.1.symm) (rest := st.map zv) rfl (by rw [C.2.1]; exact d) hf (by show 2 * 0 + _ + _ ≤ _; rw [z_sum]; omega)
  have e1 : copied (vp_cell ((xG X).2.2 0) (mN S a0, .inl (tI S a0))) (vp_cell ((xG X).2.2 0) (mN S a, .inl (tI S a))) sp dp m = vp_cell ((xG X).2.2 0) (mN S a, .inl (va_cpy (tI S a0) (tI S a) sp.toNatClampNeg dp.toNatClampNeg m.toNatClampNeg)) := va_copied (fun z => .int z) _ _ (tI S a0) (tI S a) h4
  rw [e1] at X' step
  have hl2 : a < H.size := (Array.getElem?_eq_some_iff.mp hc1).1
  generalize hcell : vp_cell ((xG X).2.2 0) (mN S a, .inl (va_cpy (tI S a0) (tI S a) sp.toNatClampNeg dp.toNatClampNeg m.toNatClampNeg)) = cell at X' step
  have hheap : ((T.setVm vm').setCell a cell).heap = H.setIfInBounds a cell := by rw [← hT]; rfl
  have oq : ∀ q : Nat, q ≠ a → (H.setIfInBounds a cell)[q]? = H[q]? := fun q hq => by simp [Array.getElem?_setIfInBounds, Ne.symm hq]
  obtain ⟨t, a1, b1⟩ := h _ _ la (hH.write (H1 := H.setIfInBounds a cell) (a := a) oq (fun b hb => zcell_eR _ _ _ _ hb _) (fun e9 h9 => by
      have h9 : zcell (xG X) (eR S a (va_cpy (tI S a0) (tI S a) sp.toNatClampNeg dp.toNatClampNeg m.toNatClampNeg)) a (mK S a) = some e9 := h9
      rw [hk1, zcell_10] at h9
      cases h9
      refine ⟨?_, hA1⟩
      show (H.setIfInBounds a cell)[a]? = some (vp_cell _ _)
      rw [← hcell]
      simp [Array.getElem?_setIfInBounds, hl2, tI, mN, eR, up1_self])) ⟨by simp; exact hS.1, fun q g1 g2 => by
      rw [oq q (fun e => g2 (by rw [e]; exact hA1))]
      exact hS.2.1 q g1 g2, fun q hq => by
      rcases List.mem_append.mp hq with h | h
      · exact hS.2.2 q h
      · obtain ⟨z, -, hz⟩ := List.mem_map.mp h
        rw [← hz]
        exact hA1⟩ hl _ hheap X'
  exact ⟨t, step t a1, b1⟩
variable {y : MethodName} {bytes : ByteArray} {maxL mc ms index : Nat} {ret : Option FieldType} {ws ws' : List Cond} {rm : Room} {P : zP}
/-- a constructor of ours, on a new object -/
theorem z_callI {b : Nat} (n0 : Nat) (as : List ZV) {stk : List ZV} (C : zC X own cc nL Ts) (hM : zMet (xl X) y ws rm mc ms (zr (some b) :: as) S P) (hst : stk = as.reverse ++ zr (some b) :: st) (hG : GoodIn Ts ws) (hw : ws = Cond.code y bytes maxL none :: ws') (hrc : rm.cells = mc) (hrs : rm.slots = ms) (hi1 : Cond.initialized y.cls ∈ Ts) (hi2 : Cond.methodLink own index y ∈ Ts) (hi3 : Cond.instanceMethod y ∈ Ts) (hy1 : y.name = "<init>")
    (hd : y.cls ≠ "java/lang/invoke/MethodHandle" ∧ y.cls ≠ "java/lang/invoke/VarHandle" ∧ (parseMethodDescriptor y.desc).map (fun d => d.parameters.length) = some n0) (hn0 : as.length = n0) (hR : rm.frames + 1 ≤ (xR X).frames ∧ 8 + (maxL + 11) + rm.locals ≤ (xR X).locals)
    (hf : k + mc ≤ (xR X).cells ∧ n + ms ≤ (xR X).slots) (hcat : (st.map fun v => if zwide v = true then 2 else 1).sum ≤ 8) (d : decode cc pc = .ok (.invokespecial index, 3))
    (kk : ∀ (v : Option ZV) (S' : ZM), P (.inl v) S' → zW X nL (k + mc) (n + ms) S' (pc + 3) ls (v.toList ++ st)) (kx : ∀ (E : String) (S' : ZM), P (.inr E) S' → zT X nL (k + mc) (n + ms) S' pc ls st E) : zW X nL k n S pc ls stk := fun H locs la hH hS hl => by
  refine z_after (mc := mc) (ms := ms) (P := P) (vx_runI (index := index) (bytes := bytes) (maxL := maxL) (ws := ws) (rm := rm) (As := as.map zv) (rest := st.map zv) ⟨C.1, C.2.1, C.2.2.1, C.o, C.t⟩ (hM (xG X) (xA X) H.size (fun q hq => C.A q (Nat.le_trans hS.1 hq))) (cwI as.length C.t hG hw hrc hrs (C.t _ hi1) (C.t _ hi2) (C.t _ hi3) hy1 (by rw [hn0]; exact hd) hR) ⟨zPre.blind, fun U hU hW => ?_⟩ rfl (by simp) hl.1 (by rw [hst, zv_map_rev]; rfl) (lv_room (by rw [z_sum]; exact hcat)) d hf) hS hl kk kx
  exact zPre.now C.K C.E hS hH U hU hW
end ZQ
theorem zgoodI {LW : List Cond} (hg : LW.all goodWord = true) {h cd : Cond} (h5 : cd ∈ LW) : GoodIn (h :: LW) (cd :: LW) := by
  have key : ∀ w ∈ cd :: LW, w ∈ LW := by
    intro w hw
    rcases List.mem_cons.mp hw with rfl | hw
    · exact h5
    · exact hw
  exact fun w hw => ⟨List.mem_cons_of_mem _ (key w hw), good_of_word (List.all_eq_true.mp hg w (key w hw))⟩
