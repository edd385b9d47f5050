/-! calls by one word list a side; small helps -/
theorem zgoodV {LW : List Cond} (hg : LW.all goodWord = true) {h cd : Cond} {own : String} {idx : Nat} {y : MethodName} (h1 : Cond.methodLink own idx y ∈ LW) (h2 : Cond.instanceMethod y ∈ LW) (h3 : Cond.selects y.cls y y ∈ LW) (h4 : Cond.initialized y.cls ∈ LW) (h5 : cd ∈ LW) : GoodIn (h :: LW) (wsV own idx y.cls y (cd :: LW)) := by
  have key : ∀ w ∈ wsV own idx y.cls y (cd :: LW), w ∈ LW := by
    intro w hw
    simp only [wsV, List.mem_append, List.mem_cons, List.not_mem_nil, or_false] at hw
    rcases hw with (rfl | rfl | rfl | rfl) | rfl | hw <;> assumption
  exact fun w hw => ⟨List.mem_cons_of_mem _ (key w hw), good_of_word (List.all_eq_true.mp hg w (key w hw))⟩
theorem zgoodS {LW : List Cond} (hg : LW.all goodWord = true) {h cd : Cond} {own : String} {idx : Nat} {y : MethodName} (h1 : Cond.methodLink own idx y ∈ LW) (h2 : Cond.static y ∈ LW) (h4 : Cond.initialized y.cls ∈ LW) (h5 : cd ∈ LW) : GoodIn (h :: LW) (va_wsS own idx y (cd :: LW)) := by
  have key : ∀ w ∈ va_wsS own idx y (cd :: LW), w ∈ LW := by
    intro w hw
    simp only [va_wsS, List.mem_append, List.mem_cons, List.not_mem_nil, or_false] at hw
    rcases hw with (rfl | rfl | rfl) | rfl | hw <;> assumption
  exact fun w hw => ⟨List.mem_cons_of_mem _ (key w hw), good_of_word (List.all_eq_true.mp hg w (key w hw))⟩
theorem zent_len : ∀ vs : List ZV, (lg_sl (vs.map zv)).length = (zent vs).length
  | [] => rfl
  | v :: t => by
    have ih := zent_len t
    simp only [lg_sl] at ih
    simp only [List.map_cons, lg_sl, List.flatMap_cons, List.length_append, zent, zv_cat]
    rw [ih]
    by_cases hz : zwide v = true <;> simp [hz] <;> omega
/-- P of what comes back, PX of what is thrown -/
def zPo (P : Option ZV → ZM → Prop) (PX : String → ZM → Prop) : zP := fun r S => Sum.elim (fun v => P v S) (fun E => PX E S) r
section ZK
variable {X : zX} {own : String} {cc : ByteArray} {nL : Nat} {Ts : List Cond} {k n : Nat} {S : ZM} {pc : Nat} {ls : List (Option ZV)} {st : List ZV}
theorem z_ref {r r' : Option Nat} (e : r = r') (h : zW X nL k n S pc ls (zr r' :: st)) : zW X nL k n S pc ls (zr r :: st) := e ▸ h
theorem z_int {x x' : Int32} (e : x = x') (h : zW X nL k n S pc ls (zi x' :: st)) : zW X nL k n S pc ls (zi x :: st) := e ▸ h
theorem z_lng {x x' : Int64} (e : x = x') (h : zW X nL k n S pc ls (zj x' :: st)) : zW X nL k n S pc ls (zj x :: st) := e ▸ h
theorem z_inc {x : Int32} {i : Nat} {c0 : Int} (v : Int32) (ls' : List (Option ZV)) (C : zC X own cc nL Ts) (hl0 : ls[i]? = some (some (zi x))) (hn : i < nL) (hv : Int32.ofInt c0 = v) (e : zst1 ls i (zi (x + v)) = ls') (d : decode cc pc = .ok (.iinc i c0, 3)) (h : zW X nL k n S (pc + 3) ls' st) : zW X nL k n S pc ls st := z_iinc (x + v) ls' C hl0 hn (by rw [hv]) e d h
variable {y : MethodName} {bytes : ByteArray} {maxL mc ms index : Nat} {ret : Option FieldType} {ws ws' : List Cond} {rm : Room} {P : zP}
/-- a call of one of this class's own methods (kind 6) on an object -/
theorem z_callC {b : Nat} (n0 : Nat) (as : List ZV) {stk : List ZV} (C : zC X own cc nL Ts) (hy : y.cls = RX4) (hM : zMet (xl X) y ws rm mc ms (zr (some b) :: as) S P) (hst : stk = as.reverse ++ zr (some b) :: st) (hG : GoodIn Ts (wsV own index y.cls y ws)) (hw : ws = Cond.code y bytes maxL ret :: ws') (hrc : rm.cells = mc) (hrs : rm.slots = ms)
    (hd : y.cls ≠ "java/lang/invoke/MethodHandle" ∧ y.cls ≠ "java/lang/invoke/VarHandle" ∧ (parseMethodDescriptor y.desc).map (fun d => d.parameters.length) = some n0) (hn0 : as.length = n0) (hR : rm.frames + 1 ≤ (xR X).frames ∧ 8 + (maxL + 11) + rm.locals ≤ (xR X).locals)
    (hk : mK S b = 6) (hf : k + mc ≤ (xR X).cells ∧ n + ms ≤ (xR X).slots) (hcat : (st.map fun v => if zwide v = true then 2 else 1).sum ≤ 8) (d : decode cc pc = .ok (.invokevirtual index, 3))
    (kk : ∀ (v : Option ZV) (S' : ZM), P (.inl v) S' → zW X nL (k + mc) (n + ms) S' (pc + 3) ls (v.toList ++ st)) (kx : ∀ (E : String) (S' : ZM), P (.inr E) S' → zT X nL (k + mc) (n + ms) S' pc ls st E) : zW X nL k n S pc ls stk :=
  z_callV (ci := 6) (N := 17) (T := TX4) n0 as C hM hst hG hw hrc hrs ⟨rfl, hd⟩ hn0 hR hk (zcell_6 _ _ _) (by rw [hy]; rfl) hf hcat d kk kx
end ZK
theorem zMet.of' {l : Launch} {y : MethodName} {ws ws' : List Cond} {rm : Room} {mc ms : Nat} {cc : ByteArray} {maxL : Nat} {ret : Option FieldType} {vs : List ZV} {S : ZM} {P : zP} (ls0 : List (Option ZV)) (hl : l.stackTraces = false) (hy : plainName y.cls = true) (hw : ws = Cond.code y cc maxL ret :: ws') (hlen : (zent vs).length ≤ maxL) (hls : ls0 = zent vs ++ List.replicate (maxL - (zent vs).length) none)
    (body : ∀ X : zX, zC X y.cls cc maxL ws → zN X → xR X = { frames := rm.frames, cells := rm.cells, slots := rm.slots, locals := rm.locals } → (y.name = "<init>" → (xh X).name = "<init>") → xl X = l → zF X P mc ms ret → zW X maxL 0 0 S 0 ls0 []) : zMet l y ws rm mc ms vs S P := zMet.of ls0 hl hy hw (by rw [zent_len]; exact hlen) hls body
