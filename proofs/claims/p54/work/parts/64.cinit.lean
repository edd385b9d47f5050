/-! the class: its own constructor -/
/-- an array of N arrays of K ints at q, the rows behind it -/
abbrev nMA (S : ZM) (q N K : Nat) : ZM := ((fun b => if b = q then 19 else if q < b ∧ b ≤ q + N then 10 else S.1 b), S.2.1, S.2.2.1, S.2.2.2.1, (fun b => if b = q then N else if q < b ∧ b ≤ q + N then K else S.2.2.2.2.1 b), (fun b => if q < b ∧ b ≤ q + N then (fun _ => 0) else S.2.2.2.2.2.1 b), (fun b => if b = q then (fun i => if i < N then some (q + 1 + i) else none) else S.2.2.2.2.2.2.1 b), S.2.2.2.2.2.2.2)
theorem nMA_old {S : ZM} {q N K b : Nat} (h1 : b ≠ q) (h2 : ¬ (q < b ∧ b ≤ q + N)) : mK (nMA S q N K) b = mK S b ∧ mN (nMA S q N K) b = mN S b ∧ tI (nMA S q N K) b = tI S b ∧ tQ (nMA S q N K) b = tQ S b :=
  ⟨(if_neg h1).trans (if_neg h2), (if_neg h1).trans (if_neg h2), if_neg h2, if_neg h1⟩
theorem zcell_nMA (G : zG) (S : ZM) (q N K : Nat) {b : Nat} (h1 : b ≠ q) (h2 : ¬ (q < b ∧ b ≤ q + N)) (κ : Nat) : zcell G (nMA S q N K) b κ = zcell G S b κ := by
  obtain ⟨e1, e2, e3, e4⟩ := nMA_old (S := S) (K := K) h1 h2
  unfold zcell
  rw [e2, e3, e4]
section ZMN
variable {X : zX} {own : String} {cc : ByteArray} {nL : Nat} {Ts : List Cond} {k n : Nat} {S : ZM} {pc : Nat} {ls : List (Option ZV)} {st : List ZV}
theorem z_mna {index : Nat} {c0 c1 : Int32} (N K : Nat) (C : zC X own cc nL Ts) (h1 : Cond.classLink own index "[[I" ∈ Ts) (h2 : Cond.arrayClass .int ∈ Ts) (hn : ¬ c0 < 0) (hk : ¬ c1 < 0) (hN : c0.toNatClampNeg = N) (hK : c1.toNatClampNeg = K) (hb1 : N * 4 ≤ 536870912) (hb2 : K * componentBytes .int ≤ 536870912) (hb3 : K ≤ 536870912) (hc : k + (1 + N) ≤ (xR X).cells) (hs : n + (N + N * K) ≤ (xR X).slots) (d : decode cc pc = .ok (.multianewarray index 2, 4))
    (h : ∀ q : Nat, (∀ i : Nat, i ≤ N → zkn (mK S (q + i)) = false) → zW X nL (k + 1 + N) (n + N + N * K) (nMA S q N K) (pc + 4) ls (zr (some q) :: st)) : zW X nL k n S pc ls (zi c1 :: zi c0 :: st) := fun H locs la hH hS hl => by
  subst hN
  subst hK
  have hover : va_AOA .int (xs X) := C.E.2.2.2.1.2.2.2.2
  intro T hT Xs
  obtain ⟨vm₁, cA, comp, -, fA, fC, hO, -, X', step⟩ := Xs.multianewarray2F C.1 C.o (C.t _ h1) (va_AOA.use hover) (C.t _ h2) (g := F0 (xm X) pc la (.int c1 :: .int c0 :: st.map zv)) rfl (by rw [C.2.1]; exact d) rfl hn hk hb1 hb2 hb3 rfl rfl hc hs
  have kA : cA = (xG X).2.2 9 := Option.some.inj (fA.symm.trans (show (xs X).vm.findClass _ = some _ from (C.K.2 9 _ rfl).2))
  have kC : comp = (xG X).2.2 0 := Option.some.inj (fC.symm.trans (show (xs X).vm.findClass _ = some _ from (C.K.2 0 _ rfl).2))
  subst kA
  subst kC
  generalize hF : Jvm.Free.Multi.fill (T.setVm vm₁) ((xG X).2.2 9) ((xG X).2.2 0) c0.toNatClampNeg c1.toNatClampNeg (defaultValue .int) c0.toNatClampNeg = F at X' step
  have hTh : (T.setVm vm₁).heap = H := hT
  obtain ⟨f1, f2, -, -⟩ := Jvm.Free.Multi.fill_facts (T.setVm vm₁) ((xG X).2.2 9) ((xG X).2.2 0) c0.toNatClampNeg c1.toNatClampNeg (defaultValue .int) c0.toNatClampNeg
  rw [hF, hTh] at f1 f2
  have hold : ∀ x : Nat, x < H.size → F.heap[x]? = H[x]? := fun x hx => by
    have := Jvm.Free.Multi.fill_old (T.setVm vm₁) ((xG X).2.2 9) ((xG X).2.2 0) c0.toNatClampNeg c1.toNatClampNeg (defaultValue .int) (a := x) (by rw [hTh]; exact hx) c0.toNatClampNeg
    rw [hF, hTh] at this
    exact this
  have hrow : ∀ j : Nat, j < c0.toNatClampNeg → F.heap[H.size + 1 + j]? = some (vp_cell ((xG X).2.2 0) (c1.toNatClampNeg, .inl (fun _ => 0))) := fun j hj => by
    have := Jvm.Free.Multi.fill_inner (T.setVm vm₁) ((xG X).2.2 9) ((xG X).2.2 0) c0.toNatClampNeg c1.toNatClampNeg (defaultValue .int) c0.toNatClampNeg j hj
    rw [hF, hTh] at this
    rw [this, vp_cell_i]
    show some _ = some (arrV _ _ _)
    rw [← arrV_new]; rfl
  have hout : Jvm.Free.Multi.outerC ((xG X).2.2 9) c0.toNatClampNeg H.size c0.toNatClampNeg = vp_cell ((xG X).2.2 9) (c0.toNatClampNeg, .inr (.inr (.inr (.inr (fun i => if i < c0.toNatClampNeg then some (H.size + 1 + i) else none))))) := by
    rw [vp_cell_q]
    exact vr_outer ((xG X).2.2 9) c0.toNatClampNeg H.size c0.toNatClampNeg
  rw [hout] at f2
  have hno : ∀ x : Nat, H.size ≤ x → zcell (xG X) S x (mK S x) = none := fun x hx => by
    cases hz : zcell (xG X) S x (mK S x) with
    | none => rfl
    | some e => exact absurd (hH _ _ hz).1.lt (by omega)
  have hH1 : zH (xG X) (xA X) (nMA S H.size c0.toNatClampNeg c1.toNatClampNeg) F.heap := by
    intro b e he
    by_cases b1 : b = H.size
    · subst b1
      rw [show mK (nMA S H.size c0.toNatClampNeg c1.toNatClampNeg) H.size = 19 from if_pos rfl, zcell_19] at he
      cases he
      refine ⟨?_, C.A _ hS.1⟩
      show F.heap[H.size]? = some (vp_cell _ _)
      rw [f2]
      show _ = some (vp_cell _ ((if H.size = H.size then c0.toNatClampNeg else _), _))
      rw [if_pos rfl]
      refine congrArg (fun z => some (vp_cell ((xG X).2.2 9) (c0.toNatClampNeg, .inr (.inr (.inr (.inr z)))))) ?_
      exact (if_pos rfl).symm
    · by_cases b2 : H.size < b ∧ b ≤ H.size + c0.toNatClampNeg
      · obtain ⟨j, rfl⟩ : ∃ j : Nat, b = H.size + 1 + j := ⟨b - H.size - 1, by omega⟩
        rw [show mK (nMA S H.size c0.toNatClampNeg c1.toNatClampNeg) (H.size + 1 + j) = 10 from (if_neg b1).trans (if_pos b2), zcell_10] at he
        cases he
        refine ⟨?_, C.A _ (Nat.le_trans hS.1 (by omega))⟩
        show F.heap[H.size + 1 + j]? = some (vp_cell _ _)
        rw [hrow j (by omega)]
        rw [show mN (nMA S H.size c0.toNatClampNeg c1.toNatClampNeg) (H.size + 1 + j) = c1.toNatClampNeg from (if_neg b1).trans (if_pos b2), show tI (nMA S H.size c0.toNatClampNeg c1.toNatClampNeg) (H.size + 1 + j) = (fun _ => 0) from if_pos b2]
      · rw [(nMA_old (S := S) (K := c1.toNatClampNeg) b1 b2).1, zcell_nMA _ _ _ _ _ b1 b2] at he
        have := hH b e he
        exact ⟨this.1.kept (hold b this.1.lt), this.2⟩
  obtain ⟨t, a1, b1⟩ := h H.size (fun i _ => z_kn (hno _ (by omega))) F.heap locs la hH1 ⟨by rw [f1]; have := hS.1; omega, fun x q1 q2 => (hold x (Nat.lt_of_lt_of_le q1 hS.1)).trans (hS.2.1 x q1 q2), hS.2.2⟩ hl F rfl X'
  refine ⟨t, step t ?_, b1⟩
  have e : T.heap.size = H.size := by rw [hT]
  rw [e]
  exact a1
end ZMN
def fl (n : Nat) : Nat := [0, 22, 23, 24, 25, 31, 32, 33].getD n 0
def κl (n : Nat) : Nat := [6, 18, 17, 16, 15, 10, 10, 10].getD n 0
def Nl (n : Nat) : Nat := [0, 24, 16, 40, 8, 8, 8, 8].getD n 0
abbrev Lp (L : Nat → Nat) (n b : Nat) : Nat → Nat := fun i => bif Nat.beq i n then b else L i
theorem Lp_s {L : Nat → Nat} {n b : Nat} : Lp L n b n = b := by simp [Lp]
theorem Lp_n {L : Nat → Nat} {n b i : Nat} (h : i ≠ n) : Lp L n b i = L i := by
  show (bif Nat.beq i n then b else L i) = L i
  rw [show Nat.beq i n = false from by cases hq : Nat.beq i n with
    | false => rfl
    | true => exact absurd (Nat.eq_of_beq_eq_true hq) h]; rfl
theorem fl_inj0 : ∀ i : Nat, i < 8 → ∀ j : Nat, j < 8 → fl i = fl j → i = j := by decide
theorem fl_inj (i j : Nat) (hi : i < 8) (hj : j < 8) (_ : 1 ≤ i) (e : fl i = fl j) : i = j := fl_inj0 i hi j hj e
theorem fl_35 : ∀ i : Nat, i < 8 → fl i ≠ 35 ∧ fl i ≠ 34 := by decide
theorem κl_kn : ∀ i : Nat, i < 8 → zkn (κl i) = true := by decide
/-- the object as far as its first n - 1 arrays are made -/
def ini (S : ZM) (L : Nat → Nat) (n : Nat) : Prop := mK S (L 0) = 6 ∧ (∀ k : Nat, mI S k (L 0) = 0) ∧ (∀ k : Nat, mJ S k (L 0) = 0) ∧ mQ S 35 (L 0) = none ∧
  (∀ i : Nat, 1 ≤ i → i < n → mQ S (fl i) (L 0) = some (L i) ∧ mK S (L i) = κl i ∧ mN S (L i) = Nl i ∧ tI S (L i) = (fun _ => 0) ∧ tQ S (L i) = (fun _ => none)) ∧ ∀ i j : Nat, i < n → j < n → L i = L j → i = j
theorem ini.known {S : ZM} {L : Nat → Nat} {n : Nat} (h : ini S L n) (hn : n ≤ 8) : ∀ i : Nat, i < n → zkn (mK S (L i)) = true := fun i hi => by
  by_cases q : i = 0
  · subst q; rw [h.1]; rfl
  · rw [(h.2.2.2.2.1 i (by omega) hi).2.1]; exact κl_kn i (by omega)
theorem ini.kn {S : ZM} {L : Nat → Nat} {n b κ N : Nat} (h : ini S L n) (hb : zkn (mK S b) = false) : mK (nA S b κ N) (L 0) = 6 := (up1_ne (fun q => by rw [← q, h.1] at hb; cases hb)).trans h.1
theorem ini.sI {S : ZM} {L : Nat → Nat} {n : Nat} (h : ini S L n) (k : Nat) : ini (sI S k (L 0) 0) L n := by
  obtain ⟨h1, h2, h3, h4, h5, h6⟩ := h
  refine ⟨h1, fun k' => ?_, h3, h4, h5, h6⟩
  show up2 S.2.1 k (L 0) 0 k' (L 0) = 0
  by_cases q : k' = k
  · subst q; exact up2_self
  · rw [up2_k q]; exact h2 k'
theorem ini.sJ {S : ZM} {L : Nat → Nat} {n : Nat} (h : ini S L n) (k : Nat) : ini (sJ S k (L 0) 0) L n := by
  obtain ⟨h1, h2, h3, h4, h5, h6⟩ := h
  refine ⟨h1, h2, fun k' => ?_, h4, h5, h6⟩
  show up2 S.2.2.2.1 k (L 0) 0 k' (L 0) = 0
  by_cases q : k' = k
  · subst q; exact up2_self
  · rw [up2_k q]; exact h3 k'
theorem ini.arr {S : ZM} {L : Nat → Nat} (n : Nat) (h : ini S L n) (h1n : 1 ≤ n) (hn : n < 8) {b : Nat} (hb : zkn (mK S b) = false) : ini (sQ (nA S b (κl n) (Nl n)) (fl n) (L 0) (some b)) (Lp L n b) (n + 1) := by
  have kw := h.known (by omega)
  obtain ⟨h1, h2, h3, h4, h5, h6⟩ := h
  have ne : ∀ i : Nat, i < n → L i ≠ b := fun i hi q => by have := kw i hi; rw [q, hb] at this; cases this
  have e0 : Lp L n b 0 = L 0 := Lp_n (by omega)
  have n0 := ne 0 (by omega)
  unfold ini
  rw [e0]
  refine ⟨(up1_ne n0).trans h1, h2, h3, ?_, fun i h1i hi => ?_, fun i j hi hj q => ?_⟩
  · show up2 S.2.2.1 (fl n) (L 0) (some b) 35 (L 0) = none
    rw [up2_k (fl_35 n hn).1.symm]; exact h4
  · show up2 S.2.2.1 (fl n) (L 0) (some b) (fl i) (L 0) = _ ∧ up1 S.1 b (κl n) (Lp L n b i) = _ ∧ up1 S.2.2.2.2.1 b (Nl n) (Lp L n b i) = _ ∧ up1 S.2.2.2.2.2.1 b (fun _ => 0) (Lp L n b i) = _ ∧ up1 S.2.2.2.2.2.2.1 b (fun _ => none) (Lp L n b i) = _
    by_cases q : i = n
    · subst q
      rw [Lp_s, up2_self, up1_self, up1_self, up1_self, up1_self]; exact ⟨rfl, rfl, rfl, rfl, rfl⟩
    · have hi' : i < n := by omega
      rw [Lp_n q, up2_k (fun z => q (fl_inj i n (by omega) hn h1i z)), up1_ne (ne i hi'), up1_ne (ne i hi'), up1_ne (ne i hi'), up1_ne (ne i hi')]
      exact h5 i h1i hi'
  · by_cases qi : i = n <;> by_cases qj : j = n
    · omega
    · rw [qi, Lp_s, Lp_n qj] at q; exact absurd q.symm (ne j (by omega))
    · rw [qj, Lp_s, Lp_n qi] at q; exact absurd q (ne i (by omega))
    · rw [Lp_n qi, Lp_n qj] at q; exact h6 i j (by omega) (by omega) q
theorem ini.kM {S : ZM} {L : Nat → Nat} {q : Nat} (h : ini S L 8) (hq : ∀ i : Nat, i ≤ 7 → zkn (mK S (q + i)) = false) : mK (nMA S q 7 7) (L 0) = 6 := by
  have n0 : ∀ i : Nat, i ≤ 7 → L 0 ≠ q + i := fun i hi z => by have := hq i hi; rw [← z, h.1] at this; cases this
  exact (nMA_old (n0 0 (by omega)) (fun z => n0 (L 0 - q) (by omega) (by omega))).1.trans h.1
/-- where all arrays lie -/
def Lf (L : Nat → Nat) (q : Nat) : Nat → Nat := fun i => if i < 8 then L i else q + (i - 8)
/-- the memory of a new object: everything at 0 -/
def zro (S : ZM) (L : Nat → Nat) : Prop := cS S L ∧ (∀ k : Nat, mI S k (L 0) = 0) ∧ mJ S 37 (L 0) = 0 ∧ mQ S 35 (L 0) = none ∧ (∀ i j : Nat, 1 ≤ i → i ≤ 4 → tQ S (L i) j = none) ∧ ∀ j : Nat, tI S (L 5) j = 0
theorem ini.end {S : ZM} {L : Nat → Nat} {q : Nat} (h : ini S L 8) (hq : ∀ i : Nat, i ≤ 7 → zkn (mK S (q + i)) = false) : zro (sQ (sQ (nMA S q 7 7) 34 (L 0) (some q)) 35 (L 0) none) (Lf L q) := by
  have kw := h.known (by omega)
  obtain ⟨h1, h2, h3, h4, h5, h6⟩ := h
  have ne : ∀ i j : Nat, i < 8 → j ≤ 7 → L i ≠ q + j := fun i j hi hj z => by have := kw i hi; rw [z, hq j hj] at this; cases this
  have old : ∀ i : Nat, i < 8 → _ := fun i hi => nMA_old (S := S) (q := q) (N := 7) (K := 7) (b := L i) (ne i 0 hi (by omega)) (fun z => ne i (L i - q) hi (by omega) (by omega))
  obtain ⟨S1, hS1⟩ : ∃ z : ZM, z = sQ (sQ (nMA S q 7 7) 34 (L 0) (some q)) 35 (L 0) none := ⟨_, rfl⟩
  have K : ∀ i : Nat, i < 8 → mK S1 (L i) = mK S (L i) ∧ mN S1 (L i) = mN S (L i) ∧ tI S1 (L i) = tI S (L i) ∧ tQ S1 (L i) = tQ S (L i) := fun i hi => by rw [hS1]; exact old i hi
  have Q : ∀ k : Nat, k ≠ 34 → k ≠ 35 → mQ S1 k (L 0) = mQ S k (L 0) := fun k a b => by
    rw [hS1]
    show up2 (up2 S.2.2.1 34 (L 0) (some q)) 35 (L 0) none k (L 0) = _
    rw [up2_k b, up2_k a]
  have Q34 : mQ S1 34 (L 0) = some q := by
    rw [hS1]
    show up2 (up2 S.2.2.1 34 (L 0) (some q)) 35 (L 0) none 34 (L 0) = _
    rw [up2_k (by decide), up2_self]
  have Q35 : mQ S1 35 (L 0) = none := by
    rw [hS1]
    show up2 (up2 S.2.2.1 34 (L 0) (some q)) 35 (L 0) none 35 (L 0) = _
    rw [up2_self]
  have I : ∀ k : Nat, mI S1 k (L 0) = 0 := fun k => by rw [hS1]; exact h2 k
  have J9 : mJ S1 37 (L 0) = 0 := by rw [hS1]; exact h3 37
  have Kq : mK S1 q = 19 ∧ mN S1 q = 7 ∧ tQ S1 q = (fun i => if i < 7 then some (q + 1 + i) else none) := by
    rw [hS1]; exact ⟨if_pos rfl, if_pos rfl, if_pos rfl⟩
  have Kr : ∀ i : Nat, i < 7 → mK S1 (q + 1 + i) = 10 ∧ mN S1 (q + 1 + i) = 7 := fun i hi => by
    rw [hS1]; exact ⟨(if_neg (by omega)).trans (if_pos ⟨by omega, by omega⟩), (if_neg (by omega)).trans (if_pos ⟨by omega, by omega⟩)⟩
  rw [← hS1]
  have A : ∀ i : Nat, 1 ≤ i → i < 8 → mQ S1 (fl i) (L 0) = some (L i) ∧ mK S1 (L i) = κl i ∧ mN S1 (L i) = Nl i := fun i a b => by
    obtain ⟨w1, w2, w3, -⟩ := h5 i a b
    obtain ⟨z1, z2, -⟩ := K i b
    exact ⟨(Q _ (fl_35 i b).2 (fl_35 i b).1).trans w1, z1.trans w2, z2.trans w3⟩
  refine ⟨⟨(K 0 (by omega)).1.trans h1, A 1 (by omega) (by omega), A 2 (by omega) (by omega), A 3 (by omega) (by omega), A 4 (by omega) (by omega), A 5 (by omega) (by omega), A 6 (by omega) (by omega), A 7 (by omega) (by omega), ⟨Q34, Kq.1, Kq.2.1⟩, fun i hi => ?_, fun i j hi hj z => ?_⟩, I, J9, Q35, fun i j a b => ?_, fun j => ?_⟩
  · have e9 : Lf L q (9 + i) = q + 1 + i := by unfold Lf; rw [if_neg (by omega)]; omega
    rw [e9]
    refine ⟨?_, Kr i hi⟩
    show tQ S1 q i = _
    rw [Kq.2.2]; exact if_pos hi
  · unfold Lf at z
    by_cases qi : i < 8 <;> by_cases qj : j < 8
    · rw [if_pos qi, if_pos qj] at z; exact h6 i j qi qj z
    · rw [if_pos qi, if_neg qj] at z; exact absurd z (ne i (j - 8) qi (by omega))
    · rw [if_neg qi, if_pos qj] at z; exact absurd z.symm (ne j (i - 8) qj (by omega))
    · rw [if_neg qi, if_neg qj] at z; omega
  · show tQ S1 (Lf L q i) j = none
    unfold Lf
    rw [if_pos (by omega), (K i (by omega)).2.2.2, (h5 i a (by omega)).2.2.2.2]
  · show tI S1 (L 5) j = 0
    rw [(K 5 (by omega)).2.2.1, (h5 5 (by omega) (by omega)).2.2.2.1]
def D0 : ZD := fun _ _ => 0
def J0 : Nat → Int64 := fun _ => 0
theorem cR.zero {S : ZM} {L : Nat → Nat} (h : zro S L) (T : Nat → Nat) : cR D0 J0 [] (fun _ => 0) S L T := by
  obtain ⟨h1, h2, h3, h4, h5, h6⟩ := h
  have z : ∀ k : Nat, ix (D0 k 0) = 0 := fun k => rfl
  have hp : ∀ i : Nat, prD D0 i = false := fun i => rfl
  refine ⟨⟨h1, fun i hi => ⟨fun _ => h5 1 i (by omega) (by omega), fun q => by rw [hp i] at q; cases q⟩, ⟨fun i _ _ => h5 2 i (by omega) (by omega), fun i hi => absurd hi (Nat.not_lt_zero i)⟩, ⟨fun i _ _ => h5 3 i (by omega) (by omega), fun i hi => absurd hi (Nat.not_lt_zero i)⟩, ⟨fun i _ _ => h5 4 i (by omega) (by omega), fun i hi => absurd hi (Nat.not_lt_zero i)⟩, ⟨⟨⟨rfl, Nat.zero_le _⟩, ⟨rfl, Nat.zero_le _⟩, ⟨rfl, Nat.zero_le _⟩, ⟨rfl, Nat.zero_le _⟩⟩, fun i hi => absurd hi (Nat.not_lt_zero i), trivial, Nat.zero_le _, fun i hi => absurd hi (Nat.not_lt_zero i)⟩, h2 36, fun t => ⟨(by decide : (0 : Int32) ≤ 0), (by decide : ¬ (0 : Int32) = -1)⟩, fun i hi => absurd hi (Nat.not_lt_zero i), ⟨fun _ => 0, fun i hi => absurd hi (Nat.not_lt_zero i), fun i _ hi => absurd hi (Nat.not_lt_zero i)⟩⟩, ⟨h2 26, ?_, h2 28, h2 29, h2 30, h3⟩, ⟨fun l _ => h6 l, h2 38⟩, ⟨fun i _ hi => absurd hi (Nat.not_lt_zero i), fun i _ hi => absurd hi (Nat.not_lt_zero i), ⟨fun i _ hi => absurd hi (Nat.not_lt_zero i), ?_, ?_⟩, h4, fun i hi => absurd hi (Nat.not_lt_zero i)⟩, ⟨?_, ⟨0, rfl, by decide⟩, ?_, fun g _ => rfl, fun i hi => absurd hi (Nat.not_lt_zero i), ⟨rfl, Nat.le_refl 0, fun i hi => absurd hi (Nat.not_lt_zero i)⟩, fun i hi => absurd hi (Nat.not_lt_zero i)⟩, fun i hi => absurd hi (Nat.not_lt_zero i), fun _ _ _ => rfl⟩
  · rw [h2 27, cnF_cong 24 (q := fun _ => false) (fun i _ => hp i)]; rfl
  · intro i j a _ _ e; rw [h5 4 i (by omega) (by omega)] at e; cases e
  · intro g _ a _ _ _ e; rw [h5 2 g (by omega) (by omega)] at e; cases e
  · intro t _; exact ⟨fun q => absurd q (Nat.not_lt_zero t), fun _ => ⟨rfl, rfl, rfl⟩⟩
  · intro g _; exact ⟨0, rfl, by decide, fun _ => rfl, fun j hj => absurd hj (Nat.not_lt_zero j)⟩
theorem wfZ.zero : wfZ D0 := fun k _ hk => absurd hk (Nat.not_lt_zero k)

theorem zro.sI {S : ZM} {L : Nat → Nat} (h : zro S L) (k : Nat) : zro (sI S k (L 0) 0) L := by
  obtain ⟨h1, h2, h3, h4, h5, h6⟩ := h
  refine ⟨h1, fun k' => ?_, h3, h4, h5, h6⟩
  show up2 S.2.1 k (L 0) 0 k' (L 0) = 0
  by_cases q : k' = k
  · subst q; exact up2_self
  · rw [up2_k q]; exact h2 k'
theorem zro.sJ {S : ZM} {L : Nat → Nat} (h : zro S L) (k : Nat) : zro (sJ S k (L 0) 0) L := by
  obtain ⟨h1, h2, h3, h4, h5, h6⟩ := h
  refine ⟨h1, h2, ?_, h4, h5, h6⟩
  show up2 S.2.2.2.1 k (L 0) 0 37 (L 0) = 0
  by_cases q : 37 = k
  · subst q; exact up2_self
  · rw [up2_k q]; exact h3
set_option maxRecDepth 100000 in
set_option maxHeartbeats 4000000 in
theorem C_X4_init {l : Launch} (hl0 : l.stackTraces = false) {S : ZM} {a : Nat} (hI : ini S (fun _ => a) 1) : zMet l yX4_init (Cond.code yX4_init cX4_init 1 none :: LWc) ({ frames := 1, cells := 15, slots := 168, locals := 60 } : Room) 15 168 [zr (some a)] S (zPo (fun v S' => v = none ∧ ∃ L : Nat → Nat, L 0 = a ∧ zro S' L) (fun _ _ => False)) := by
  refine zMet.of' [some (zr (some a))] hl0 (by decide) rfl (Nat.le_of_ble_eq_true rfl) rfl ?_
  intro X C N hR hN0 hX F
  subst hX
  have hk := hI.1
  refine z_aload_n C rfl dX4_init_0 ?_
  refine z_objInit C (List.mem_cons_of_mem _ wc30) (List.mem_cons_of_mem _ wc1) (List.mem_cons_of_mem _ wc2) (by rw [hR]; exact Nat.le_of_ble_eq_true rfl) (by rw [hR]; exact Nat.le_of_ble_eq_true rfl) dX4_init_1 ?_
  refine z_aload_n C rfl dX4_init_4 ?_
  refine z_bipush 24 (by decide) C dX4_init_5 ?_
  refine z_anew_3 24 C (List.mem_cons_of_mem _ wc31) (by decide) rfl (by decide) (by rw [hR]; exact Nat.le_of_ble_eq_true rfl) (by rw [hR]; exact Nat.le_of_ble_eq_true rfl) dX4_init_7 (fun a7 f7 => ?_)
  have hk := hI.kn (κ := κl 1) (N := Nl 1) f7
  refine zp4_allTracks C (fun w h => List.mem_cons_of_mem _ (uc_wsX40 w h)) hk (hN0 rfl) rfl (List.mem_cons_of_mem _ wc32) dX4_init_10 ?_
  have hI := hI.arr 1 (by decide) (by decide) f7
  have hk := hI.1
  refine z_aload_n C rfl dX4_init_13 ?_
  refine z_bipush 16 (by decide) C dX4_init_14 ?_
  refine z_anew_2 16 C (List.mem_cons_of_mem _ wc33) (by decide) rfl (by decide) (by rw [hR]; exact Nat.le_of_ble_eq_true rfl) (by rw [hR]; exact Nat.le_of_ble_eq_true rfl) dX4_init_16 (fun a16 f16 => ?_)
  have hk := hI.kn (κ := κl 2) (N := Nl 2) f16
  refine zp4_allTags C (fun w h => List.mem_cons_of_mem _ (uc_wsX40 w h)) hk (hN0 rfl) rfl (List.mem_cons_of_mem _ wc34) dX4_init_19 ?_
  have hI := hI.arr 2 (by decide) (by decide) f16
  have hk := hI.1
  refine z_aload_n C rfl dX4_init_22 ?_
  refine z_bipush 40 (by decide) C dX4_init_23 ?_
  refine z_anew_1 40 C (List.mem_cons_of_mem _ wc35) (by decide) rfl (by decide) (by rw [hR]; exact Nat.le_of_ble_eq_true rfl) (by rw [hR]; exact Nat.le_of_ble_eq_true rfl) dX4_init_25 (fun a25 f25 => ?_)
  have hk := hI.kn (κ := κl 3) (N := Nl 3) f25
  refine zp4_allRules C (fun w h => List.mem_cons_of_mem _ (uc_wsX40 w h)) hk (hN0 rfl) rfl (List.mem_cons_of_mem _ wc36) dX4_init_28 ?_
  have hI := hI.arr 3 (by decide) (by decide) f25
  have hk := hI.1
  refine z_aload_n C rfl dX4_init_31 ?_
  refine z_bipush 8 (by decide) C dX4_init_32 ?_
  refine z_anew_0 8 C (List.mem_cons_of_mem _ wc37) (by decide) rfl (by decide) (by rw [hR]; exact Nat.le_of_ble_eq_true rfl) (by rw [hR]; exact Nat.le_of_ble_eq_true rfl) dX4_init_34 (fun a34 f34 => ?_)
  have hk := hI.kn (κ := κl 4) (N := Nl 4) f34
  refine zp4_allLists C (fun w h => List.mem_cons_of_mem _ (uc_wsX40 w h)) hk (hN0 rfl) rfl (List.mem_cons_of_mem _ wc38) dX4_init_37 ?_
  have hI := hI.arr 4 (by decide) (by decide) f34
  have hk := hI.1
  refine z_aload_n C rfl dX4_init_40 ?_
  refine z_iconst 0 (by decide) C dX4_init_41 ?_
  refine zp4_tracksAdded C (fun w h => List.mem_cons_of_mem _ (uc_wsX40 w h)) hk (List.mem_cons_of_mem _ wc39) dX4_init_42 ?_
  have hI := hI.sI 26
  have hk := hI.1
  refine z_aload_n C rfl dX4_init_45 ?_
  refine z_iconst 0 (by decide) C dX4_init_46 ?_
  refine zp4_tracksLeft C (fun w h => List.mem_cons_of_mem _ (uc_wsX40 w h)) hk (List.mem_cons_of_mem _ wc40) dX4_init_47 ?_
  have hI := hI.sI 27
  have hk := hI.1
  refine z_aload_n C rfl dX4_init_50 ?_
  refine z_iconst 0 (by decide) C dX4_init_51 ?_
  refine zp4_tagCount C (fun w h => List.mem_cons_of_mem _ (uc_wsX40 w h)) hk (List.mem_cons_of_mem _ wc41) dX4_init_52 ?_
  have hI := hI.sI 28
  have hk := hI.1
  refine z_aload_n C rfl dX4_init_55 ?_
  refine z_iconst 0 (by decide) C dX4_init_56 ?_
  refine zp4_ruleCount C (fun w h => List.mem_cons_of_mem _ (uc_wsX40 w h)) hk (List.mem_cons_of_mem _ wc42) dX4_init_57 ?_
  have hI := hI.sI 29
  have hk := hI.1
  refine z_aload_n C rfl dX4_init_60 ?_
  refine z_iconst 0 (by decide) C dX4_init_61 ?_
  refine zp4_listCount C (fun w h => List.mem_cons_of_mem _ (uc_wsX40 w h)) hk (List.mem_cons_of_mem _ wc43) dX4_init_62 ?_
  have hI := hI.sI 30
  have hk := hI.1
  refine z_aload_n C rfl dX4_init_65 ?_
  refine z_bipush 8 (by decide) C dX4_init_66 ?_
  refine z_newarr_int 8 C (List.mem_cons_of_mem _ wc19) (by decide) rfl (by decide) (by rw [hR]; exact Nat.le_of_ble_eq_true rfl) (by rw [hR]; exact Nat.le_of_ble_eq_true rfl) dX4_init_68 (fun a68 f68 => ?_)
  have hk := hI.kn (κ := κl 5) (N := Nl 5) f68
  refine zp4_kept C (fun w h => List.mem_cons_of_mem _ (uc_wsX40 w h)) hk (hN0 rfl) rfl (List.mem_cons_of_mem _ wc44) dX4_init_70 ?_
  have hI := hI.arr 5 (by decide) (by decide) f68
  have hk := hI.1
  refine z_aload_n C rfl dX4_init_73 ?_
  refine z_bipush 8 (by decide) C dX4_init_74 ?_
  refine z_newarr_int 8 C (List.mem_cons_of_mem _ wc19) (by decide) rfl (by decide) (by rw [hR]; exact Nat.le_of_ble_eq_true rfl) (by rw [hR]; exact Nat.le_of_ble_eq_true rfl) dX4_init_76 (fun a76 f76 => ?_)
  have hk := hI.kn (κ := κl 6) (N := Nl 6) f76
  refine zp4_keptAhead C (fun w h => List.mem_cons_of_mem _ (uc_wsX40 w h)) hk (hN0 rfl) rfl (List.mem_cons_of_mem _ wc45) dX4_init_78 ?_
  have hI := hI.arr 6 (by decide) (by decide) f76
  have hk := hI.1
  refine z_aload_n C rfl dX4_init_81 ?_
  refine z_bipush 8 (by decide) C dX4_init_82 ?_
  refine z_newarr_int 8 C (List.mem_cons_of_mem _ wc19) (by decide) rfl (by decide) (by rw [hR]; exact Nat.le_of_ble_eq_true rfl) (by rw [hR]; exact Nat.le_of_ble_eq_true rfl) dX4_init_84 (fun a84 f84 => ?_)
  have hk := hI.kn (κ := κl 7) (N := Nl 7) f84
  refine zp4_byRounds C (fun w h => List.mem_cons_of_mem _ (uc_wsX40 w h)) hk (hN0 rfl) rfl (List.mem_cons_of_mem _ wc46) dX4_init_86 ?_
  have hI := hI.arr 7 (by decide) (by decide) f84
  have hk := hI.1
  refine z_aload_n C rfl dX4_init_89 ?_
  refine z_bipush 7 (by decide) C dX4_init_90 ?_
  refine z_bipush 7 (by decide) C dX4_init_92 ?_
  refine z_mna 7 7 C (List.mem_cons_of_mem _ wc47) (List.mem_cons_of_mem _ wc19) (by decide) (by decide) rfl rfl (by decide) (by decide) (by decide) (by rw [hR]; exact Nat.le_of_ble_eq_true rfl) (by rw [hR]; exact Nat.le_of_ble_eq_true rfl) dX4_init_94 (fun a94 f94 => ?_)
  have hk := hI.kM f94
  refine zp4_distanceTable C (fun w h => List.mem_cons_of_mem _ (uc_wsX40 w h)) hk (hN0 rfl) rfl (List.mem_cons_of_mem _ wc48) dX4_init_98 ?_
  have hE := hI.end f94
  refine z_aload_n C rfl dX4_init_101 ?_
  refine z_null C dX4_init_102 ?_
  refine zp4_goneLatest C (fun w h => List.mem_cons_of_mem _ (uc_wsX40 w h)) hk (List.mem_cons_of_mem _ wc49) dX4_init_103 ?_
  refine z_aload_n C rfl dX4_init_106 ?_
  refine z_iconst 0 (by decide) C dX4_init_107 ?_
  refine zp4_day C (fun w h => List.mem_cons_of_mem _ (uc_wsX40 w h)) hk (List.mem_cons_of_mem _ wc50) dX4_init_108 ?_
  refine z_aload_n C rfl dX4_init_111 ?_
  refine z_lconst 0 (by decide) C dX4_init_112 ?_
  refine zp4_secondsPlayed C (fun w h => List.mem_cons_of_mem _ (uc_wsX40 w h)) hk (List.mem_cons_of_mem _ wc51) dX4_init_113 ?_
  refine z_aload_n C rfl dX4_init_116 ?_
  refine z_iconst 0 (by decide) C dX4_init_117 ?_
  refine zp4_listsTouched C (fun w h => List.mem_cons_of_mem _ (uc_wsX40 w h)) hk (List.mem_cons_of_mem _ wc52) dX4_init_118 ?_
  refine z_return C F (Nat.le_of_ble_eq_true rfl) (Nat.le_of_ble_eq_true rfl) dX4_init_121 ?_
  exact ⟨rfl, _, rfl, ((hE.sI 36).sJ 37).sI 38⟩
