/-! a list told by its matches: the row of them, and what goes with it -/
def ltB (pl : Nat → Int32) (i j : Nat) : Bool := decide (pl i < pl j) || (decide (pl i = pl j) && decide (i < j))
theorem ltB_iff {pl : Nat → Int32} {i j : Nat} : ltB pl i j = true ↔ ltP pl i j := by
  unfold ltB ltP
  rw [Bool.or_eq_true, Bool.and_eq_true, decide_eq_true_eq, decide_eq_true_eq, decide_eq_true_eq]
theorem getD_ins {l : List Nat} {t q : Nat} (hq : q ≤ l.length) (j : Nat) : (l.take q ++ t :: l.drop q).getD j 0 = if j < q then l.getD j 0 else if j = q then t else l.getD (j - 1) 0 := by
  have hlen : (l.take q).length = q := by rw [List.length_take]; omega
  rw [List.getD_eq_getElem?_getD, List.getElem?_append, hlen]
  by_cases h1 : j < q
  · rw [if_pos h1, if_pos h1, List.getElem?_take, if_pos h1, List.getD_eq_getElem?_getD]
  · rw [if_neg h1, if_neg h1]
    by_cases h2 : j = q
    · subst h2
      rw [if_pos rfl, Nat.sub_self]; rfl
    · rw [if_neg h2, show j - q = (j - q - 1) + 1 by omega, List.getElem?_cons_succ, List.getElem?_drop, show q + (j - q - 1) = j - 1 by omega, List.getD_eq_getElem?_getD]
theorem getD_mem {l : List Nat} {j : Nat} (h : j < l.length) : l.getD j 0 ∈ l := by
  rw [List.getD_eq_getElem?_getD, List.getElem?_eq_getElem h]
  exact List.getElem_mem h
theorem srt_get {pl : Nat → Int32} {l : List Nat} (h : l.Pairwise (ltP pl)) {i j : Nat} (hij : i < j) (hj : j < l.length) : ltP pl (l.getD i 0) (l.getD j 0) := by
  rw [List.getD_eq_getElem?_getD, List.getD_eq_getElem?_getD, List.getElem?_eq_getElem hj, List.getElem?_eq_getElem (by omega)]
  exact List.pairwise_iff_getElem.mp h i j (by omega) hj hij
theorem ins_ok {pl : Nat → Int32} {l : List Nat} {t q : Nat} (hs : l.Pairwise (ltP pl)) (hq : q ≤ l.length) (h1 : ∀ j, q ≤ j → j < l.length → ltP pl t (l.getD j 0)) (h2 : q = 0 ∨ ¬ ltP pl t (l.getD (q - 1) 0)) (hn : ∀ a ∈ l, a ≠ t) : (l.take q ++ t :: l.drop q).Pairwise (ltP pl) ∧ (∀ a, a ∈ l.take q ++ t :: l.drop q ↔ a ∈ l ∨ a = t) ∧ (l.take q ++ t :: l.drop q).length = l.length + 1 := by
  have hlen : (l.take q ++ t :: l.drop q).length = l.length + 1 := by
    rw [List.length_append, List.length_cons, List.length_take, List.length_drop]; omega
  refine ⟨List.pairwise_iff_getElem.mpr (fun i j hi hj hij => ?_), fun a => ?_, hlen⟩
  · have e : ∀ (k : Nat) (hk : k < (l.take q ++ t :: l.drop q).length), (l.take q ++ t :: l.drop q)[k] = (l.take q ++ t :: l.drop q).getD k 0 := fun k hk => by
      rw [List.getD_eq_getElem?_getD, List.getElem?_eq_getElem hk]; rfl
    rw [hlen] at hi hj
    rw [e, e, getD_ins hq, getD_ins hq]
    have ht : ∀ i, i < q → ltP pl (l.getD i 0) t := fun i hiq => by
      rcases h2 with h2 | h2
      · omega
      · have hlast : ltP pl (l.getD (q - 1) 0) t := by
          rcases ltP_tot pl (hn _ (getD_mem (show q - 1 < l.length by omega))) with z | z
          · exact z
          · exact absurd z h2
        by_cases e : i = q - 1
        · rw [e]; exact hlast
        · exact ltP_tr (srt_get hs (show i < q - 1 by omega) (by omega)) hlast
    by_cases c1 : i < q
    · rw [if_pos c1]
      by_cases c2 : j < q
      · rw [if_pos c2]; exact srt_get hs hij (by omega)
      · rw [if_neg c2]
        by_cases c3 : j = q
        · rw [if_pos c3]; exact ht i c1
        · rw [if_neg c3]; exact srt_get hs (show i < j - 1 by omega) (by omega)
    · rw [if_neg c1, if_neg (show ¬ j < q by omega), if_neg (show ¬ j = q by omega)]
      by_cases c3 : i = q
      · rw [if_pos c3]; exact h1 (j - 1) (by omega) (by omega)
      · rw [if_neg c3]; exact srt_get hs (show i - 1 < j - 1 by omega) (by omega)
  · rw [List.mem_append, List.mem_cons]
    constructor
    · rintro (h | h | h)
      · exact Or.inl (List.mem_of_mem_take h)
      · exact Or.inr h
      · exact Or.inl (List.mem_of_mem_drop h)
    · rintro (h | h)
      · have : a ∈ l.take q ++ l.drop q := by rw [List.take_append_drop]; exact h
        rcases List.mem_append.mp this with h | h
        · exact Or.inl h
        · exact Or.inr (Or.inr h)
      · exact Or.inr (Or.inl h)
theorem take_more {l : List Nat} {k : Nat} (h : k < l.length) : l.take (k + 1) = l.take k ++ [l.getD k 0] := by
  rw [List.take_succ, List.getD_eq_getElem?_getD, List.getElem?_eq_getElem h]
  rfl
/-- the product as the law takes it: right as long as it is not too great -/
def prR (D : ZD) (G : List Nat) (P : Int64) : Prop := ∃ q : Nat, P = lN q ∧ q < 2 ^ 62 ∧ (q ≤ 2147483647 → q = prL D G) ∧ (2147483647 < q → 2147483647 < prL D G)
theorem mul_one64 (P : Int64) : P * 1 = P := Int64.mul_one P
theorem prR.nil (D : ZD) : prR D [] 1 := ⟨1, by decide, by decide, fun _ => rfl, fun h => absurd h (by decide)⟩
theorem prR.big {D : ZD} {G : List Nat} {P : Int64} (h : prR D G P) (hp : ¬ lg_cmp P 2147483647 ≤ 0) (u : Nat) : prR D (G ++ [u]) P := by
  obtain ⟨q, rfl, h1, h2, h3⟩ := h
  rw [lg_gt h1] at hp
  refine ⟨q, rfl, h1, fun z => absurd z hp, fun _ => ?_⟩
  rw [prL_app]
  exact Nat.lt_of_lt_of_le (h3 (by omega)) (Nat.le_mul_of_pos_right _ (by omega))
theorem prR.mul {D : ZD} {G : List Nat} {P : Int64} (h : prR D G P) (hp : lg_cmp P 2147483647 ≤ 0) {u p : Nat} (e : D 44 u = nI p) (hu : p ≤ 999) : prR D (G ++ [u]) (P * (D 44 u + 1).toInt64) := by
  obtain ⟨q, rfl, h1, h2, h3⟩ := h
  rw [lg_gt h1] at hp
  have hb := Nat.mul_le_mul hp (show p + 1 ≤ 1000 by omega)
  have e1 : q * (p + 1) = prL D (G ++ [u]) := by
    rw [prL_app, ← h2 hp, e, show ix (nI p) = p from nI_clamp (by omega)]
  refine ⟨q * (p + 1), by rw [e, ← nI_succ, nI_l (by omega), lN_mul], by omega, fun _ => e1, fun z => by rw [← e1]; exact z⟩
theorem prR.le {D : ZD} {G : List Nat} {P : Int64} (h : prR D G P) (hp : lg_cmp P 2147483647 ≤ 0) : prL D G ≤ 2147483647 ∧ P.toInt32 = nI (prL D G) := by
  obtain ⟨q, rfl, h1, h2, h3⟩ := h
  rw [lg_gt h1] at hp
  rw [← h2 hp]
  exact ⟨hp, lN_i q⟩
theorem prR.gt {D : ZD} {G : List Nat} {P : Int64} (h : prR D G P) (hp : ¬ lg_cmp P 2147483647 ≤ 0) : ¬ prL D G ≤ 2147483647 := by
  obtain ⟨q, rfl, h1, h2, h3⟩ := h
  rw [lg_gt h1] at hp
  have := h3 (by omega)
  omega
theorem dd_self {a b : Int32} (hb : b ≠ 0) (op : CmpOp) : Op.cmpValue (FP.dcmp (FP.ddiv (FP.i2d a) (FP.i2d b)) (FP.ddiv (FP.i2d a) (FP.i2d b))) op = 0 := by
  have hj : b.toInt ≠ 0 := fun q => hb (Int32.toInt_inj.mp (q.trans (by decide)))
  have h : FP.Core.dcmp (FP.Core.ddiv (FP.Core.i2d a) (FP.Core.i2d b)) (FP.Core.ddiv (FP.Core.i2d a) (FP.Core.i2d b)) = some .eq := FP.Core.dcmp_self (by
    rw [FP.Core.val64_ddiv]
    exact quot_ok (FP.Core.i2d_int a) (FP.Core.i2d_int b) hj)
  show Op.cmpValue (FP.Core.dcmp (FP.Core.ddiv (FP.Core.i2d a) (FP.Core.i2d b)) (FP.Core.ddiv (FP.Core.i2d a) (FP.Core.i2d b))) op = 0
  rw [h]
  rfl
theorem ff_self {a b : Int32} (ha : a.toInt.natAbs ≤ 2 ^ 24) (hb2 : b.toInt.natAbs ≤ 2 ^ 24) (hb : b ≠ 0) (op : CmpOp) : Op.cmpValue (FP.fcmp (FP.fdiv (FP.i2f a) (FP.i2f b)) (FP.fdiv (FP.i2f a) (FP.i2f b))) op = 0 := by
  have hj : b.toInt ≠ 0 := fun q => hb (Int32.toInt_inj.mp (q.trans (by decide)))
  have h : FP.Core.fcmp (FP.Core.fdiv (FP.Core.i2f a) (FP.Core.i2f b)) (FP.Core.fdiv (FP.Core.i2f a) (FP.Core.i2f b)) = some .eq := FP.Core.fcmp_self (by
    rw [FP.Core.val32_fdiv]
    exact quot_ok (FP.Core.i2f_int ha) (FP.Core.i2f_int hb2) hj)
  show Op.cmpValue (FP.Core.fcmp (FP.Core.fdiv (FP.Core.i2f a) (FP.Core.i2f b)) (FP.Core.fdiv (FP.Core.i2f a) (FP.Core.i2f b))) op = 0
  rw [h]
  rfl
/-- the world with a row a of the law's beside m -/
def wS (D : ZD) (x m a : Nat) (F : Nat → Bool) (f g : Nat → Int32) (S : ZM) : Prop := mS D x m F f S ∧ (F a = true ∧ a ≠ m) ∧ mK S a = 10 ∧ mN S a = 24 ∧ tI S a = g
def Fa (F : Nat → Bool) (a : Nat) : Nat → Bool := fun b => F b || decide (b = a)
theorem Fa_F {F : Nat → Bool} {a b : Nat} (h : F b = true) : Fa F a b = true := by simp [Fa, h]
theorem mS.row {D : ZD} {x m a : Nat} {F : Nat → Bool} {f : Nat → Int32} {S : ZM} (h : mS D x m F f S) (h0 : zkn (mK S a) = false) : wS D x m a (Fa F a) f (fun _ => 0) (nA S a 10 24) := by
  obtain ⟨⟨h1, h2⟩, ⟨h3, h4, h5⟩, h6⟩ := h
  have ha : ∀ b, zkn (mK S b) = true → b ≠ a := fun b hb => zkn_ne h0 hb
  have hm : m ≠ a := ha m (by rw [h4]; rfl)
  refine ⟨⟨⟨h1.ext (fun b hb => ?_), fun b hb => ?_⟩, ⟨Fa_F h3, (atE_nA hm).1.trans h4, (atE_nA hm).2.1.trans h5⟩, (atE_nA hm).2.2.2.1.trans h6⟩, ⟨by simp [Fa], fun e => hm e.symm⟩, up1_self, up1_self, up1_self⟩
  · have hf : F b = false := by
      cases hq : F b with
      | false => rfl
      | true => rw [rsOff_in hq] at hb; cases hb
    have hb' : zkn (mK S b) = true := by rw [← (rsOff_out (S := S) hf).1]; exact hb
    have hne := ha b hb'
    have hf2 : Fa F a b = false := by simp [Fa, hf, hne]
    obtain ⟨a1, a2, a3, a4, a5, a6, a7⟩ := rsOff_out (S := S) hf
    obtain ⟨b1, b2, b3, b4, b5, b6, b7⟩ := atE_nA (S := S) (κ := 10) (n := 24) hne
    obtain ⟨c1, c2, c3, c4, c5, c6, c7⟩ := rsOff_out (S := nA S a 10 24) hf2
    exact ⟨(c1.trans b1).trans a1.symm, (c2.trans b2).trans a2.symm, fun k => ⟨((c3 k).1.trans (b3 k).1).trans (a3 k).1.symm, ((c3 k).2.1.trans (b3 k).2.1).trans (a3 k).2.1.symm, ((c3 k).2.2.trans (b3 k).2.2).trans (a3 k).2.2.symm⟩, (c4.trans b4).trans a4.symm, (c5.trans b5).trans a5.symm⟩
  · by_cases e : b = a
    · subst e; rw [show mK (nA S b 10 24) b = 10 from up1_self]; rfl
    · have hf : F b = true := by
        simp only [Fa, Bool.or_eq_true, decide_eq_true_eq] at hb
        exact hb.resolve_right e
      rw [(atE_nA e).1]
      exact h2 b hf
theorem wS.drop {D : ZD} {x m a : Nat} {F : Nat → Bool} {f g : Nat → Int32} {S : ZM} (h : wS D x m a (Fa F a) f g S) (hm : F m = true) : mS D x m F f S := by
  obtain ⟨⟨⟨h1, h2⟩, ⟨h3, h4, h5⟩, h6⟩, -⟩ := h
  refine ⟨⟨h1.ext (fun b hb => ?_), fun b hb => h2 b (Fa_F hb)⟩, ⟨hm, h4, h5⟩, h6⟩
  have hf : Fa F a b = false := by
    cases hq : Fa F a b with
    | false => rfl
    | true => rw [rsOff_in hq] at hb; cases hb
  have hf2 : F b = false := by
    cases hq : F b with
    | false => rfl
    | true => rw [Fa_F hq] at hf; cases hf
  obtain ⟨a1, a2, a3, a4, a5, a6, a7⟩ := rsOff_out (S := S) hf
  obtain ⟨c1, c2, c3, c4, c5, c6, c7⟩ := rsOff_out (S := S) hf2
  exact ⟨c1.trans a1.symm, c2.trans a2.symm, fun k => ⟨(c3 k).1.trans (a3 k).1.symm, (c3 k).2.1.trans (a3 k).2.1.symm, (c3 k).2.2.trans (a3 k).2.2.symm⟩, c4.trans a4.symm, c5.trans a5.symm⟩
theorem wS.kp {D D' : ZD} {x m a : Nat} {F : Nat → Bool} {f g : Nat → Int32} {S S' : ZM} (h : wS D x m a F f g S) (hy : lY D' x F S') (k : kp F S S') : wS D' x m a F f g S' := by
  obtain ⟨h1, ⟨h2, h2'⟩, h3, h4, h5⟩ := h
  obtain ⟨k1, k2, -, k4, -⟩ := k a h2
  exact ⟨h1.kp hy k, ⟨h2, h2'⟩, k1.trans h3, k2.trans h4, k4.trans h5⟩
theorem wS.eA {D : ZD} {x m a : Nat} {F : Nat → Bool} {f g : Nat → Int32} {S : ZM} (h : wS D x m a F f g S) (j : Nat) (v : Int32) : wS D x m a F f (up1 g j v) (eI S a j v) := by
  obtain ⟨⟨h1, ⟨h2, h3, h4⟩, h5⟩, ⟨h6, h7⟩, h8, h9, h10⟩ := h
  refine ⟨⟨h1.eI h6 j v, ⟨h2, h3, h4⟩, ?_⟩, ⟨h6, h7⟩, h8, h9, ?_⟩
  · rw [← h5]
    exact up2f (fun e => h7 e.symm)
  · subst h10
    funext k
    show up2 S.2.2.2.2.2.1 a j v a k = up1 (S.2.2.2.2.2.1 a) j v k
    unfold up2 up1
    rw [if_pos rfl]
section ZM9
variable {X : zX} {own : String} {cc : ByteArray} {nL : Nat} {Ts : List Cond} {k n : Nat} {S : ZM} {pc : Nat} {ls : List (Option ZV)} {st : List ZV} {D : ZD} {x m a : Nat} {F : Nat → Bool} {f g : Nat → Int32}
theorem z_ald {i v : Int32} {j : Nat} (C : zC X own cc nL Ts) (hS : wS D x m a F f g S) (hi : i = nI j) (hj : j < 24) (hv : g j = v) (d : decode cc pc = .ok (.iaload, 1)) (h : zW X nL k n S (pc + 1) ls (zi v :: st)) : zW X nL k n S pc ls (zi i :: zr (some a) :: st) := by
  subst hi
  refine z_iaload C hS.2.2.1 (by rw [hS.2.2.2.1]; exact vp_in_nI hj (by decide)) d ?_
  have e : (nI j).toNatClampNeg = j := nI_clamp (by omega)
  rw [e, hS.2.2.2.2, hv]
  exact h
theorem z_ast {i v : Int32} {j : Nat} (C : zC X own cc nL Ts) (hS : wS D x m a F f g S) (hi : i = nI j) (hj : j < 24) (d : decode cc pc = .ok (.iastore, 1)) (h : ∀ S' : ZM, wS D x m a F f (up1 g j v) S' → zW X nL k n S' (pc + 1) ls st) : zW X nL k n S pc ls (zi v :: zi i :: zr (some a) :: st) := by
  subst hi
  refine z_iastore C hS.2.2.1 (by rw [hS.2.2.2.1]; exact vp_in_nI hj (by decide)) d ?_
  have e : (nI j).toNatClampNeg = j := nI_clamp (by omega)
  rw [e]
  exact h _ (hS.eA j v)
end ZM9
theorem cn_more {p : Nat → Bool} {n : Nat} {m : Nat} (h : ∀ i, n ≤ i → p i = false) (hm : n ≤ m) : cnF p m = cnF p n := by
  induction m with
  | zero => obtain rfl : n = 0 := by omega
            rfl
  | succ m ih =>
    by_cases e : n = m + 1
    · rw [e]
    · rw [cnF, ih (by omega), h m (by omega)]; rfl
