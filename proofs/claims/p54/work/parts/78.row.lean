/-! the law's row m beside its library -/
def mRow (m : Nat) (F : Nat → Bool) (S : ZM) : Prop := F m = true ∧ mK S m = 10 ∧ mN S m = 170
/-- the world: the library D at x, off F; the row m with f -/
def mS (D : ZD) (x m : Nat) (F : Nat → Bool) (f : Nat → Int32) (S : ZM) : Prop := lY D x F S ∧ mRow m F S ∧ tI S m = f
theorem lY.eI {D : ZD} {x m : Nat} {F : Nat → Bool} {S : ZM} (h : lY D x F S) (hm : F m = true) (i : Nat) (v : Int32) : lY D x F (eI S m i v) := by
  refine ⟨h.1.ext (ext_off fun b hb => ?_), h.2⟩
  have hne : b ≠ m := fun e => by subst e; rw [hb] at hm; cases hm
  exact ⟨rfl, rfl, fun k => ⟨rfl, rfl, rfl⟩, up2f hne, rfl, rfl, rfl⟩
theorem mS.eI {D : ZD} {x m : Nat} {F : Nat → Bool} {f : Nat → Int32} {S : ZM} (h : mS D x m F f S) (i : Nat) (v : Int32) : mS D x m F (up1 f i v) (eI S m i v) := by
  obtain ⟨h1, h2, h3⟩ := h
  refine ⟨h1.eI h2.1 i v, h2, ?_⟩
  subst h3
  funext j
  show up2 S.2.2.2.2.2.1 m i v m j = up1 (S.2.2.2.2.2.1 m) i v j
  unfold up2 up1
  rw [if_pos rfl]
theorem mS.kp {D D' : ZD} {x m : Nat} {F : Nat → Bool} {f : Nat → Int32} {S S' : ZM} (h : mS D x m F f S) (hy : lY D' x F S') (k : kp F S S') : mS D' x m F f S' := by
  obtain ⟨h1, ⟨h2, h3, h4⟩, h5⟩ := h
  obtain ⟨k1, k2, -, k4, -⟩ := k m h2
  exact ⟨hy, ⟨h2, k1.trans h3, k2.trans h4⟩, k4.trans h5⟩
section ZM8
variable {X : zX} {own : String} {cc : ByteArray} {nL : Nat} {Ts : List Cond} {k n : Nat} {S : ZM} {pc : Nat} {ls : List (Option ZV)} {st : List ZV} {D : ZD} {x m : Nat} {F : Nat → Bool} {f : Nat → Int32}
theorem z_mld {i v : Int32} {j : Nat} (C : zC X own cc nL Ts) (hS : mS D x m F f S) (hi : i = nI j) (hj : j < 170) (hv : f j = v) (d : decode cc pc = .ok (.iaload, 1)) (h : zW X nL k n S (pc + 1) ls (zi v :: st)) : zW X nL k n S pc ls (zi i :: zr (some m) :: st) := by
  subst hi
  refine z_iaload C hS.2.1.2.1 (by rw [hS.2.1.2.2]; exact vp_in_nI hj (by decide)) d ?_
  have e : (nI j).toNatClampNeg = j := nI_clamp (by omega)
  rw [e, hS.2.2, hv]
  exact h
theorem z_mst {i v : Int32} {j : Nat} (C : zC X own cc nL Ts) (hS : mS D x m F f S) (hi : i = nI j) (hj : j < 170) (d : decode cc pc = .ok (.iastore, 1)) (h : ∀ S' : ZM, mS D x m F (up1 f j v) S' → zW X nL k n S' (pc + 1) ls st) : zW X nL k n S pc ls (zi v :: zi i :: zr (some m) :: st) := by
  subst hi
  refine z_iastore C hS.2.1.2.1 (by rw [hS.2.1.2.2]; exact vp_in_nI hj (by decide)) d ?_
  have e : (nI j).toNatClampNeg = j := nI_clamp (by omega)
  rw [e]
  exact h _ (hS.eI j v)
end ZM8
/-- what the row m tells -/
def rM (D : ZD) (f : Nat → Int32) : Prop := f 0 = nI (dT D) ∧ f 2 = nI (dR D) ∧ f 3 = nI (dL D) ∧ (∃ j : Nat, j ≤ 16 ∧ f 1 = nI j) ∧
  (∀ r : Nat, r < dR D → f (10 + 3 * r) = D 53 r ∧ f (11 + 3 * r) = D 54 r ∧ (D 53 r = 6 ∨ D 53 r = 7 → f (12 + 3 * r) = D 55 r)) ∧
  ∀ i : Nat, i < dL D → f (140 + 3 * i) = D 58 i ∧ f (141 + 3 * i) = D 59 i ∧ f (142 + 3 * i) = D 60 i
def szD (D : ZD) : Prop := ∀ r : Nat, r < dR D → D 56 r = szN D (D 53 r) (D 54 r) (D 55 r)
/-- what the law knows of its library beside that; n: today is not later -/
def LV (n : Nat) (D : ZD) : Prop := (∃ d : Nat, D 40 0 = nI d ∧ d ≤ n) ∧ (∀ t : Nat, 0 ≤ D 45 t) ∧ szD D ∧ ∀ i : Nat, i < dL D → 0 ≤ D 60 i
def lX (n : Nat) (D : ZD) (x m : Nat) (F : Nat → Bool) (S : ZM) : Prop := ∃ f : Nat → Int32, mS D x m F f S ∧ rM D f ∧ LV n D
theorem lX.y {n : Nat} {D : ZD} {x m : Nat} {F : Nat → Bool} {S : ZM} (h : lX n D x m F S) : lY D x F S := by
  obtain ⟨f, h, -⟩ := h
  exact h.1
theorem lX.up {n n' : Nat} {D : ZD} {x m : Nat} {F : Nat → Bool} {S : ZM} (h : lX n D x m F S) (hn : n ≤ n') : lX n' D x m F S := by
  obtain ⟨f, h1, h2, ⟨d, e, hd⟩, h3⟩ := h
  exact ⟨f, h1, h2, ⟨d, e, by omega⟩, h3⟩
/-- of the rows of the library, the ones that m and the law know -/
def kM (k : Nat) : Bool := Nat.beq k 41 || (Nat.ble 52 k && Nat.ble k 55) || (Nat.ble 57 k && Nat.ble k 60)
theorem rM.same {D D' : ZD} {f : Nat → Int32} (h : rM D f) (e : ∀ k, kM k = true → D' k = D k) : rM D' f := by
  have e1 : dT D' = dT D := by simp only [dT, e 41 rfl]
  have e2 : dR D' = dR D := by simp only [dR, e 52 rfl]
  have e3 : dL D' = dL D := by simp only [dL, e 57 rfl]
  simp only [rM, e1, e2, e3, e 53 rfl, e 54 rfl, e 55 rfl, e 58 rfl, e 59 rfl, e 60 rfl]
  exact h
def kV (k : Nat) : Bool := Nat.beq k 40 || Nat.beq k 45 || (Nat.ble 52 k && Nat.ble k 57) || Nat.beq k 60
theorem LV.same {n : Nat} {D D' : ZD} (h : LV n D) (e : ∀ k, kV k = true → D' k = D k) : LV n D' := by
  have e2 : dR D' = dR D := by simp only [dR, e 52 rfl]
  have e3 : dL D' = dL D := by simp only [dL, e 57 rfl]
  simp only [LV, szD, szN, e2, e3, e 40 rfl, e 45 rfl, e 53 rfl, e 54 rfl, e 55 rfl, e 56 rfl, e 60 rfl]
  exact h
theorem dSn {D : ZD} {k k' : Nat} {g : Nat → Int32} (h : k ≠ k') : dS D k' g k = D k := if_neg h
theorem dS_at {D : ZD} {k : Nat} {g : Nat → Int32} : dS D k g k = g := if_pos rfl
theorem chg_ne {D : ZD} {k : Nat} (h1 : k ≠ 61) (h2 : k ≠ 66) : chgD D k = D k := (dSn h2).trans (dSn h1)
theorem kM_ne {k : Nat} (h : kM k = true) : k ≠ 61 ∧ k ≠ 66 ∧ k ≠ 40 ∧ k ≠ 42 ∧ k ≠ 43 ∧ k ≠ 44 ∧ k ≠ 45 ∧ k ≠ 46 ∧ k ≠ 47 ∧ k ≠ 48 ∧ k ≠ 67 := by
  refine ⟨?_, ?_, ?_, ?_, ?_, ?_, ?_, ?_, ?_, ?_, ?_⟩ <;> (rintro rfl; cases h)
theorem kV_ne {k : Nat} (h : kV k = true) : k ≠ 61 ∧ k ≠ 66 ∧ k ≠ 41 ∧ k ≠ 42 ∧ k ≠ 43 ∧ k ≠ 44 ∧ k ≠ 46 ∧ k ≠ 47 ∧ k ≠ 48 ∧ k ≠ 58 ∧ k ≠ 59 ∧ k ≠ 67 := by
  refine ⟨?_, ?_, ?_, ?_, ?_, ?_, ?_, ?_, ?_, ?_, ?_, ?_⟩ <;> (rintro rfl; cases h)
/-- changes that m and the law don't see -/
theorem see_rem (D : ZD) (t : Nat) : (∀ k, kM k = true → chgD (opRem D t) k = D k) ∧ ∀ k, kV k = true → chgD (opRem D t) k = D k :=
  ⟨fun k h => by obtain ⟨a, b, c, d, e, f, g, i, j, l, o⟩ := kM_ne h; rw [chg_ne a b]; exact dSn j, fun k h => by obtain ⟨a, b, c, d, e, f, g, i, j, l, o, p⟩ := kV_ne h; rw [chg_ne a b]; exact dSn i⟩
theorem see_rate (D : ZD) (t : Nat) (y : Int32) : (∀ k, kM k = true → chgD (opRate D t y) k = D k) ∧ ∀ k, kV k = true → chgD (opRate D t y) k = D k :=
  ⟨fun k h => by obtain ⟨a, b, c, d, e, f, g, i, j, l, o⟩ := kM_ne h; rw [chg_ne a b]; exact dSn e, fun k h => by obtain ⟨a, b, c, d, e, f, g, i, j, l, o, p⟩ := kV_ne h; rw [chg_ne a b]; exact dSn e⟩
theorem see_tags (D : ZD) (t : Nat) (s : Int32) : (∀ k, kM k = true → chgD (opTags D t s) k = D k) ∧ ∀ k, kV k = true → chgD (opTags D t s) k = D k :=
  ⟨fun k h => by obtain ⟨a, b, c, d, e, f, g, i, j, l, o⟩ := kM_ne h; rw [chg_ne a b]; exact (dSn o).trans (dSn i), fun k h => by obtain ⟨a, b, c, d, e, f, g, i, j, l, o, p⟩ := kV_ne h; rw [chg_ne a b]; exact (dSn p).trans (dSn g)⟩
theorem see_tag (D : ZD) : (∀ k, kM k = true → opTag D k = D k) ∧ ∀ k, kV k = true → opTag D k = D k :=
  ⟨fun k h => by obtain ⟨a, b, c, d, e, f, g, i, j, l, o⟩ := kM_ne h; exact dSn l, fun k h => by obtain ⟨a, b, c, d, e, f, g, i, j, l, o, p⟩ := kV_ne h; exact dSn j⟩
theorem see_play {D : ZD} {n : Nat} (h : LV n D) (hn : n < 2 ^ 31) (t : Nat) : (∀ k, kM k = true → chgD (opPlay D t) k = D k) ∧ LV n (chgD (opPlay D t)) := by
  refine ⟨fun k h => by obtain ⟨a, b, c, d, e, f, g, i, j, l, o⟩ := kM_ne h; rw [chg_ne a b]; exact (dSn g).trans (dSn f), ?_⟩
  obtain ⟨⟨d, e, hd⟩, h1, h2, h3⟩ := h
  refine ⟨⟨d, e, hd⟩, fun u => ?_, h2, h3⟩
  show 0 ≤ (if u = t then D 40 0 else D 45 u)
  split
  · rw [e]; exact nI_pos' (by omega)
  · exact h1 u
theorem see_pass {D : ZD} {n d : Nat} (h : LV n D) : (∀ k, kM k = true → chgD (opPass D (nI d)) k = D k) ∧ LV (n + d) (chgD (opPass D (nI d))) := by
  refine ⟨fun k h => by obtain ⟨a, b, c, d, e, f, g, i, j, l, o⟩ := kM_ne h; rw [chg_ne a b]; exact dSn c, ?_⟩
  obtain ⟨⟨d0, e, hd⟩, h1, h2, h3⟩ := h
  refine ⟨⟨d0 + d, ?_, by omega⟩, h1, h2, h3⟩
  show (if (0 : Nat) = 0 then D 40 0 + nI d else D 40 0) = _
  rw [if_pos rfl, e, nI_add]
/-- a track more -/
theorem see_trk {D : ZD} {f : Nat → Int32} {n : Nat} (ho : okD D) (ht : dT D < 24) (a b : Int32) (h : rM D f) (hv : LV n D) : rM (chgD (opTrk D a b)) (up1 f 0 (nI (dT D) + 1)) ∧ LV n (chgD (opTrk D a b)) ∧ dT (chgD (opTrk D a b)) = dT D + 1 := by
  have e0 : dT (chgD (opTrk D a b)) = dT D + 1 := by
    show ix (if (0 : Nat) = 0 then D 41 0 + 1 else D 41 0) = _
    rw [if_pos rfl, ho.1.1.1, ← nI_succ, ix, nI_clamp (by omega)]
  refine ⟨?_, hv.same (fun k h => ?_), e0⟩
  · obtain ⟨h1, h2, h3, h4, h5, h6⟩ := h
    refine ⟨by rw [up1_self, e0, nI_succ], ?_, ?_, ?_, fun r hr => ?_, fun i hi => ?_⟩
    · rw [up1_ne (by decide)]; exact h2
    · rw [up1_ne (by decide)]; exact h3
    · rw [up1_ne (by decide)]; exact h4
    · rw [up1_ne (by omega), up1_ne (by omega), up1_ne (by omega)]; exact h5 r hr
    · rw [up1_ne (by omega), up1_ne (by omega), up1_ne (by omega)]; exact h6 i hi
  · obtain ⟨a, b, c, d, e, f, g, i, j, l, o, p⟩ := kV_ne h
    rw [chg_ne a b]; exact (dSn c).trans ((dSn e).trans (dSn d))
/-- a rule more -/
theorem szN_same {D D' : ZD} {kd a b : Int32} (h1 : kd = 6 ∨ kd = 7 ∨ kd = 8 → D' 56 (ix a) = D 56 (ix a)) (h2 : kd = 6 ∨ kd = 7 → D' 56 (ix b) = D 56 (ix b)) : szN D' kd a b = szN D kd a b := by
  unfold szN
  by_cases h8 : kd = 8
  · rw [if_pos h8, if_pos h8, h1 (Or.inr (Or.inr h8))]
  · rw [if_neg h8, if_neg h8]
    by_cases h67 : kd = 6 ∨ kd = 7
    · rw [if_pos h67, if_pos h67, h1 (h67.elim Or.inl (fun q => Or.inr (Or.inl q))), h2 h67]
    · rw [if_neg h67, if_neg h67]
theorem see_rule {D : ZD} {f : Nat → Int32} {n : Nat} {kd a b b' sz : Int32} (ho : okD D) (hr : dR D < 40) (h67 : kd = 6 ∨ kd = 7 → b' = b) (hsz : sz = szN D kd a b') (ha : kd = 6 ∨ kd = 7 ∨ kd = 8 → ix a < dR D) (hb : kd = 6 ∨ kd = 7 → ix b' < dR D) (h : rM D f) (hv : LV n D) : rM (opRule D kd a b' sz) (up1 (up1 (up1 (up1 f (10 + 3 * dR D) kd) (11 + 3 * dR D) a) (12 + 3 * dR D) b) 2 (nI (dR D) + 1)) ∧ LV n (opRule D kd a b' sz) := by
  have e0 : dR (opRule D kd a b' sz) = dR D + 1 := by
    show ix (if (0 : Nat) = 0 then D 52 0 + 1 else D 52 0) = _
    rw [if_pos rfl, ho.1.2.2.1.1, ← nI_succ, ix, nI_clamp (by omega)]
  have r53 : ∀ r, opRule D kd a b' sz 53 r = if r = dR D then kd else D 53 r := fun r => rfl
  have r54 : ∀ r, opRule D kd a b' sz 54 r = if r = dR D then a else D 54 r := fun r => rfl
  have r55 : ∀ r, opRule D kd a b' sz 55 r = if r = dR D then b' else D 55 r := fun r => rfl
  have r56 : ∀ r, opRule D kd a b' sz 56 r = if r = dR D then sz else D 56 r := fun r => rfl
  obtain ⟨h1, h2, h3, h4, h5, h6⟩ := h
  constructor
  · refine ⟨?_, by rw [up1_self, e0, nI_succ], ?_, ?_, fun r hr' => ?_, fun i hi => ?_⟩
    · rw [up1_ne (by decide), up1_ne (by omega), up1_ne (by omega), up1_ne (by omega)]; exact h1
    · rw [up1_ne (by decide), up1_ne (by omega), up1_ne (by omega), up1_ne (by omega)]; exact h3
    · rw [up1_ne (by decide), up1_ne (by omega), up1_ne (by omega), up1_ne (by omega)]; exact h4
    · rw [e0] at hr'
      rw [r53, r54, r55]
      by_cases e : r = dR D
      · subst e
        rw [if_pos rfl, if_pos rfl, if_pos rfl]
        refine ⟨?_, ?_, fun q => ?_⟩
        · rw [up1_ne (by omega), up1_ne (by omega), up1_ne (by omega), up1_self]
        · rw [up1_ne (by omega), up1_ne (by omega), up1_self]
        · rw [up1_ne (by omega), up1_self, h67 q]
      · rw [if_neg e, if_neg e, if_neg e]
        refine ⟨?_, ?_, fun q => ?_⟩
        · rw [up1_ne (by omega), up1_ne (by omega), up1_ne (by omega), up1_ne (by omega)]; exact (h5 r (by omega)).1
        · rw [up1_ne (by omega), up1_ne (by omega), up1_ne (by omega), up1_ne (by omega)]; exact (h5 r (by omega)).2.1
        · rw [up1_ne (by omega), up1_ne (by omega), up1_ne (by omega), up1_ne (by omega)]; exact (h5 r (by omega)).2.2 q
    · have hi : i < dL D := hi
      refine ⟨?_, ?_, ?_⟩
      · rw [up1_ne (by omega), up1_ne (by omega), up1_ne (by omega), up1_ne (by omega)]; exact (h6 i hi).1
      · rw [up1_ne (by omega), up1_ne (by omega), up1_ne (by omega), up1_ne (by omega)]; exact (h6 i hi).2.1
      · rw [up1_ne (by omega), up1_ne (by omega), up1_ne (by omega), up1_ne (by omega)]; exact (h6 i hi).2.2
  · obtain ⟨v1, v2, v3, v4⟩ := hv
    refine ⟨v1, v2, fun r hr' => ?_, v4⟩
    rw [e0] at hr'
    rw [r53, r54, r55, r56]
    by_cases e : r = dR D
    · subst e
      rw [if_pos rfl, if_pos rfl, if_pos rfl, if_pos rfl]
      refine hsz.trans (szN_same (fun q => ?_) (fun q => ?_)).symm
      · rw [r56, if_neg (by have := ha q; omega)]
      · rw [r56, if_neg (by have := hb q; omega)]
    · rw [if_neg e, if_neg e, if_neg e, if_neg e, v3 r (by omega)]
      refine (szN_same (fun q => ?_) (fun q => ?_)).symm
      · obtain ⟨p, q', hp, hq, e1, e2⟩ := (ho.2.1 r (by omega)).2.2.2 q
        rw [r56, e1, show ix (nI p) = p from nI_clamp (by omega), if_neg (by omega)]
      · obtain ⟨p, q', hp, hq, e1, e2⟩ := (ho.2.1 r (by omega)).2.2.2 (q.elim Or.inl (fun q => Or.inr (Or.inl q)))
        rw [r56, e2, show ix (nI q') = q' from nI_clamp (by omega), if_neg (by omega)]
/-- a list more -/
theorem see_lst {D : ZD} {f : Nat → Int32} {n : Nat} {a o y : Int32} (ho : okD D) (hl : dL D < 8) (hy : 0 ≤ y) (h : rM D f) (hv : LV n D) : rM (fllD (opLst D a o y)) (up1 (up1 (up1 (up1 f (140 + 3 * dL D) a) (141 + 3 * dL D) o) (142 + 3 * dL D) y) 3 (nI (dL D) + 1)) ∧ LV n (fllD (opLst D a o y)) := by
  have e0 : dL (fllD (opLst D a o y)) = dL D + 1 := by
    show ix (if (0 : Nat) = 0 then D 57 0 + 1 else D 57 0) = _
    rw [if_pos rfl, ho.1.2.2.2.1, ← nI_succ, ix, nI_clamp (by omega)]
  have r58 : ∀ r, fllD (opLst D a o y) 58 r = if r = dL D then a else D 58 r := fun r => rfl
  have r59 : ∀ r, fllD (opLst D a o y) 59 r = if r = dL D then o else D 59 r := fun r => rfl
  have r60 : ∀ r, fllD (opLst D a o y) 60 r = if r = dL D then y else D 60 r := fun r => rfl
  obtain ⟨h1, h2, h3, h4, h5, h6⟩ := h
  have hR := ho.r
  constructor
  · refine ⟨?_, ?_, by rw [up1_self, e0, nI_succ], ?_, fun r hr' => ?_, fun i hi => ?_⟩
    · rw [up1_ne (by decide), up1_ne (by omega), up1_ne (by omega), up1_ne (by omega)]; exact h1
    · rw [up1_ne (by decide), up1_ne (by omega), up1_ne (by omega), up1_ne (by omega)]; exact h2
    · rw [up1_ne (by decide), up1_ne (by omega), up1_ne (by omega), up1_ne (by omega)]; exact h4
    · have hr' : r < dR D := hr'
      refine ⟨?_, ?_, fun q => ?_⟩
      · rw [up1_ne (by omega), up1_ne (by omega), up1_ne (by omega), up1_ne (by omega)]; exact (h5 r hr').1
      · rw [up1_ne (by omega), up1_ne (by omega), up1_ne (by omega), up1_ne (by omega)]; exact (h5 r hr').2.1
      · rw [up1_ne (by omega), up1_ne (by omega), up1_ne (by omega), up1_ne (by omega)]; exact (h5 r hr').2.2 q
    · rw [e0] at hi
      rw [r58, r59, r60]
      by_cases e : i = dL D
      · subst e
        rw [if_pos rfl, if_pos rfl, if_pos rfl]
        refine ⟨?_, ?_, ?_⟩
        · rw [up1_ne (by omega), up1_ne (by omega), up1_ne (by omega), up1_self]
        · rw [up1_ne (by omega), up1_ne (by omega), up1_self]
        · rw [up1_ne (by omega), up1_self]
      · rw [if_neg e, if_neg e, if_neg e]
        refine ⟨?_, ?_, ?_⟩
        · rw [up1_ne (by omega), up1_ne (by omega), up1_ne (by omega), up1_ne (by omega)]; exact (h6 i (by omega)).1
        · rw [up1_ne (by omega), up1_ne (by omega), up1_ne (by omega), up1_ne (by omega)]; exact (h6 i (by omega)).2.1
        · rw [up1_ne (by omega), up1_ne (by omega), up1_ne (by omega), up1_ne (by omega)]; exact (h6 i (by omega)).2.2
  · obtain ⟨v1, v2, v3, v4⟩ := hv
    refine ⟨v1, v2, v3, fun i hi => ?_⟩
    rw [e0] at hi
    rw [r60]
    split
    · exact hy
    · exact v4 i (by omega)
/-- a list's rule, order, limit anew -/
theorem see_set {D : ZD} {f : Nat → Int32} {n i : Nat} {a : Int32} (ho : okD D) (hi : i < dL D) (h : rM D f) (hv : LV n D) : rM (chgD (opSet D i a)) (up1 f (140 + 3 * i) a) ∧ LV n (chgD (opSet D i a)) := by
  have hR := ho.r
  have r58 : ∀ r, chgD (opSet D i a) 58 r = if r = i then a else D 58 r := fun r => rfl
  obtain ⟨h1, h2, h3, h4, h5, h6⟩ := h
  refine ⟨⟨?_, ?_, ?_, ?_, fun r hr => ?_, fun j hj => ?_⟩, hv⟩
  · rw [up1_ne (by omega)]; exact h1
  · rw [up1_ne (by omega)]; exact h2
  · rw [up1_ne (by omega)]; exact h3
  · rw [up1_ne (by omega)]; exact h4
  · have hr : r < dR D := hr
    rw [up1_ne (by omega), up1_ne (by omega), up1_ne (by omega)]; exact h5 r hr
  · have hj : j < dL D := hj
    rw [r58, up1_ne (show 141 + 3 * j ≠ 140 + 3 * i by omega), up1_ne (show 142 + 3 * j ≠ 140 + 3 * i by omega)]
    by_cases e : j = i
    · subst e; rw [if_pos rfl, up1_self]; exact ⟨rfl, (h6 j hj).2⟩
    · rw [if_neg e, up1_ne (by omega)]; exact h6 j hj
theorem see_ord {D : ZD} {f : Nat → Int32} {n i : Nat} {a : Int32} (ho : okD D) (hi : i < dL D) (h : rM D f) (hv : LV n D) : rM (chgD (opOrd D i a)) (up1 f (141 + 3 * i) a) ∧ LV n (chgD (opOrd D i a)) := by
  have hR := ho.r
  have r59 : ∀ r, chgD (opOrd D i a) 59 r = if r = i then a else D 59 r := fun r => rfl
  obtain ⟨h1, h2, h3, h4, h5, h6⟩ := h
  refine ⟨⟨?_, ?_, ?_, ?_, fun r hr => ?_, fun j hj => ?_⟩, hv⟩
  · rw [up1_ne (by omega)]; exact h1
  · rw [up1_ne (by omega)]; exact h2
  · rw [up1_ne (by omega)]; exact h3
  · rw [up1_ne (by omega)]; exact h4
  · have hr : r < dR D := hr
    rw [up1_ne (by omega), up1_ne (by omega), up1_ne (by omega)]; exact h5 r hr
  · have hj : j < dL D := hj
    rw [r59, up1_ne (show 140 + 3 * j ≠ 141 + 3 * i by omega), up1_ne (show 142 + 3 * j ≠ 141 + 3 * i by omega)]
    by_cases e : j = i
    · subst e; rw [if_pos rfl, up1_self]; exact ⟨(h6 j hj).1, rfl, (h6 j hj).2.2⟩
    · rw [if_neg e, up1_ne (by omega)]; exact h6 j hj
theorem see_lim {D : ZD} {f : Nat → Int32} {n i : Nat} {a : Int32} (ho : okD D) (hi : i < dL D) (ha : 0 ≤ a) (h : rM D f) (hv : LV n D) : rM (chgD (opLim D i a)) (up1 f (142 + 3 * i) a) ∧ LV n (chgD (opLim D i a)) := by
  have hR := ho.r
  have r60 : ∀ r, chgD (opLim D i a) 60 r = if r = i then a else D 60 r := fun r => rfl
  obtain ⟨h1, h2, h3, h4, h5, h6⟩ := h
  obtain ⟨v1, v2, v3, v4⟩ := hv
  refine ⟨⟨?_, ?_, ?_, ?_, fun r hr => ?_, fun j hj => ?_⟩, v1, v2, v3, fun j hj => ?_⟩
  · rw [up1_ne (by omega)]; exact h1
  · rw [up1_ne (by omega)]; exact h2
  · rw [up1_ne (by omega)]; exact h3
  · rw [up1_ne (by omega)]; exact h4
  · have hr : r < dR D := hr
    rw [up1_ne (by omega), up1_ne (by omega), up1_ne (by omega)]; exact h5 r hr
  · have hj : j < dL D := hj
    rw [r60, up1_ne (show 140 + 3 * j ≠ 142 + 3 * i by omega), up1_ne (show 141 + 3 * j ≠ 142 + 3 * i by omega)]
    by_cases e : j = i
    · subst e; rw [if_pos rfl, up1_self]; exact ⟨(h6 j hj).1, (h6 j hj).2.1, rfl⟩
    · rw [if_neg e, up1_ne (by omega)]; exact h6 j hj
  · have hj : j < dL D := hj
    rw [r60]
    split
    · exact ha
    · exact v4 j hj
theorem ix3 {c : Int32} {c' : Nat} (hc : c = nI c') (r : Nat) : c + 3 * nI r = nI (c' + 3 * r) := by
  rw [hc, show (3 : Int32) = nI 3 from rfl, pk_mul, nI_add]
