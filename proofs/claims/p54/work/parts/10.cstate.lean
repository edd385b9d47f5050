/-! the class's memory: where its arrays lie, what its tracks are; spec functions of sets and orders -/
def bI (b : Bool) : Int32 := if b = true then 1 else 0
theorem bI_ne {b : Bool} : ¬ bI b = 0 ↔ b = true := by cases b <;> decide
theorem bI_eq {b : Bool} : bI b = 0 ↔ b = false := by cases b <;> decide
/-- the arrays of the object L 0 -/
def cS (S : ZM) (L : Nat → Nat) : Prop :=
  mK S (L 0) = 6 ∧
  (mQ S 22 (L 0) = some (L 1) ∧ mK S (L 1) = 18 ∧ mN S (L 1) = 24) ∧
  (mQ S 23 (L 0) = some (L 2) ∧ mK S (L 2) = 17 ∧ mN S (L 2) = 16) ∧
  (mQ S 24 (L 0) = some (L 3) ∧ mK S (L 3) = 16 ∧ mN S (L 3) = 40) ∧
  (mQ S 25 (L 0) = some (L 4) ∧ mK S (L 4) = 15 ∧ mN S (L 4) = 8) ∧
  (mQ S 31 (L 0) = some (L 5) ∧ mK S (L 5) = 10 ∧ mN S (L 5) = 8) ∧
  (mQ S 32 (L 0) = some (L 6) ∧ mK S (L 6) = 10 ∧ mN S (L 6) = 8) ∧
  (mQ S 33 (L 0) = some (L 7) ∧ mK S (L 7) = 10 ∧ mN S (L 7) = 8) ∧
  (mQ S 34 (L 0) = some (L 8) ∧ mK S (L 8) = 19 ∧ mN S (L 8) = 7) ∧
  (∀ i : Nat, i < 7 → tQ S (L 8) i = some (L (9 + i)) ∧ mK S (L (9 + i)) = 10 ∧ mN S (L (9 + i)) = 7) ∧
  (∀ i j : Nat, i < 16 → j < 16 → L i = L j → i = j)
theorem cS.c {S : ZM} {L : Nat → Nat} (h : cS S L) : mK S (L 0) = 6 := h.1
theorem cS.t {S : ZM} {L : Nat → Nat} (h : cS S L) : mQ S 22 (L 0) = some (L 1) ∧ mK S (L 1) = 18 ∧ mN S (L 1) = 24 := h.2.1
theorem cS.g {S : ZM} {L : Nat → Nat} (h : cS S L) : mQ S 23 (L 0) = some (L 2) ∧ mK S (L 2) = 17 ∧ mN S (L 2) = 16 := h.2.2.1
theorem cS.r {S : ZM} {L : Nat → Nat} (h : cS S L) : mQ S 24 (L 0) = some (L 3) ∧ mK S (L 3) = 16 ∧ mN S (L 3) = 40 := h.2.2.2.1
theorem cS.l {S : ZM} {L : Nat → Nat} (h : cS S L) : mQ S 25 (L 0) = some (L 4) ∧ mK S (L 4) = 15 ∧ mN S (L 4) = 8 := h.2.2.2.2.1
theorem cS.kp {S : ZM} {L : Nat → Nat} (h : cS S L) : mQ S 31 (L 0) = some (L 5) ∧ mK S (L 5) = 10 ∧ mN S (L 5) = 8 := h.2.2.2.2.2.1
theorem cS.ka {S : ZM} {L : Nat → Nat} (h : cS S L) : mQ S 32 (L 0) = some (L 6) ∧ mK S (L 6) = 10 ∧ mN S (L 6) = 8 := h.2.2.2.2.2.2.1
theorem cS.br {S : ZM} {L : Nat → Nat} (h : cS S L) : mQ S 33 (L 0) = some (L 7) ∧ mK S (L 7) = 10 ∧ mN S (L 7) = 8 := h.2.2.2.2.2.2.2.1
theorem cS.dt {S : ZM} {L : Nat → Nat} (h : cS S L) : mQ S 34 (L 0) = some (L 8) ∧ mK S (L 8) = 19 ∧ mN S (L 8) = 7 := h.2.2.2.2.2.2.2.2.1
theorem cS.dr {S : ZM} {L : Nat → Nat} (h : cS S L) : ∀ i : Nat, i < 7 → tQ S (L 8) i = some (L (9 + i)) ∧ mK S (L (9 + i)) = 10 ∧ mN S (L (9 + i)) = 7 := h.2.2.2.2.2.2.2.2.2.1
theorem cS.ap {S : ZM} {L : Nat → Nat} (h : cS S L) : ∀ i j : Nat, i < 16 → j < 16 → L i = L j → i = j := h.2.2.2.2.2.2.2.2.2.2
/-- the tracks that are there, by their numbers -/
def cTk (S : ZM) (L : Nat → Nat) : Prop := ∀ (i a : Nat), i < 24 → tQ S (L 1) i = some a → mK S a = 5 ∧ mI S 16 a = nI i
def cGk (S : ZM) (L : Nat → Nat) : Prop := ∀ (i a : Nat), i < 16 → tQ S (L 2) i = some a → mK S a = 4 ∧ mI S 10 a = nI i
def cRk (S : ZM) (L : Nat → Nat) : Prop := ∀ (i a : Nat), i < 40 → tQ S (L 3) i = some a → mK S a = 3 ∧ mI S 3 a = nI i
def cLk (S : ZM) (L : Nat → Nat) : Prop := ∀ (i a : Nat), i < 8 → tQ S (L 4) i = some a → mK S a = 2
/-- the entry of a row of n references at a number, null where there is none -/
def cAt (f : Nat → Option Nat) (n : Nat) (x : Int32) : Option Nat := if 0 ≤ x ∧ x < nI n then f x.toNatClampNeg else none
theorem cAt_nI {f : Nat → Option Nat} {n i : Nat} (h : i < n) (hn : n < 2 ^ 31) : cAt f n (nI i) = f i := by
  unfold cAt
  rw [if_pos ⟨nI_pos' (by omega), nI_lt h hn⟩, nI_clamp (by omega)]
theorem cAt_some {f : Nat → Option Nat} {n a : Nat} {x : Int32} (hn : n < 2 ^ 31) (h : cAt f n x = some a) : ∃ i : Nat, i < n ∧ x = nI i ∧ f i = some a := by
  unfold cAt at h
  by_cases hx : 0 ≤ x ∧ x < nI n
  · rw [if_pos hx] at h
    obtain ⟨j, hj, rfl⟩ := nI_of (Int32.not_lt.mpr hx.1)
    rw [nI_clamp hj] at h
    exact ⟨j, (nI_ltI hj hn).mp hx.2, rfl, h⟩
  · rw [if_neg hx] at h; cases h
theorem vp_in_of2 {x : Int32} {n : Nat} (h1 : ¬ x < 0) (h2 : ¬ nI n ≤ x) (hn : n < 2 ^ 31) : vp_in x n := by
  obtain ⟨j, hj, rfl⟩ := nI_of h1
  refine vp_in_nI ?_ hn
  by_cases h : j < n
  · exact h
  · exact absurd (nI_le (by omega) hj) h2
theorem cAt_lo {f : Nat → Option Nat} {n : Nat} {x : Int32} (h : x < 0) : cAt f n x = none := if_neg fun q => absurd h (Int32.not_lt.mpr q.1)
theorem cAt_hi {f : Nat → Option Nat} {n : Nat} {x : Int32} (h : nI n ≤ x) : cAt f n x = none := if_neg fun q => absurd q.2 (Int32.not_lt.mpr h)
theorem cAt_in {f : Nat → Option Nat} {n : Nat} {x : Int32} (h1 : ¬ x < 0) (h2 : ¬ nI n ≤ x) : cAt f n x = f x.toNatClampNeg := if_pos ⟨Int32.not_lt.mp h1, Int32.not_le.mp h2⟩
def hasB (s x : Int32) : Bool := decide (¬ s &&& (1 <<< (x &&& 31)) = 0)
/-- what an order of choice compares -/
def plO (ord len rat pl num : Int32) : Int32 := if ord = 115 then len else if ord = 114 then -rat else if ord = 112 then pl else -num
theorem zt_ne {x v : Int32} {w : Int} (h : ¬ x = v) (hv : v.toInt = w) : ¬ x.toInt = w := fun q => h (Int32.toInt_inj.mp (q.trans hv.symm))
def prS (S : ZM) (L : Nat → Nat) (i : Nat) : Bool := (tQ S (L 1) i).isSome
def tad (S : ZM) (L : Nat → Nat) (i : Nat) : Nat := (tQ S (L 1) i).getD 0
def plS (S : ZM) (L : Nat → Nat) (ord : Int32) (i : Nat) : Int32 := plO ord (mI S 17 (tad S L i)) (mI S 18 (tad S L i)) (mI S 19 (tad S L i)) (nI i)
/-- the first of a set in an order, of the numbers below i -/
def fF (pr : Nat → Bool) (pl : Nat → Int32) (s : Int32) : Nat → Option Nat
  | 0 => none
  | i + 1 => if pr i = true ∧ hasB s (nI i) = true ∧ (∀ j : Nat, fF pr pl s i = some j → pl i < pl j) then some i else fF pr pl s i
theorem fF_lt {pr : Nat → Bool} {pl : Nat → Int32} {s : Int32} : ∀ {i j : Nat}, fF pr pl s i = some j → j < i ∧ pr j = true ∧ hasB s (nI j) = true
  | 0, j, h => by cases h
  | i + 1, j, h => by
    simp only [fF] at h
    split at h
    · next q => cases h; exact ⟨by omega, q.1, q.2.1⟩
    · have := fF_lt h; exact ⟨by omega, this.2⟩
