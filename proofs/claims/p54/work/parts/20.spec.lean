/-! what the library is, in numbers: D k i is place i of the reference's field k (scalars at place 0) -/
abbrev ZD : Type := Nat → Nat → Int32
abbrev ix (x : Int32) : Nat := x.toNatClampNeg
def dT (D : ZD) : Nat := ix (D 41 0)
def dG (D : ZD) : Nat := ix (D 48 0)
def dR (D : ZD) : Nat := ix (D 52 0)
def dL (D : ZD) : Nat := ix (D 57 0)
def dU (D : ZD) : Nat := ix (D 67 0)
/-- track i is there -/
def prD (D : ZD) (i : Nat) : Bool := decide (i < dT D) && decide (D 47 i = 0)
def plD (D : ZD) (ord : Int32) (i : Nat) : Int32 := plO ord (D 42 i) (D 43 i) (D 44 i) (nI i)
/-- rule r holds for track t, while list l has the set K l -/
def evR (D : ZD) (K : Nat → Int32) : Nat → Nat → Nat → Bool
  | 0, _, _ => false
  | f + 1, r, t =>
    if D 53 r = 0 then hasB (D 46 t) (D 54 r)
    else if D 53 r = 1 then decide (D 54 r ≤ D 43 t)
    else if D 53 r = 2 then decide (D 44 t ≤ D 54 r)
    else if D 53 r = 3 then decide (D 42 t ≤ D 54 r)
    else if D 53 r = 4 then decide (0 < D 44 t) && decide (D 40 0 - D 45 t ≤ D 54 r)
    else if D 53 r = 5 then hasB (K (ix (D 54 r))) (nI t)
    else if D 53 r = 6 then evR D K f (ix (D 54 r)) t && evR D K f (ix (D 55 r)) t
    else if D 53 r = 7 then evR D K f (ix (D 54 r)) t || evR D K f (ix (D 55 r)) t
    else !evR D K f (ix (D 54 r)) t
def ev (D : ZD) (K : Nat → Int32) (r t : Nat) : Bool := evR D K 41 r t
/-- the lists that rule r asks for, as bits -/
def lsR (D : ZD) : Nat → Nat → Int32
  | 0, _ => 0
  | f + 1, r =>
    if D 53 r = 5 then 1 <<< (D 54 r &&& 31)
    else if D 53 r = 6 ∨ D 53 r = 7 then lsR D f (ix (D 54 r)) ||| lsR D f (ix (D 55 r))
    else if D 53 r = 8 then lsR D f (ix (D 54 r))
    else 0
def lsD (D : ZD) (r : Nat) : Int32 := lsR D 41 r
/-- the tracks that match rule r -/
def mtD (D : ZD) (K : Nat → Int32) (r : Nat) : Int32 := sF (fun t => prD D t && ev D K r t) 24
/-- the tracks taken, in their order -/
def chL (pr : Nat → Bool) (pl len : Nat → Int32) (lim : Int32) : Nat → Int32 → Int32 → List Nat
  | 0, _, _ => []
  | f + 1, left, s => match fF pr pl left 24 with
    | none => []
    | some j => if lim = 0 ∨ s + len j ≤ lim then j :: chL pr pl len lim f (outB left j) (s + len j) else chL pr pl len lim f (outB left j) s
def tkL (acc : Int32) : List Nat → Int32
  | [] => acc
  | j :: l => tkL (acc ||| bitI j) l
/-- the tracks that list l takes, in their order, while the lists have the sets K -/
def tkO (D : ZD) (K : Nat → Int32) (l : Nat) : List Nat := chL (prD D) (plD D (D 59 l)) (fun j => D 42 j) (D 60 l) 24 (mtD D K (ix (D 58 l))) 0
def chD (D : ZD) (K : Nat → Int32) (l : Nat) : Int32 := tkL 0 (tkO D K l)
def fixN (D : ZD) : Nat → Nat → Int32
  | 0, _ => 0
  | n + 1, l => if l < dL D then chD D (fixN D n) l else 0
/-- what each list has -/
def fixD (D : ZD) : Nat → Int32 := fixN D 8
/-- the rules are trees over rules with lower numbers, over tags and lists that are there -/
def wfR (D : ZD) : Prop := ∀ r : Nat, r < dR D →
  (∃ k : Nat, k ≤ 8 ∧ D 53 r = nI k) ∧
  (D 53 r = 0 → ∃ g : Nat, g < dG D ∧ D 54 r = nI g) ∧
  (D 53 r = 5 → ∃ l : Nat, l < dL D ∧ D 54 r = nI l) ∧
  (D 53 r = 6 ∨ D 53 r = 7 ∨ D 53 r = 8 → ∃ a b : Nat, a < r ∧ b < r ∧ D 54 r = nI a ∧ D 55 r = nI b)
/-- how many there are -/
def wfN (D : ZD) : Prop := (D 41 0 = nI (dT D) ∧ dT D ≤ 24) ∧ (D 48 0 = nI (dG D) ∧ dG D ≤ 16) ∧ (D 52 0 = nI (dR D) ∧ dR D ≤ 40) ∧ (D 57 0 = nI (dL D) ∧ dL D ≤ 8)
theorem prD_lt {D : ZD} {i : Nat} (h : prD D i = true) : i < dT D := by
  simp only [prD, Bool.and_eq_true, decide_eq_true_eq] at h; exact h.1
theorem evR_stable {D : ZD} {K : Nat → Int32} (hR : wfR D) (hn : dR D ≤ 40) : ∀ (f f' r t : Nat), r < dR D → r < f → r < f' → evR D K f r t = evR D K f' r t
  | 0, _, r, _, _, h, _ => absurd h (Nat.not_lt_zero r)
  | _ + 1, 0, r, _, _, _, h => absurd h (Nat.not_lt_zero r)
  | f + 1, f' + 1, r, t, hr, h1, h2 => by
    have key : D 53 r = 6 ∨ D 53 r = 7 ∨ D 53 r = 8 → evR D K f (ix (D 54 r)) t = evR D K f' (ix (D 54 r)) t ∧ evR D K f (ix (D 55 r)) t = evR D K f' (ix (D 55 r)) t := by
      intro h
      obtain ⟨a, b, ha, hb, e1, e2⟩ := (hR r hr).2.2.2 h
      have l1 : ix (D 54 r) < r := by rw [e1, ix]; rw [nI_clamp (by omega)]; exact ha
      have l2 : ix (D 55 r) < r := by rw [e2, ix]; rw [nI_clamp (by omega)]; exact hb
      exact ⟨evR_stable hR hn f f' _ t (by omega) (by omega) (by omega), evR_stable hR hn f f' _ t (by omega) (by omega) (by omega)⟩
    simp only [evR]
    by_cases h6 : D 53 r = 6 ∨ D 53 r = 7 ∨ D 53 r = 8
    · rw [(key h6).1, (key h6).2]
    · obtain ⟨k, hk, ek⟩ := (hR r hr).1
      rcases (show k = 0 ∨ k = 1 ∨ k = 2 ∨ k = 3 ∨ k = 4 ∨ k = 5 ∨ k = 6 ∨ k = 7 ∨ k = 8 by omega) with rfl | rfl | rfl | rfl | rfl | rfl | rfl | rfl | rfl <;> first | (exact absurd (Or.inl ek) h6) | (exact absurd (Or.inr (Or.inl ek)) h6) | (exact absurd (Or.inr (Or.inr ek)) h6) | (rw [ek]; rfl)
