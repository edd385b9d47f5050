/-! counting and choosing -/
theorem ctB_le (s : Int32) : ∀ n, ctB s n ≤ n
  | 0 => Nat.le_refl 0
  | n + 1 => by have := ctB_le s n; simp only [ctB]; split <;> omega
theorem ctB_zero {s : Int32} : ∀ {n : Nat}, ctB s n = 0 → ∀ i, i < n → hasB s (nI i) = false
  | 0, _, i, h => absurd h (Nat.not_lt_zero i)
  | n + 1, h, i, hi => by
    simp only [ctB] at h
    by_cases hb : hasB s (nI n) = true
    · rw [if_pos hb] at h; omega
    · by_cases hin : i = n
      · subst hin; simpa using hb
      · exact ctB_zero (n := n) (by omega) i (by omega)
theorem ctB_none {s : Int32} : ∀ {n : Nat}, (∀ i, i < n → hasB s (nI i) = false) → ctB s n = 0
  | 0, _ => rfl
  | n + 1, h => by
    have ih := ctB_none (s := s) (n := n) (fun i hi => h i (by omega))
    simp only [ctB, ih, h n (by omega)]; rfl
theorem ctB_out {s : Int32} {j : Nat} (hj : j < 32) (hb : hasB s (nI j) = true) : ∀ {n : Nat}, n ≤ 32 → ctB (outB s j) n + (if j < n then 1 else 0) = ctB s n
  | 0, _ => by simp [ctB]
  | n + 1, hn => by
    have ih := ctB_out (s := s) hj hb (n := n) (by omega)
    simp only [ctB]
    rw [hasB_out hj (by omega)]
    by_cases hjn : j = n
    · subst hjn
      simp only [hb, decide_true, Bool.not_true, Bool.and_false]
      rw [if_neg (Nat.lt_irrefl j)] at ih
      rw [if_pos (Nat.lt_succ_self j)]
      simp only [if_true]
      rw [if_neg (by decide)]; omega
    · simp only [hjn, decide_false, Bool.not_false, Bool.and_true]
      by_cases hlt : j < n
      · rw [if_pos hlt] at ih; rw [if_pos (show j < n + 1 by omega)]; omega
      · rw [if_neg hlt] at ih; rw [if_neg (show ¬ j < n + 1 by omega)]; omega
theorem pcB_out {s : Int32} {j : Nat} (hj : j < 32) (hb : hasB s (nI j) = true) : pcB (outB s j) + 1 = pcB s := by
  have := ctB_out hj hb (n := 32) (Nat.le_refl _)
  rw [if_pos hj] at this; exact this
theorem pcB_32 (s : Int32) : pcB s ≤ 32 := ctB_le s 32
theorem pcB_24 {D : ZD} {s : Int32} (h : subD D s) : pcB s ≤ 24 := by
  have h1 : ∀ k : Nat, k ≤ 8 → ctB s (24 + k) = ctB s 24 := by
    intro k
    induction k with
    | zero => intro _; rfl
    | succ k ih =>
      intro hk
      rw [show 24 + (k + 1) = (24 + k) + 1 by omega, ctB, ih (by omega)]
      cases hb : hasB s (nI (24 + k)) with
      | false => rfl
      | true => have := (h (24 + k) (by omega) hb).1; omega
  have := h1 8 (by omega)
  show ctB s 32 ≤ 24
  rw [show (32 : Nat) = 24 + 8 from rfl, this]; exact ctB_le s 24
theorem subD_out {D : ZD} {s : Int32} {j : Nat} (hj : j < 32) (h : subD D s) : subD D (outB s j) := by
  intro i hi hb
  rw [hasB_out hj hi, Bool.and_eq_true] at hb
  exact h i hi hb.1
theorem first_some {D : ZD} {s ord : Int32} (h : subD D s) (hp : 0 < pcB s) : ∃ j : Nat, fF (prD D) (plD D ord) s 24 = some j ∧ j < 24 ∧ prD D j = true ∧ hasB s (nI j) = true := by
  cases hf : fF (prD D) (plD D ord) s 24 with
  | some j => exact ⟨j, rfl, fF_lt hf⟩
  | none =>
    exfalso
    have : pcB s = 0 := ctB_none (fun i hi => by
      cases hb : hasB s (nI i) with
      | false => rfl
      | true => obtain ⟨h1, h2⟩ := h i hi hb; rw [fF_none hf i h1 h2] at hb; cases hb)
    omega
theorem first_zero {pr : Nat → Bool} {pl : Nat → Int32} {s : Int32} (h : pcB s = 0) : fF pr pl s 24 = none := by
  cases hf : fF pr pl s 24 with
  | none => rfl
  | some j =>
    have h1 := fF_lt hf
    rw [ctB_zero h j (by omega)] at h1
    cases h1.2.2
theorem smF_one {p : Nat → Bool} {f : Nat → Int32} {j : Nat} (hj : p j = true) : ∀ {n : Nat}, (∀ i, i < n → p i = true → i = j) → smF p f n = if j < n then f j else 0
  | 0, _ => by simp [smF]
  | n + 1, h => by
    have ih := smF_one (f := f) hj (n := n) (fun i hi => h i (by omega))
    by_cases hp : p n = true
    · have hn := h n (by omega) hp
      rw [smF_yes hp, ih, ← hn, if_neg (Nat.lt_irrefl n), if_pos (Nat.lt_succ_self n)]; simp
    · have hpf : p n = false := by simpa using hp
      rw [smF_no hpf, ih]
      have hjn : j ≠ n := by rintro rfl; exact hp hj
      by_cases hlt : j < n
      · rw [if_pos hlt, if_pos (by omega)]
      · rw [if_neg hlt, if_neg (by omega)]
/-- the length of one track, as the class adds it up -/
theorem rT_len1 {D : ZD} {S : ZM} {L : Nat → Nat} (h : rT D S L) {j : Nat} (hj : j < 24) (hp : prD D j = true) : smF (pS S L (fun i _ => hasB (bitI j) (nI i))) (fun i => mI S 17 (tad S L i)) 24 = D 42 j := by
  obtain ⟨a, ha, h1⟩ := (h j hj).2 hp
  rw [smF_one (j := j) (by rw [pS_some ha, hasB_bit (by omega) (by omega)]; simp) (fun i hi hq => by
    cases hti : tQ S (L 1) i with
    | none => rw [pS_none hti] at hq; cases hq
    | some b => rw [pS_some hti, hasB_bit (by omega) (by omega)] at hq; simpa using (of_decide_eq_true hq).symm), if_pos hj]
  simp only [tad, ha, Option.getD_some]
  exact h1.2.2.1
theorem chL_none {pr : Nat → Bool} {pl len : Nat → Int32} {lim left s : Int32} (h : fF pr pl left 24 = none) : ∀ f, chL pr pl len lim f left s = []
  | 0 => rfl
  | f + 1 => by simp only [chL, h]
theorem chL_yes {pr : Nat → Bool} {pl len : Nat → Int32} {lim left s : Int32} {j f : Nat} (h : fF pr pl left 24 = some j) (h2 : lim = 0 ∨ s + len j ≤ lim) : chL pr pl len lim (f + 1) left s = j :: chL pr pl len lim f (outB left j) (s + len j) := by
  simp only [chL, h]; rw [if_pos h2]
theorem chL_no {pr : Nat → Bool} {pl len : Nat → Int32} {lim left s : Int32} {j f : Nat} (h : fF pr pl left 24 = some j) (h2 : ¬ (lim = 0 ∨ s + len j ≤ lim)) : chL pr pl len lim (f + 1) left s = chL pr pl len lim f (outB left j) s := by
  simp only [chL, h]; rw [if_neg h2]
