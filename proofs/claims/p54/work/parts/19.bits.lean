/-! bits of an int -/
def bitI (j : Nat) : Int32 := 1 <<< (nI j &&& 31)
/-- without bit j -/
def outB (s : Int32) (j : Nat) : Int32 := s &&& (bitI j ^^^ (-1))
theorem bitI_bv : ∀ i : Nat, i < 32 → (bitI i).toBitVec = BitVec.ofNat 32 (2 ^ i) := by decide +kernel
theorem bitI_get {i j : Nat} (hi : i < 32) (hj : j < 32) : (bitI i).toBitVec.getLsbD j = decide (i = j) := by
  rw [bitI_bv i hi, BitVec.getLsbD_ofNat, Nat.testBit_two_pow]
  simp [hj]
theorem i32_ext {s t : Int32} (h : ∀ i : Nat, i < 32 → s.toBitVec.getLsbD i = t.toBitVec.getLsbD i) : s = t := by
  apply Int32.toBitVec_inj.mp
  apply BitVec.eq_of_getLsbD_eq
  intro i hi
  exact h i hi
theorem and_bit {s : Int32} {i : Nat} (h : i < 32) : s &&& bitI i = 0 ↔ s.toBitVec.getLsbD i = false := by
  constructor
  · intro e
    have h1 : (s &&& bitI i).toBitVec.getLsbD i = (0 : Int32).toBitVec.getLsbD i := by rw [e]
    rw [Int32.toBitVec_and, BitVec.getLsbD_and, bitI_get h h] at h1
    simpa using h1
  · intro e
    refine i32_ext fun j hj => ?_
    rw [Int32.toBitVec_and, BitVec.getLsbD_and, bitI_get h hj]
    by_cases hij : i = j
    · subst hij; simp [e]
    · simp [hij]
theorem hasB_bt {s : Int32} {i : Nat} (h : i < 32) : hasB s (nI i) = s.toBitVec.getLsbD i := by
  have h1 := and_bit (s := s) h
  unfold hasB
  show decide (¬ s &&& bitI i = 0) = _
  cases hb : s.toBitVec.getLsbD i with
  | false => rw [hb] at h1; simp [h1]
  | true => rw [hb] at h1; simp [h1]
theorem hasB_ext {s t : Int32} (h : ∀ i : Nat, i < 32 → hasB s (nI i) = hasB t (nI i)) : s = t := i32_ext fun i hi => by rw [← hasB_bt hi, ← hasB_bt hi]; exact h i hi
theorem hasB_0 {i : Nat} (h : i < 32) : hasB 0 (nI i) = false := by rw [hasB_bt h]; simp
theorem hasB_or {s t : Int32} {i : Nat} (h : i < 32) : hasB (s ||| t) (nI i) = (hasB s (nI i) || hasB t (nI i)) := by
  rw [hasB_bt h, hasB_bt h, hasB_bt h, Int32.toBitVec_or, BitVec.getLsbD_or]
theorem hasB_and {s t : Int32} {i : Nat} (h : i < 32) : hasB (s &&& t) (nI i) = (hasB s (nI i) && hasB t (nI i)) := by
  rw [hasB_bt h, hasB_bt h, hasB_bt h, Int32.toBitVec_and, BitVec.getLsbD_and]
theorem hasB_bit {j i : Nat} (hj : j < 32) (h : i < 32) : hasB (bitI j) (nI i) = decide (j = i) := by rw [hasB_bt h, bitI_get hj h]
theorem hasB_not {s : Int32} {i : Nat} (h : i < 32) : hasB (s ^^^ (-1)) (nI i) = !hasB s (nI i) := by
  rw [hasB_bt h, hasB_bt h, Int32.toBitVec_xor, BitVec.getLsbD_xor]
  have : (-1 : Int32).toBitVec.getLsbD i = true := by
    have h2 : ∀ i : Nat, i < 32 → (-1 : Int32).toBitVec.getLsbD i = true := by decide +kernel
    exact h2 i h
  rw [this]; simp
theorem hasB_out {s : Int32} {j i : Nat} (hj : j < 32) (h : i < 32) : hasB (outB s j) (nI i) = (hasB s (nI i) && !decide (j = i)) := by
  rw [outB, hasB_and h, hasB_not h, hasB_bit hj h]
theorem hasB_sF {p : Nat → Bool} {i : Nat} (h : i < 32) : ∀ {n : Nat}, n ≤ 32 → hasB (sF p n) (nI i) = (decide (i < n) && p i)
  | 0, _ => by simp [sF, hasB_0 h]
  | n + 1, hn => by
    have ih := hasB_sF (p := p) h (n := n) (by omega)
    by_cases hp : p n = true
    · rw [sF_yes hp]
      show hasB (sF p n ||| bitI n) (nI i) = _
      rw [hasB_or h, ih, hasB_bit (by omega) h]
      by_cases hin : i = n
      · subst hin; simp [hp]
      · have : ¬ n = i := fun q => hin q.symm
        by_cases hlt : i < n
        · simp [hlt, this, show i < n + 1 by omega]
        · simp [hlt, this, show ¬ i < n + 1 by omega]
    · have hp : p n = false := by simpa using hp
      rw [sF_no hp, ih]
      by_cases hin : i = n
      · subst hin; simp [hp]
      · by_cases hlt : i < n
        · simp [hlt, show i < n + 1 by omega]
        · simp [hlt, show ¬ i < n + 1 by omega]
theorem sF_cong {p q : Nat → Bool} : ∀ {n : Nat}, (∀ i, i < n → p i = q i) → sF p n = sF q n
  | 0, _ => rfl
  | n + 1, h => by
    have ih := sF_cong (p := p) (q := q) (n := n) (fun i hi => h i (by omega))
    simp only [sF, ih, h n (by omega)]
theorem smF_cong {p q : Nat → Bool} {f g : Nat → Int32} : ∀ {n : Nat}, (∀ i, i < n → p i = q i) → (∀ i, i < n → p i = true → f i = g i) → smF p f n = smF q g n
  | 0, _, _ => rfl
  | n + 1, h, h2 => by
    have ih := smF_cong (p := p) (q := q) (f := f) (g := g) (n := n) (fun i hi => h i (by omega)) (fun i hi => h2 i (by omega))
    simp only [smF, ih]
    by_cases hp : p n = true
    · rw [if_pos hp, if_pos (by rw [← h n (by omega)]; exact hp), h2 n (by omega) hp]
    · rw [if_neg hp, if_neg (by rw [← h n (by omega)]; exact hp)]
theorem fF_cong {pr pr' : Nat → Bool} {pl pl' : Nat → Int32} {s : Int32} : ∀ {n : Nat}, (∀ i, i < n → pr i = pr' i) → (∀ i, i < n → pr i = true → pl i = pl' i) → fF pr pl s n = fF pr' pl' s n
  | 0, _, _ => rfl
  | n + 1, h, h2 => by
    have ih := fF_cong (pr := pr) (pr' := pr') (pl := pl) (pl' := pl') (s := s) (n := n) (fun i hi => h i (by omega)) (fun i hi => h2 i (by omega))
    simp only [fF, ← ih, ← h n (by omega)]
    by_cases hp : pr n = true ∧ hasB s (nI n) = true
    · have e : (∀ j : Nat, fF pr pl s n = some j → pl n < pl j) ↔ (∀ j : Nat, fF pr pl s n = some j → pl' n < pl' j) := by
        constructor
        · intro q j hj
          have hl := fF_lt hj
          rw [← h2 n (by omega) hp.1, ← h2 j (by omega) hl.2.1]; exact q j hj
        · intro q j hj
          have hl := fF_lt hj
          rw [h2 n (by omega) hp.1, h2 j (by omega) hl.2.1]; exact q j hj
      simp only [e]
    · have n1 : ¬ (pr n = true ∧ hasB s (nI n) = true ∧ ∀ j : Nat, fF pr pl s n = some j → pl n < pl j) := fun q => hp ⟨q.1, q.2.1⟩
      have n2 : ¬ (pr n = true ∧ hasB s (nI n) = true ∧ ∀ j : Nat, fF pr pl s n = some j → pl' n < pl' j) := fun q => hp ⟨q.1, q.2.1⟩
      rw [if_neg n1, if_neg n2]
theorem fF_none {pr : Nat → Bool} {pl : Nat → Int32} {s : Int32} : ∀ {n : Nat}, fF pr pl s n = none → ∀ i, i < n → pr i = true → hasB s (nI i) = false
  | 0, _, i, h, _ => absurd h (Nat.not_lt_zero i)
  | n + 1, hn, i, hi, hp => by
    simp only [fF] at hn
    split at hn
    · cases hn
    · next q =>
      by_cases hin : i = n
      · subst hin
        cases hb : hasB s (nI i) with
        | false => rfl
        | true => exact absurd ⟨hp, hb, fun j hj => by rw [hn] at hj; cases hj⟩ q
      · exact fF_none hn i (by omega) hp
/-- the reference's way to ask for a bit -/
theorem shr_bit {s : Int32} {i : Nat} (h : i < 32) : (s >>> (nI i &&& 31) &&& 1 = 1) ↔ hasB s (nI i) = true := by
  have h1 : ∀ i : Nat, i < 32 → ((nI i &&& 31).toBitVec.smod 32).toNat = i := by decide +kernel
  have e : (s >>> (nI i &&& 31)).toBitVec.getLsbD 0 = s.toBitVec.getLsbD i := by
    rw [Int32.toBitVec_shiftRight, BitVec.getLsbD_sshiftRight']
    rw [h1 i h]
    simp [h]
  rw [hasB_bt h, ← e]
  constructor
  · intro q
    have h2 : (s >>> (nI i &&& 31) &&& 1).toBitVec.getLsbD 0 = (1 : Int32).toBitVec.getLsbD 0 := by rw [q]
    rw [Int32.toBitVec_and, BitVec.getLsbD_and] at h2
    simpa using h2
  · intro q
    refine i32_ext fun j hj => ?_
    rw [Int32.toBitVec_and, BitVec.getLsbD_and]
    have h3 : ∀ j : Nat, j < 32 → (1 : Int32).toBitVec.getLsbD j = decide (j = 0) := by decide +kernel
    rw [h3 j hj]
    by_cases hj0 : j = 0
    · subst hj0; rw [q]; rfl
    · simp [hj0]
