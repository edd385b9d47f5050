/-! lists of tracks beside their sets -/
/-- s has just what the list has -/
def memb (s : Int32) (tk : List Nat) : Prop := ∀ t : Nat, t < 32 → hasB s (nI t) = decide (t ∈ tk)
/-- a list in its order -/
def srt (pr : Nat → Bool) (pl : Nat → Int32) : List Nat → Prop
  | [] => True
  | j :: l => j < 24 ∧ pr j = true ∧ j ∉ l ∧ (∀ s : Int32, memb s (j :: l) → fF pr pl s 24 = some j) ∧ srt pr pl l
theorem fF_min {pr : Nat → Bool} {pl : Nat → Int32} {s : Int32} : ∀ {n j : Nat}, fF pr pl s n = some j → ∀ t : Nat, t < n → pr t = true → hasB s (nI t) = true → pl j ≤ pl t
  | 0, _, h, _, ht, _, _ => absurd ht (Nat.not_lt_zero _)
  | n + 1, j, h, t, ht, h1, h2 => by
    by_cases hc : pr n = true ∧ hasB s (nI n) = true ∧ ∀ j' : Nat, fF pr pl s n = some j' → pl n < pl j'
    · rw [fF_yes hc] at h
      obtain rfl := Option.some.inj h
      by_cases e : t = n
      · subst e; exact Int32.le_refl _
      · cases hf : fF pr pl s n with
        | none => exact absurd h2 (by rw [fF_none hf t (by omega) h1]; decide)
        | some j' => exact Int32.le_trans (Int32.le_of_lt (hc.2.2 j' hf)) (fF_min hf t (by omega) h1 h2)
    · rw [fF_no hc] at h
      by_cases e : t = n
      · subst e
        have : ¬ pl t < pl j := fun hl => hc ⟨h1, h2, fun j' hj' => by rw [h] at hj'; obtain rfl := Option.some.inj hj'; exact hl⟩
        exact Int32.not_lt.mp this
      · exact fF_min h t (by omega) h1 h2
theorem fF_sub {pr : Nat → Bool} {pl : Nat → Int32} {s left : Int32} : ∀ {n j : Nat}, fF pr pl left n = some j → hasB s (nI j) = true → (∀ t : Nat, t < n → hasB s (nI t) = true → hasB left (nI t) = true) → fF pr pl s n = some j
  | 0, _, h, _, _ => by cases h
  | n + 1, j, h, hj, hs => by
    by_cases hc : pr n = true ∧ hasB left (nI n) = true ∧ ∀ j' : Nat, fF pr pl left n = some j' → pl n < pl j'
    · rw [fF_yes hc] at h
      obtain rfl := Option.some.inj h
      refine fF_yes ⟨hc.1, hj, fun j' hj' => ?_⟩
      obtain ⟨a, b, c⟩ := fF_lt hj'
      cases hf : fF pr pl left n with
      | none => exact absurd (hs j' (by omega) c) (by rw [fF_none hf j' a b]; decide)
      | some j2 => exact Int32.lt_of_lt_of_le (hc.2.2 j2 hf) (fF_min hf j' a b (hs j' (by omega) c))
    · rw [fF_no hc] at h
      have ih := fF_sub h hj (fun t ht => hs t (by omega))
      rw [fF_no, ih]
      rintro ⟨a, b, c⟩
      exact hc ⟨a, hs n (Nat.lt_succ_self n) b, fun j' hj' => by rw [h] at hj'; obtain rfl := Option.some.inj hj'; exact c j ih⟩
theorem chL_srt {pr : Nat → Bool} {pl len : Nat → Int32} {lim : Int32} : ∀ (f : Nat) (left s : Int32), srt pr pl (chL pr pl len lim f left s)
  | 0, _, _ => trivial
  | f + 1, left, s => by
    cases hf : fF pr pl left 24 with
    | none => rw [chL_none hf]; trivial
    | some i =>
      have hi := fF_lt hf
      by_cases hc : lim = 0 ∨ s + len i ≤ lim
      · rw [chL_yes hf hc]
        refine ⟨hi.1, hi.2.1, fun h => ?_, fun s' hm => ?_, chL_srt f _ _⟩
        · have := (chL_in h).2.2
          rw [hasB_out (by omega) (by omega)] at this
          simp at this
        · refine fF_sub hf (by rw [hm i (by omega)]; simp) (fun t ht h => ?_)
          rw [hm t (by omega)] at h
          have h := of_decide_eq_true h
          rcases List.mem_cons.mp h with e | h
          · subst e; exact hi.2.2
          · have := (chL_in h).2.2
            rw [hasB_out (by omega) (by omega), Bool.and_eq_true] at this
            exact this.1
      · rw [chL_no hf hc]; exact chL_srt f _ _
theorem tkL_memb : ∀ (tk : List Nat) (acc : Int32), (∀ j ∈ tk, j < 32) → ∀ t : Nat, t < 32 → hasB (tkL acc tk) (nI t) = (hasB acc (nI t) || decide (t ∈ tk))
  | [], acc, _, t, _ => by simp [tkL]
  | j :: l, acc, h, t, ht => by
    rw [tkL, tkL_memb l _ (fun x hx => h x (List.mem_cons_of_mem _ hx)) t ht, hasB_or ht, hasB_bit (h j List.mem_cons_self) ht, Bool.or_assoc]
    congr 1
    by_cases e : j = t
    · subst e; simp
    · have : ¬ t = j := fun q => e q.symm
      simp [e, this]
theorem memb.out {s : Int32} {j : Nat} {l : List Nat} (h : memb s (j :: l)) (hj : j < 24) (hn : j ∉ l) : memb (outB s j) l := fun t ht => by
  rw [hasB_out (by omega) ht, h t ht]
  by_cases e : j = t
  · subst e; simp [hn]
  · have : ¬ t = j := fun q => e q.symm
    simp [e, this]
theorem memb.has {s : Int32} {j : Nat} {l : List Nat} (h : memb s (j :: l)) (hj : j < 24) : hasB s (nI j) = true := by rw [h j (by omega)]; simp
theorem memb.nil {s : Int32} (h : memb s []) : s = 0 := hasB_ext fun i hi => by rw [h i hi, hasB_0 hi]; rfl
/-- how many -/
theorem srt_len {pr : Nat → Bool} {pl : Nat → Int32} : ∀ {tk : List Nat} {s : Int32}, srt pr pl tk → memb s tk → pcB s = tk.length
  | [], s, _, h => by rw [h.nil]; exact pcB_0
  | j :: l, s, hs, h => by
    obtain ⟨a, b, c, d, e⟩ := hs
    rw [← pcB_out (show j < 32 by omega) (h.has a), srt_len e (h.out a c)]
    rfl
/-- sums -/
theorem smF_none (f : Nat → Int32) : ∀ n : Nat, smF (fun _ => false) f n = 0
  | 0 => rfl
  | n + 1 => by simp only [smF]; rw [smF_none f n]; rfl
theorem smF_out {p q : Nat → Bool} {f : Nat → Int32} {t : Nat} (h : ∀ i : Nat, i ≠ t → q i = p i) (hp : p t = true) (hq : q t = false) : ∀ n : Nat, smF p f n = smF q f n + (if t < n then f t else 0)
  | 0 => by simp [smF]
  | n + 1 => by
    have ih := smF_out (f := f) h hp hq n
    by_cases e : n = t
    · subst e
      simp only [smF, hp, hq, if_pos, ih, Nat.lt_irrefl, if_neg, Nat.lt_succ_self, if_true, if_false, Bool.false_eq_true]
      rw [Int32.add_zero]
    · have h1 := h n e
      by_cases hl : t < n
      · have hl2 : t < n + 1 := by omega
        rw [if_pos hl] at ih
        rw [if_pos hl2]
        cases hpn : p n with
        | true => rw [hpn] at h1; simp only [smF, hpn, h1, if_true, ih]; rw [Int32.add_assoc, Int32.add_assoc, Int32.add_comm (f t)]
        | false => rw [hpn] at h1; simp only [smF, hpn, h1, ih, Bool.false_eq_true, if_false]
      · have hl2 : ¬ t < n + 1 := by omega
        rw [if_neg hl, Int32.add_zero] at ih
        rw [if_neg hl2, Int32.add_zero]
        simp only [smF, h1, ih]
theorem foldl_out (f : Nat → Int32) : ∀ (l : List Nat) (a b : Int32), l.foldl (fun s j => s + f j) (a + b) = l.foldl (fun s j => s + f j) a + b
  | [], _, _ => rfl
  | j :: l, a, b => by
    simp only [List.foldl_cons]
    rw [show a + b + f j = (a + f j) + b from by rw [Int32.add_assoc, Int32.add_comm b, Int32.add_assoc], foldl_out f l]
theorem lsm_cons (f : Nat → Int32) (j : Nat) (l : List Nat) : lsm f (j :: l) = lsm f l + f j := by
  unfold lsm
  rw [List.foldl_cons, foldl_out]
theorem srt_sum {D : ZD} {pl : Nat → Int32} {f : Nat → Int32} : ∀ {tk : List Nat} {s : Int32}, srt (prD D) pl tk → memb s tk → smF (fun t => prD D t && hasB s (nI t)) f 24 = lsm f tk
  | [], s, _, h => by
    rw [h.nil]
    exact (smF_cong (fun i hi => by rw [hasB_0 (by omega), Bool.and_false]) (fun _ _ _ => rfl)).trans (smF_none f 24)
  | j :: l, s, hs, h => by
    obtain ⟨a, b, c, d, e⟩ := hs
    rw [lsm_cons, ← srt_sum e (h.out a c)]
    have := smF_out (p := fun t => prD D t && hasB s (nI t)) (q := fun t => prD D t && (hasB s (nI t) && !decide (j = t))) (f := f) (t := j) (fun i hi => by have : ¬ j = i := fun q => hi q.symm; simp [this]) (by simp [b, h.has a]) (by simp) 24
    rw [this, if_pos a]
    congr 1
    exact smF_cong (fun i hi => by rw [hasB_out (by omega) (by omega)]) (fun _ _ _ => rfl)
/-- the m-th -/
theorem lfD_shift (D : ZD) (ord s : Int32) : ∀ m : Nat, lfD D ord s (m + 1) = lfD D ord (lfD D ord s 1) m
  | 0 => rfl
  | m + 1 => by
    rw [lfD, lfD_shift D ord s m]
    rfl
theorem srt_at {D : ZD} {ord : Int32} : ∀ {tk : List Nat} {s : Int32}, srt (prD D) (plD D ord) tk → memb s tk → ∀ m j : Nat, tk[m]? = some j → frD D ord (lfD D ord s m) = nI j
  | [], _, _, _, m, j, h => by cases h
  | i :: l, s, hs, h, m, j, hj => by
    obtain ⟨a, b, c, d, e⟩ := hs
    have h0 : frD D ord s = nI i := by unfold frD; rw [d s h]; rfl
    cases m with
    | zero =>
      obtain rfl := Option.some.inj hj
      exact h0
    | succ m =>
      rw [lfD_shift]
      have h1 : lfD D ord s 1 = outB s i := by
        show s &&& ((1 <<< (frD D ord s &&& 31)) ^^^ (-1)) = outB s i
        rw [h0]; rfl
      rw [h1]
      exact srt_at e (h.out a c) m j hj
theorem LI.tk {D : ZD} {J : Nat → Int64} {lk : ZL} {as : Nat → Nat} {S : ZM} {L T : Nat → Nat} (hI : LI D J lk as S L T) {i : Nat} (hi : i < dL D) : memb (D 61 i) (tkD D i) ∧ srt (prD D) (plD D (D 59 i)) (tkD D i) := by
  obtain ⟨hN, hR, hO, hA⟩ := hI.c
  refine ⟨?_, chL_srt 24 _ _⟩
  rw [hI.k i hi, fixD_eq hR hN.2.2.2.2 hN.2.2.1.2 hO hA hi]
  intro t ht
  show hasB (tkL 0 (tkD D i)) (nI t) = _
  rw [tkL_memb (tkD D i) 0 (fun j hj => Nat.lt_trans (chL_in hj).1 (by decide)) t ht, hasB_0 ht, Bool.false_or]
theorem LI.k8 {D : ZD} {J : Nat → Int64} {lk : ZL} {as : Nat → Nat} {S : ZM} {L T : Nat → Nat} (hI : LI D J lk as S L T) {l : Nat} (hl : l < 8) : D 61 l = fixD D l := by
  by_cases h : l < dL D
  · exact hI.k l h
  · rw [hI.1.2.2.2.2.2.2 l hl (by omega)]
    show 0 = fixN D 8 l
    simp only [fixN]
    rw [if_neg h]
theorem LI.mt {D : ZD} {J : Nat → Int64} {lk : ZL} {as : Nat → Nat} {S : ZM} {L T : Nat → Nat} (hI : LI D J lk as S L T) {q : Nat} (hq : q < dR D) : mtD D (D 61) q = mtD D (fixD D) q := mtD_cong hI.c.2.1 hI.c.1.2.2.2.2 hI.c.1.2.2.1.2 hq (fun _ hl _ => hI.k8 hl)
theorem LI.sz {D : ZD} {J : Nat → Int64} {lk : ZL} {as : Nat → Nat} {S : ZM} {L T : Nat → Nat} (hI : LI D J lk as S L T) {i : Nat} (hi : i < dL D) : bcJ (D 61 i) = D 64 i := by
  obtain ⟨a, b⟩ := hI.tk hi
  rw [bcJ_pc, srt_len b a, (hI.w i hi).2.1]
theorem ctB_sF {p : Nat → Bool} : ∀ n : Nat, n ≤ 24 → ctB (sF p 24) n = cnF p n
  | 0, _ => rfl
  | n + 1, h => by
    simp only [ctB, cnF]
    rw [ctB_sF n (by omega), hasB_sF (by omega) (by decide)]
    have : decide (n < 24) = true := decide_eq_true (by omega)
    rw [this, Bool.true_and]
theorem bcJ_sF (p : Nat → Bool) : bcJ (sF p 24) = nI (cnF p 24) := by
  rw [bcJ_pc]
  have h24 := ctB_sF (p := p) 24 (Nat.le_refl _)
  have key : ∀ n : Nat, n ≤ 8 → ctB (sF p 24) (24 + n) = cnF p 24 := by
    intro n
    induction n with
    | zero => intro _; exact h24
    | succ n ih =>
      intro hn
      show ctB (sF p 24) (24 + n) + (if hasB (sF p 24) (nI (24 + n)) = true then 1 else 0) = _
      rw [ih (by omega), hasB_sF (by omega) (by decide)]
      have : decide (24 + n < 24) = false := decide_eq_false (by omega)
      rw [this, Bool.false_and]
      rfl
  rw [show pcB (sF p 24) = cnF p 24 from key 8 (Nat.le_refl _)]
