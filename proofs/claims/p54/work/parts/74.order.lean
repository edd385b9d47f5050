/-! lists in their order of choice, sums over them: the pure side of the law's isList -/
/-- chosen ahead of -/
def ltP (pl : Nat → Int32) (i j : Nat) : Prop := pl i < pl j ∨ (pl i = pl j ∧ i < j)
theorem ltP_irr (pl : Nat → Int32) (a : Nat) : ¬ ltP pl a a := by
  rintro (h | h)
  · exact Int32.lt_irrefl h
  · exact Nat.lt_irrefl a h.2
theorem ltP_tr {pl : Nat → Int32} {a b c : Nat} (h : ltP pl a b) (h' : ltP pl b c) : ltP pl a c := by
  rcases h with h | ⟨h1, h2⟩
  · rcases h' with h' | ⟨h1', h2'⟩
    · exact Or.inl (Int32.lt_trans h h')
    · exact Or.inl (h1' ▸ h)
  · rcases h' with h' | ⟨h1', h2'⟩
    · exact Or.inl (h1 ▸ h')
    · exact Or.inr ⟨h1.trans h1', Nat.lt_trans h2 h2'⟩
theorem ltP_tot (pl : Nat → Int32) {a b : Nat} (h : a ≠ b) : ltP pl a b ∨ ltP pl b a := by
  by_cases h1 : pl a < pl b
  · exact Or.inl (Or.inl h1)
  · by_cases h2 : pl b < pl a
    · exact Or.inr (Or.inl h2)
    · have e : pl a = pl b := Int32.le_antisymm (Int32.not_lt.mp h2) (Int32.not_lt.mp h1)
      rcases Nat.lt_or_gt_of_ne h with q | q
      · exact Or.inl (Or.inr ⟨e, q⟩)
      · exact Or.inr (Or.inr ⟨e.symm, q⟩)
theorem ltP_asy {pl : Nat → Int32} {a b : Nat} (h : ltP pl a b) : ¬ ltP pl b a := fun h' => ltP_irr pl a (ltP_tr h h')
/-- two rows in order with the same members are one -/
theorem srt_one {pl : Nat → Int32} : ∀ {l1 l2 : List Nat}, l1.Pairwise (ltP pl) → l2.Pairwise (ltP pl) → (∀ a, a ∈ l1 ↔ a ∈ l2) → l1 = l2
  | [], [], _, _, _ => rfl
  | [], b :: u, _, _, h => absurd ((h b).mpr List.mem_cons_self) List.not_mem_nil
  | a :: t, [], _, _, h => absurd ((h a).mp List.mem_cons_self) List.not_mem_nil
  | a :: t, b :: u, h1, h2, h => by
    obtain ⟨p1, q1⟩ := List.pairwise_cons.mp h1
    obtain ⟨p2, q2⟩ := List.pairwise_cons.mp h2
    have hab : a = b := by
      rcases List.mem_cons.mp ((h a).mp List.mem_cons_self) with e | e
      · exact e
      · rcases List.mem_cons.mp ((h b).mpr List.mem_cons_self) with e' | e'
        · exact e'.symm
        · exact absurd (p2 a e) (ltP_asy (p1 b e'))
    subst hab
    have : t = u := srt_one q1 q2 (fun x => ⟨fun hx => by
      rcases List.mem_cons.mp ((h x).mp (List.mem_cons_of_mem _ hx)) with e | e
      · subst e; exact absurd (p1 _ hx) (ltP_irr pl _)
      · exact e, fun hx => by
      rcases List.mem_cons.mp ((h x).mpr (List.mem_cons_of_mem _ hx)) with e | e
      · subst e; exact absurd (p2 _ hx) (ltP_irr pl _)
      · exact e⟩)
    rw [this]
theorem srt_nodup {pl : Nat → Int32} {l : List Nat} (h : l.Pairwise (ltP pl)) : l.Nodup := h.imp fun {a b} hab e => by subst e; exact ltP_irr pl _ hab
/-- what fF finds is ahead of all others -/
theorem fF_min {pr : Nat → Bool} {pl : Nat → Int32} {s : Int32} : ∀ {n j : Nat}, fF pr pl s n = some j → ∀ i : Nat, i < n → pr i = true → hasB s (nI i) = true → i ≠ j → ltP pl j i
  | 0, _, h, _, _, _, _, _ => by cases h
  | n + 1, j, h, i, hi, hp, hb, hne => by
    simp only [fF] at h
    split at h
    · next q =>
      cases h
      have hin : i < n := by omega
      cases hf : fF pr pl s n with
      | none => rw [fF_none hf i hin hp] at hb; cases hb
      | some k =>
        have h1 := q.2.2 k hf
        by_cases hk : i = k
        · subst hk; exact Or.inl h1
        · rcases fF_min hf i hin hp hb hk with h2 | h2
          · exact Or.inl (Int32.lt_trans h1 h2)
          · exact Or.inl (h2.1 ▸ h1)
    · next q =>
      by_cases hin : i = n
      · subst hin
        have h1 : ¬ pl i < pl j := fun z => q ⟨hp, hb, fun k hk => by rw [h] at hk; cases hk; exact z⟩
        have hj := (fF_lt h).1
        rcases Int32.lt_or_eq_of_le (Int32.not_lt.mp h1) with h2 | h2
        · exact Or.inl h2
        · exact Or.inr ⟨h2, hj⟩
      · exact fF_min h i (by omega) hp hb hne
/-- a set's tracks, the first one first -/
def selL (pr : Nat → Bool) (pl : Nat → Int32) : Nat → Int32 → List Nat
  | 0, _ => []
  | f + 1, left => match fF pr pl left 24 with
    | none => []
    | some j => j :: selL pr pl f (outB left j)
theorem selL_none {pr : Nat → Bool} {pl : Nat → Int32} {left : Int32} (h : fF pr pl left 24 = none) : ∀ f, selL pr pl f left = []
  | 0 => rfl
  | f + 1 => by simp only [selL, h]
theorem selL_some {pr : Nat → Bool} {pl : Nat → Int32} {left : Int32} {j : Nat} (h : fF pr pl left 24 = some j) (f : Nat) : selL pr pl (f + 1) left = j :: selL pr pl f (outB left j) := by simp only [selL, h]
theorem cnG_cong {p q : Nat → Bool} : ∀ {n : Nat}, (∀ i, i < n → p i = q i) → cnF p n = cnF q n
  | 0, _ => rfl
  | n + 1, h => by simp only [cnF]; rw [cnG_cong (n := n) (fun i hi => h i (by omega)), h n (by omega)]
theorem cnG_out {p q : Nat → Bool} {j : Nat} (hp : p j = true) (hq : q j = false) : ∀ {n : Nat}, (∀ i, i < n → i ≠ j → q i = p i) → cnF q n + (if j < n then 1 else 0) = cnF p n
  | 0, _ => rfl
  | n + 1, h => by
    have ih := cnG_out hp hq (n := n) (fun i hi => h i (by omega))
    simp only [cnF]
    by_cases hn : n = j
    · subst hn
      rw [if_neg (Nat.lt_irrefl n)] at ih
      rw [if_pos (Nat.lt_succ_self n), hp, hq]
      simp only [if_true]
      rw [if_neg (by decide)]; omega
    · rw [h n (by omega) hn]
      by_cases hlt : j < n
      · rw [if_pos hlt] at ih; rw [if_pos (show j < n + 1 by omega)]; omega
      · rw [if_neg hlt] at ih; rw [if_neg (show ¬ j < n + 1 by omega)]; omega
theorem cnG_le (p : Nat → Bool) : ∀ n, cnF p n ≤ n
  | 0 => Nat.le_refl 0
  | n + 1 => by have := cnG_le p n; simp only [cnF]; split <;> omega
theorem cnG_pos {p : Nat → Bool} {j : Nat} (hp : p j = true) : ∀ {n : Nat}, j < n → 0 < cnF p n
  | 0, h => absurd h (Nat.not_lt_zero _)
  | n + 1, h => by
    simp only [cnF]
    by_cases e : j = n
    · subst e; rw [hp]; simp
    · have := cnG_pos hp (n := n) (by omega); omega
theorem selL_mem {pr : Nat → Bool} {pl : Nat → Int32} : ∀ {f : Nat} {left : Int32}, cnF (fun i => pr i && hasB left (nI i)) 24 ≤ f → ∀ i : Nat, i ∈ selL pr pl f left ↔ i < 24 ∧ pr i = true ∧ hasB left (nI i) = true
  | 0, left, h, i => by
    refine ⟨fun q => absurd q List.not_mem_nil, fun ⟨h1, h2, h3⟩ => ?_⟩
    have := cnG_pos (p := fun i => pr i && hasB left (nI i)) (j := i) (by simp [h2, h3]) h1
    omega
  | f + 1, left, h, i => by
    cases hf : fF pr pl left 24 with
    | none =>
      rw [selL_none hf]
      refine ⟨fun q => absurd q List.not_mem_nil, fun ⟨h1, h2, h3⟩ => ?_⟩
      rw [fF_none hf i h1 h2] at h3; cases h3
    | some j =>
      obtain ⟨j1, j2, j3⟩ := fF_lt hf
      rw [selL_some hf]
      have hc := cnG_out (p := fun i => pr i && hasB left (nI i)) (q := fun i => pr i && hasB (outB left j) (nI i)) (j := j) (by simp [j2, j3]) (by simp [hasB_out (show j < 32 by omega) (show j < 32 by omega)]) (n := 24) (fun i hi hne => by
        show (pr i && hasB (outB left j) (nI i)) = (pr i && hasB left (nI i))
        rw [hasB_out (by omega) (by omega)]
        have : ¬ j = i := fun e => hne e.symm
        simp [this])
      rw [if_pos j1] at hc
      have ih := selL_mem (pr := pr) (pl := pl) (f := f) (left := outB left j) (by omega) i
      rw [List.mem_cons, ih]
      constructor
      · rintro (rfl | ⟨h1, h2, h3⟩)
        · exact ⟨j1, j2, j3⟩
        · rw [hasB_out (by omega) (by omega), Bool.and_eq_true] at h3
          exact ⟨h1, h2, h3.1⟩
      · rintro ⟨h1, h2, h3⟩
        by_cases e : i = j
        · exact Or.inl e
        · refine Or.inr ⟨h1, h2, ?_⟩
          rw [hasB_out (by omega) (by omega), h3]
          have : ¬ j = i := fun q => e q.symm
          simp [this]
theorem selL_in {pr : Nat → Bool} {pl : Nat → Int32} : ∀ {f : Nat} {left : Int32} {i : Nat}, i ∈ selL pr pl f left → i < 24 ∧ pr i = true ∧ hasB left (nI i) = true
  | 0, _, _, h => absurd h List.not_mem_nil
  | f + 1, left, i, h => by
    cases hf : fF pr pl left 24 with
    | none => rw [selL_none hf] at h; exact absurd h List.not_mem_nil
    | some j =>
      rw [selL_some hf] at h
      rcases List.mem_cons.mp h with e | h
      · subst e; exact fF_lt hf
      · obtain ⟨h1, h2, h3⟩ := selL_in h
        rw [hasB_out (by have := (fF_lt hf).1; omega) (by omega), Bool.and_eq_true] at h3
        exact ⟨h1, h2, h3.1⟩
theorem selL_srt {pr : Nat → Bool} {pl : Nat → Int32} : ∀ {f : Nat} {left : Int32}, (selL pr pl f left).Pairwise (ltP pl)
  | 0, _ => List.Pairwise.nil
  | f + 1, left => by
    cases hf : fF pr pl left 24 with
    | none => rw [selL_none hf]; exact List.Pairwise.nil
    | some j =>
      rw [selL_some hf]
      refine List.pairwise_cons.mpr ⟨fun i hi => ?_, selL_srt⟩
      obtain ⟨h1, h2, h3⟩ := selL_in hi
      rw [hasB_out (by have := (fF_lt hf).1; omega) (by omega), Bool.and_eq_true] at h3
      exact fF_min hf i h1 h2 h3.1 (fun e => by subst e; simp at h3)
/-- of a row those that the limit lets in, and the seconds they come to -/
def grL (len : Nat → Int32) (lim : Int32) : List Nat → Int32 → List Nat
  | [], _ => []
  | j :: l, s => if lim = 0 ∨ s + len j ≤ lim then j :: grL len lim l (s + len j) else grL len lim l s
def grS (len : Nat → Int32) (lim : Int32) : List Nat → Int32 → Int32
  | [], s => s
  | j :: l, s => if lim = 0 ∨ s + len j ≤ lim then grS len lim l (s + len j) else grS len lim l s
theorem chL_gr {pr : Nat → Bool} {pl len : Nat → Int32} {lim : Int32} : ∀ (f : Nat) (left s : Int32), chL pr pl len lim f left s = grL len lim (selL pr pl f left) s
  | 0, _, _ => rfl
  | f + 1, left, s => by
    cases hf : fF pr pl left 24 with
    | none => rw [chL_none hf, selL_none hf]; rfl
    | some j =>
      rw [selL_some hf]
      by_cases h : lim = 0 ∨ s + len j ≤ lim
      · rw [chL_yes hf h, grL, if_pos h, chL_gr f]
      · rw [chL_no hf h, grL, if_neg h, chL_gr f]
theorem grL_app (len : Nat → Int32) (lim : Int32) : ∀ (l m : List Nat) (s : Int32), grL len lim (l ++ m) s = grL len lim l s ++ grL len lim m (grS len lim l s)
  | [], m, s => rfl
  | j :: l, m, s => by
    simp only [List.cons_append, grL, grS]
    split
    · rw [grL_app len lim l m, List.cons_append]
    · rw [grL_app len lim l m]
theorem grS_app (len : Nat → Int32) (lim : Int32) : ∀ (l m : List Nat) (s : Int32), grS len lim (l ++ m) s = grS len lim m (grS len lim l s)
  | [], m, s => rfl
  | j :: l, m, s => by
    simp only [List.cons_append, grS]
    split <;> rw [grS_app len lim l m]
theorem grL_sub (len : Nat → Int32) (lim : Int32) : ∀ (l : List Nat) (s : Int32), (grL len lim l s).Sublist l
  | [], s => List.Sublist.refl _
  | j :: l, s => by
    simp only [grL]
    split
    · exact (grL_sub len lim l _).cons_cons j
    · exact (grL_sub len lim l _).cons j
theorem hasB_tkL : ∀ {js : List Nat} {acc : Int32} {i : Nat}, i < 32 → (∀ j ∈ js, j < 32) → (hasB (tkL acc js) (nI i) = true ↔ hasB acc (nI i) = true ∨ i ∈ js)
  | [], acc, i, hi, _ => by simp [tkL]
  | j :: js, acc, i, hi, h => by
    rw [tkL, hasB_tkL hi (fun k hk => h k (List.mem_cons_of_mem _ hk)), hasB_or hi, hasB_bit (h j List.mem_cons_self) hi, List.mem_cons, Bool.or_eq_true, decide_eq_true_eq]
    constructor
    · rintro ((h1 | h1) | h1)
      · exact Or.inl h1
      · exact Or.inr (Or.inl h1.symm)
      · exact Or.inr (Or.inr h1)
    · rintro (h1 | h1 | h1)
      · exact Or.inl (Or.inl h1)
      · exact Or.inl (Or.inr h1.symm)
      · exact Or.inr h1
/-! sums over a row are sums over its set -/
def foL {α : Type} (op : α → α → α) (e : α) (f : Nat → α) : List Nat → α
  | [] => e
  | i :: l => op (foL op e f l) (f i)
def foF {α : Type} (op : α → α → α) (e : α) (f : Nat → α) (p : Nat → Bool) : Nat → α
  | 0 => e
  | n + 1 => if p n = true then op (foF op e f p n) (f n) else foF op e f p n
theorem foL_mid {α : Type} {op : α → α → α} {e : α} {f : Nat → α} (hc : ∀ a b c : α, op (op a b) c = op (op a c) b) (x : Nat) (m : List Nat) : ∀ l : List Nat, foL op e f (l ++ x :: m) = op (foL op e f (l ++ m)) (f x)
  | [] => rfl
  | i :: l => by
    simp only [List.cons_append, foL]
    rw [foL_mid hc x m l, hc]
theorem foL_foF {α : Type} {op : α → α → α} {e : α} {f : Nat → α} (hc : ∀ a b c : α, op (op a b) c = op (op a c) b) {p : Nat → Bool} : ∀ (n : Nat) (l : List Nat), l.Nodup → (∀ i, i ∈ l ↔ i < n ∧ p i = true) → foL op e f l = foF op e f p n
  | 0, l, _, hm => by
    have : l = [] := List.eq_nil_iff_forall_not_mem.mpr fun a ha => by have := ((hm a).mp ha).1; omega
    subst this; rfl
  | n + 1, l, hd, hm => by
    simp only [foF]
    by_cases hp : p n = true
    · rw [if_pos hp]
      obtain ⟨a, b, rfl⟩ := List.append_of_mem ((hm n).mpr ⟨Nat.lt_succ_self n, hp⟩)
      rw [foL_mid hc]
      obtain ⟨d1, d2, d3⟩ := List.nodup_append.mp hd
      obtain ⟨d4, d5⟩ := List.nodup_cons.mp d2
      rw [foL_foF hc (p := p) n (a ++ b) (List.nodup_append.mpr ⟨d1, d5, fun x hx y hy => d3 x hx y (List.mem_cons_of_mem _ hy)⟩) (fun i => ?_)]
      constructor
      · intro hi
        have hin : i ∈ a ++ n :: b := by
          rcases List.mem_append.mp hi with h | h
          · exact List.mem_append.mpr (Or.inl h)
          · exact List.mem_append.mpr (Or.inr (List.mem_cons_of_mem _ h))
        obtain ⟨h1, h2⟩ := (hm i).mp hin
        have hne : i ≠ n := by
          rintro rfl
          rcases List.mem_append.mp hi with h | h
          · exact d3 i h i List.mem_cons_self rfl
          · exact d4 h
        exact ⟨by omega, h2⟩
      · rintro ⟨h1, h2⟩
        rcases List.mem_append.mp ((hm i).mpr ⟨by omega, h2⟩) with h | h
        · exact List.mem_append.mpr (Or.inl h)
        · rcases List.mem_cons.mp h with h | h
          · omega
          · exact List.mem_append.mpr (Or.inr h)
    · rw [if_neg hp]
      refine foL_foF hc n l hd (fun i => ?_)
      rw [hm i]
      constructor
      · rintro ⟨h1, h2⟩
        refine ⟨?_, h2⟩
        rcases Nat.lt_succ_iff_lt_or_eq.mp h1 with h | h
        · exact h
        · subst h; exact absurd h2 hp
      · rintro ⟨h1, h2⟩; exact ⟨by omega, h2⟩
theorem smF_fo (p : Nat → Bool) (f : Nat → Int32) : ∀ n, smF p f n = foF (· + ·) 0 f p n
  | 0 => rfl
  | n + 1 => by simp only [smF, foF, smF_fo p f n]
theorem cnF_fo (p : Nat → Bool) : ∀ n, cnF p n = foF (· + ·) 0 (fun _ => 1) p n
  | 0 => rfl
  | n + 1 => by simp only [cnF, foF, cnF_fo p n]; split <;> rfl
theorem foL_len (l : List Nat) : foL (· + ·) 0 (fun _ => 1) l = l.length := by
  induction l with
  | nil => rfl
  | cons a l ih => simp only [foL, ih, List.length_cons]
theorem len_cn {p : Nat → Bool} {n : Nat} {l : List Nat} (hd : l.Nodup) (hm : ∀ i, i ∈ l ↔ i < n ∧ p i = true) : l.length = cnF p n := by
  rw [← foL_len, cnF_fo]
  exact foL_foF (fun a b c => by omega) n l hd hm
theorem sum_sm {p : Nat → Bool} {f : Nat → Int32} {n : Nat} {l : List Nat} (hd : l.Nodup) (hm : ∀ i, i ∈ l ↔ i < n ∧ p i = true) : foL (· + ·) 0 f l = smF p f n := by
  rw [smF_fo]
  exact foL_foF (fun a b c => by show a + b + c = a + c + b; rw [Int32.add_assoc, Int32.add_comm b c, ← Int32.add_assoc]) n l hd hm
theorem foL_app {α : Type} {op : α → α → α} {e : α} {f : Nat → α} (hc : ∀ a b c : α, op (op a b) c = op (op a c) b) (x : Nat) (l : List Nat) : foL op e f (l ++ [x]) = op (foL op e f l) (f x) := by
  rw [foL_mid hc x [] l, List.append_nil]
theorem grS_sum (len : Nat → Int32) (lim : Int32) : ∀ (l : List Nat) (s : Int32), grS len lim l s = s + foL (· + ·) 0 len (grL len lim l s)
  | [], s => by simp [grS, grL, foL]
  | j :: l, s => by
    simp only [grS, grL]
    split
    · rw [grS_sum len lim l, foL]
      rw [Int32.add_assoc, Int32.add_comm (len j)]
    · exact grS_sum len lim l s
/-- the product of the plays, each one increased by 1 -/
def prL (D : ZD) (l : List Nat) : Nat := foL (· * ·) 1 (fun i => ix (D 44 i) + 1) l
def prN (D : ZD) (s : Int32) (n : Nat) : Nat := foF (· * ·) 1 (fun i => ix (D 44 i) + 1) (fun i => prD D i && hasB s (nI i)) n
theorem prN_succ (D : ZD) (s : Int32) (n : Nat) : prN D s (n + 1) = if (prD D n && hasB s (nI n)) = true then prN D s n * (ix (D 44 n) + 1) else prN D s n := rfl
theorem prN_mono (D : ZD) (s : Int32) : ∀ {n m : Nat}, n ≤ m → prN D s n ≤ prN D s m
  | n, 0, h => by obtain rfl : n = 0 := by omega
                  exact Nat.le_refl _
  | n, m + 1, h => by
    by_cases e : n = m + 1
    · subst e; exact Nat.le_refl _
    · have := prN_mono D s (n := n) (m := m) (by omega)
      rw [prN_succ]
      split
      · exact Nat.le_trans this (Nat.le_mul_of_pos_right _ (by omega))
      · exact this
theorem mul_comm3 (a b c : Nat) : a * b * c = a * c * b := by rw [Nat.mul_assoc, Nat.mul_comm b c, ← Nat.mul_assoc]
theorem prL_app (D : ZD) (x : Nat) (l : List Nat) : prL D (l ++ [x]) = prL D l * (ix (D 44 x) + 1) := foL_app (op := (· * ·)) mul_comm3 x l
theorem prL_prN {D : ZD} {s : Int32} {n : Nat} {l : List Nat} (hd : l.Nodup) (hm : ∀ i, i ∈ l ↔ i < n ∧ (prD D i && hasB s (nI i)) = true) : prL D l = prN D s n := foL_foF (op := (· * ·)) mul_comm3 n l hd hm
