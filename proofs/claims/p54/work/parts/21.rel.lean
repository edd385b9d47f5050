/-! how the class's memory holds a library -/
def lastD (D : ZD) (i : Nat) : Int32 := if D 44 i = 0 then -1 else D 45 i
def rT (D : ZD) (S : ZM) (L : Nat → Nat) : Prop := ∀ i : Nat, i < 24 → (prD D i = false → tQ S (L 1) i = none) ∧ (prD D i = true → ∃ a : Nat, tQ S (L 1) i = some a ∧ mK S a = 5 ∧ mI S 16 a = nI i ∧ mI S 17 a = D 42 i ∧ mI S 18 a = D 43 i ∧ mI S 19 a = D 44 i ∧ mI S 20 a = lastD D i ∧ mI S 21 a = D 46 i)
/-- the tags that became others: (gone, other), the latest first -/
abbrev ZL : Type := List (Nat × Nat)
def look (lk : ZL) (i : Nat) : Option Nat := match lk with
  | [] => none
  | (o, t) :: r => if i = o then some t else look r i
def mean (lk : ZL) (i : Nat) : Nat := match lk with
  | [] => i
  | (o, t) :: r => if mean r i = o then t else mean r i
def wfL (G : Nat) (lk : ZL) : Prop := match lk with
  | [] => True
  | (o, t) :: r => wfL G r ∧ look r o = none ∧ look r t = none ∧ o ≠ t ∧ o < G ∧ t < G
/-- along the links -/
def bmI (lk : ZL) : Nat → Nat → Nat
  | 0, x => x
  | n + 1, x => match look lk x with
    | none => x
    | some t => bmI lk n t
theorem bmI_none {lk : ZL} {x : Nat} (h : look lk x = none) : ∀ n, bmI lk n x = x
  | 0 => rfl
  | n + 1 => by simp only [bmI, h]
theorem bmI_more {lk : ZL} : ∀ (n k x : Nat), look lk (bmI lk n x) = none → bmI lk (n + k) x = bmI lk n x
  | 0, k, x, h => by rw [Nat.zero_add]; exact bmI_none h k
  | n + 1, k, x, h => by
    rw [show n + 1 + k = (n + k) + 1 by omega]
    simp only [bmI] at h ⊢
    cases hx : look lk x with
    | none => rfl
    | some t => rw [hx] at h; exact bmI_more n k t h
theorem bmI_cons {r : ZL} {o t : Nat} (h1 : look r o = none) (h2 : look r t = none) (h3 : o ≠ t) : ∀ (n x : Nat), look r (bmI r n x) = none → bmI ((o, t) :: r) (n + 1) x = (if bmI r n x = o then t else bmI r n x)
  | 0, x, h => by
    have h : look r x = none := h
    simp only [bmI, look]
    by_cases hx : x = o
    · rw [if_pos hx]; exact (if_pos hx).symm
    · rw [if_neg hx, h]; exact (if_neg hx).symm
  | n + 1, x, h => by
    cases hx : look r x with
    | none =>
      have e : bmI r (n + 1) x = x := bmI_none hx _
      rw [e]
      by_cases hxo : x = o
      · rw [if_pos hxo]
        have e2 : look ((o, t) :: r) x = some t := by simp only [look]; rw [if_pos hxo]
        simp only [bmI, e2]
        have e3 : look ((o, t) :: r) t = none := by simp only [look]; rw [if_neg (Ne.symm h3)]; exact h2
        simp only [e3]
      · rw [if_neg hxo]
        have e2 : look ((o, t) :: r) x = none := by simp only [look]; rw [if_neg hxo]; exact hx
        exact bmI_none e2 _
    | some u =>
      have hxo : x ≠ o := by intro q; rw [q, h1] at hx; cases hx
      have e2 : look ((o, t) :: r) x = some u := by simp only [look]; rw [if_neg hxo]; exact hx
      have e : bmI r (n + 1) x = bmI r n u := by simp only [bmI, hx]
      rw [e] at h ⊢
      have := bmI_cons h1 h2 h3 n u h
      rw [← this]
      conv => lhs; unfold bmI
      simp only [e2]
theorem mean_end {G : Nat} : ∀ {lk : ZL}, wfL G lk → ∀ x : Nat, look lk (mean lk x) = none
  | [], _, _ => rfl
  | (o, t) :: r, h, x => by
    obtain ⟨h0, h1, h2, h3, -, -⟩ := h
    have ih := mean_end h0 x
    simp only [mean]
    by_cases hx : mean r x = o
    · rw [if_pos hx]; simp only [look]; rw [if_neg (Ne.symm h3)]; exact h2
    · rw [if_neg hx]; simp only [look]; rw [if_neg hx]; exact ih
theorem bmI_mean {G : Nat} : ∀ {lk : ZL}, wfL G lk → ∀ x : Nat, bmI lk lk.length x = mean lk x
  | [], _, _ => rfl
  | (o, t) :: r, h, x => by
    obtain ⟨h0, h1, h2, h3, -, -⟩ := h
    have ih := bmI_mean h0 x
    have := bmI_cons h1 h2 h3 r.length x (by rw [ih]; exact mean_end h0 x)
    rw [ih] at this
    exact this
theorem mean_lt {G : Nat} : ∀ {lk : ZL}, wfL G lk → ∀ x : Nat, x < G → mean lk x < G
  | [], _, _, h => h
  | (o, t) :: r, h, x, hx => by
    obtain ⟨h0, -, -, -, -, h5⟩ := h
    simp only [mean]
    split
    · exact h5
    · exact mean_lt h0 x hx
theorem look_lt {G : Nat} : ∀ {lk : ZL}, wfL G lk → ∀ x t : Nat, look lk x = some t → x < G ∧ t < G
  | [], _, _, _, h => by cases h
  | (o, t) :: r, h, x, u, hu => by
    obtain ⟨h0, -, -, -, h4, h5⟩ := h
    simp only [look] at hu
    split at hu
    · next q => cases hu; exact ⟨by omega, h5⟩
    · exact look_lt h0 x u hu
theorem mean_self {lk : ZL} {x : Nat} (h : look lk x = none) : ∀ {G : Nat}, wfL G lk → mean lk x = x := by
  intro G hw
  rw [← bmI_mean hw x]; exact bmI_none h _
def rG (D : ZD) (lk : ZL) (S : ZM) (L : Nat → Nat) : Prop := (∀ i : Nat, i < 16 → dG D ≤ i → tQ S (L 2) i = none) ∧ ∀ i : Nat, i < dG D → ∃ a nm : Nat, tQ S (L 2) i = some a ∧ mK S a = 4 ∧ mI S 10 a = nI i ∧ mQ S 11 a = some nm ∧ mK S nm = 11 ∧ mN S nm = 6 ∧ mI S 12 a = D 49 i ∧ (∀ j : Nat, j < 6 → nI j < D 49 i → tI S nm j = D 50 (6 * i + j)) ∧ mQ S 13 a = (look lk i).bind (tQ S (L 2))
def askD (D : ZD) (as : Nat → Nat) (r : Nat) : Int32 := if D 53 r = 0 then nI (as r) else if D 53 r = 6 ∨ D 53 r = 7 ∨ D 53 r = 8 then 0 else D 54 r
def rR (D : ZD) (as : Nat → Nat) (S : ZM) (L : Nat → Nat) : Prop := (∀ r : Nat, r < 40 → dR D ≤ r → tQ S (L 3) r = none) ∧ ∀ r : Nat, r < dR D → ∃ a : Nat, tQ S (L 3) r = some a ∧ mK S a = 3 ∧ mI S 3 a = nI r ∧ mI S 4 a = D 53 r ∧ mI S 5 a = askD D as r ∧ (D 53 r = 6 ∨ D 53 r = 7 ∨ D 53 r = 8 → mQ S 6 a = tQ S (L 3) (ix (D 54 r))) ∧ (D 53 r = 6 ∨ D 53 r = 7 → mQ S 7 a = tQ S (L 3) (ix (D 55 r))) ∧ mI S 8 a = D 56 r ∧ mI S 9 a = lsD D r
def rL (D : ZD) (S : ZM) (L : Nat → Nat) : Prop := (∀ l : Nat, l < 8 → dL D ≤ l → tQ S (L 4) l = none) ∧ ∀ l : Nat, l < dL D → ∃ a r : Nat, tQ S (L 4) l = some a ∧ mK S a = 2 ∧ mQ S 0 a = some r ∧ tQ S (L 3) (ix (D 58 l)) = some r ∧ mI S 1 a = D 59 l ∧ mI S 2 a = D 60 l
/-- what the tags' and rules' numbers keep to -/
def wfA (D : ZD) (lk : ZL) (as : Nat → Nat) : Prop := wfN D ∧ wfR D ∧ wfL (dG D) lk ∧ lk.length ≤ 15 ∧ (∀ r : Nat, r < dR D → D 53 r = 0 → as r < dG D ∧ D 54 r = nI (mean lk (as r)))
theorem rT.k {D : ZD} {S : ZM} {L : Nat → Nat} (h : rT D S L) : cTk S L := by
  intro i a hi ha
  cases hp : prD D i with
  | false => rw [(h i hi).1 hp] at ha; cases ha
  | true =>
    obtain ⟨b, e, h1, h2, -⟩ := (h i hi).2 hp
    rw [e] at ha; cases ha; exact ⟨h1, h2⟩
theorem rT.pr {D : ZD} {S : ZM} {L : Nat → Nat} (h : rT D S L) {i : Nat} (hi : i < 24) : prS S L i = prD D i := by
  cases hp : prD D i with
  | false => simp [prS, (h i hi).1 hp]
  | true =>
    obtain ⟨b, e, -⟩ := (h i hi).2 hp
    simp [prS, e]
/-- a track that is there -/
theorem rT.at {D : ZD} {S : ZM} {L : Nat → Nat} (h : rT D S L) {i a : Nat} (hi : i < 24) (ha : tQ S (L 1) i = some a) : prD D i = true ∧ mK S a = 5 ∧ mI S 16 a = nI i ∧ mI S 17 a = D 42 i ∧ mI S 18 a = D 43 i ∧ mI S 19 a = D 44 i ∧ mI S 20 a = lastD D i ∧ mI S 21 a = D 46 i := by
  cases hp : prD D i with
  | false => rw [(h i hi).1 hp] at ha; cases ha
  | true =>
    obtain ⟨b, e, h1⟩ := (h i hi).2 hp
    rw [e] at ha; cases ha; exact ⟨rfl, h1⟩
theorem rT.pS {D : ZD} {S : ZM} {L : Nat → Nat} (h : rT D S L) {q : Nat → Nat → Bool} {p : Nat → Bool} {i : Nat} (hi : i < 24) (hq : ∀ a : Nat, tQ S (L 1) i = some a → q i a = p i) : pS S L q i = (prD D i && p i) := by
  cases hp : prD D i with
  | false => rw [pS_none ((h i hi).1 hp)]; rfl
  | true =>
    obtain ⟨b, e, -⟩ := (h i hi).2 hp
    rw [pS_some e, hq b e]; rfl
theorem rT.first {D : ZD} {S : ZM} {L : Nat → Nat} (h : rT D S L) (ord s : Int32) : fF (prS S L) (plS S L ord) s 24 = fF (prD D) (plD D ord) s 24 := by
  refine fF_cong (fun i hi => h.pr hi) (fun i hi hp => ?_)
  rw [h.pr hi] at hp
  obtain ⟨a, e, -, h2, h3, h4, h5, -⟩ := (h i hi).2 hp
  simp only [plS, plD, tad, e, Option.getD_some, h3, h4, h5]
theorem rG.k {D : ZD} {lk : ZL} {S : ZM} {L : Nat → Nat} (h : rG D lk S L) : cGk S L := by
  intro i a hi ha
  by_cases hg : i < dG D
  · obtain ⟨b, nm, e, h1, h2, -⟩ := h.2 i hg
    rw [e] at ha; cases ha; exact ⟨h1, h2⟩
  · rw [h.1 i hi (by omega)] at ha; cases ha
theorem rG.b {D : ZD} {lk : ZL} {S : ZM} {L : Nat → Nat} (h : rG D lk S L) (hw : wfL (dG D) lk) (h16 : dG D ≤ 16) : cGb S L := by
  intro a b ⟨i, hi, ha⟩ hb
  by_cases hg : i < dG D
  · obtain ⟨a', nm, e, -, -, -, -, -, -, -, h9⟩ := h.2 i hg
    rw [e] at ha; cases ha
    rw [h9] at hb
    obtain ⟨t, ht, hb⟩ := Option.bind_eq_some_iff.mp hb
    exact ⟨t, by have := (look_lt hw i t ht).2; omega, hb⟩
  · rw [h.1 i hi (by omega)] at ha; cases ha
theorem rG.chain {D : ZD} {lk : ZL} {S : ZM} {L : Nat → Nat} (h : rG D lk S L) (hw : wfL (dG D) lk) : ∀ (n i : Nat), i < dG D → bmS S n (tQ S (L 2) i) = tQ S (L 2) (bmI lk n i)
  | 0, _, _ => rfl
  | n + 1, i, hi => by
    obtain ⟨a, nm, e, -, -, -, -, -, -, -, h9⟩ := h.2 i hi
    rw [e]
    simp only [bmI]
    cases hl : look lk i with
    | none =>
      rw [hl] at h9
      rw [bmS_stop h9, e]
    | some t =>
      rw [hl] at h9
      have ht := (look_lt hw i t hl).2
      obtain ⟨b, nm2, e2, -⟩ := h.2 t ht
      rw [Option.bind_some, e2] at h9
      rw [bmS_step h9, ← e2]
      exact rG.chain h hw n t ht
theorem rG.meant {D : ZD} {lk : ZL} {S : ZM} {L : Nat → Nat} (h : rG D lk S L) (hw : wfL (dG D) lk) (hlen : lk.length ≤ 15) {i : Nat} (hi : i < dG D) : ∃ a : Nat, bmS S 16 (tQ S (L 2) i) = some a ∧ mI S 10 a = nI (mean lk i) := by
  rw [h.chain hw 16 i hi]
  have e : bmI lk 16 i = mean lk i := by
    have := bmI_more lk.length (16 - lk.length) i (by rw [bmI_mean hw i]; exact mean_end hw i)
    rw [show lk.length + (16 - lk.length) = 16 by omega, bmI_mean hw i] at this
    exact this
  rw [e]
  obtain ⟨a, nm, e2, -, h3, -⟩ := h.2 _ (mean_lt hw i hi)
  exact ⟨a, e2, h3⟩
