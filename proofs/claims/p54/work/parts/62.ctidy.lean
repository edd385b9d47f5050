/-! the class: tags made one, and taken apart again -/
/-- a track's tags behind tag o becoming t -/
def mvD (D : ZD) (t o i : Nat) : Int32 := if hasB (D 46 i) (nI o) = true then (D 46 i &&& (bitI o ^^^ (-1))) ||| bitI t else D 46 i
def opTidy (D : ZD) (t o : Nat) : ZD := fun k i =>
  if k = 46 then (if i < 24 then mvD D t o i else D 46 i)
  else if k = 51 then (if i = o then 1 else D 51 i)
  else if k = 54 then (if i < dR D ∧ D 53 i = 0 ∧ D 54 i = nI o then nI t else D 54 i)
  else if k = 67 then (if i = 0 then nI (dU D + 1) else D 67 i)
  else if k = 68 then (if i = dU D then nI t else D 68 i)
  else if k = 69 then (if i = dU D then nI o else D 69 i)
  else if k = 70 then (if 24 * dU D ≤ i ∧ i < 24 * dU D + 24 then D 46 (i - 24 * dU D) else D 70 i)
  else D k i
def opUndo (D : ZD) (J : Nat → Int64) : ZD := fun k i =>
  if k = 46 then (if i < 24 then D 70 (24 * (dU D - 1) + i) else D 46 i)
  else if k = 51 then (if i = ix (D 69 (dU D - 1)) then 0 else D 51 i)
  else if k = 54 then (if i < dR D ∧ bJ (J (dU D - 1)) i = true then D 69 (dU D - 1) else D 54 i)
  else if k = 67 then (if i = 0 then nI (dU D - 1) else D 67 i)
  else D k i
/-- what is to be undone leaves no tags on tracks that are not yet added -/
def wfZ (D : ZD) : Prop := ∀ k t : Nat, k < dU D → t < 24 → dT D ≤ t → D 70 (24 * k + t) = 0
/-- the memory is as it was, but for the row A, the tracks' tags and the links of the tag at bo -/
def tgP (S S' : ZM) (L : Nat → Nat) (A bo : Nat) (f : Nat → Int32) (v13 v15 v35 : Option Nat) : Prop :=
  mK S' = mK S ∧ mN S' = mN S ∧ mJ S' = mJ S ∧ tQ S' = tQ S ∧ (∀ b : Nat, b ≠ A → tI S' b = tI S b) ∧
  (∀ k b : Nat, k ≠ 21 ∨ mK S b ≠ 5 → mI S' k b = mI S k b) ∧ (∀ j a : Nat, j < 24 → tQ S (L 1) j = some a → mI S' 21 a = f j) ∧
  (∀ k b : Nat, ¬ (k = 13 ∧ b = bo) → ¬ (k = 15 ∧ b = bo) → ¬ (k = 35 ∧ b = L 0) → mQ S' k b = mQ S k b) ∧ mQ S' 13 bo = v13 ∧ mQ S' 15 bo = v15 ∧ mQ S' 35 (L 0) = v35
theorem lsR_54 {D D1 : ZD} (h53 : D1 53 = D 53) (h54 : ∀ r : Nat, ¬ D 53 r = 0 → D1 54 r = D 54 r) (h55 : D1 55 = D 55) : ∀ f r : Nat, lsR D1 f r = lsR D f r := by
  intro f
  induction f with
  | zero => intro r; rfl
  | succ f ih =>
    intro r
    simp only [lsR, ih, h53, h55]
    by_cases h : D 53 r = 0
    · rw [h]
      rw [if_neg (by decide), if_neg (by decide), if_neg (by decide), if_neg (by decide), if_neg (by decide), if_neg (by decide)]
    · rw [h54 r h]
theorem look_self {o t : Nat} {r : ZL} : look ((o, t) :: r) o = some t := if_pos rfl
theorem look_ne {o t i : Nat} {r : ZL} (h : i ≠ o) : look ((o, t) :: r) i = look r i := if_neg h
theorem wfL_le {G : Nat} : ∀ {lk : ZL}, wfL G lk → cnF (fun i => (look lk i).isSome) G = lk.length
  | [], _ => by
    have : ∀ n : Nat, cnF (fun i => (look [] i).isSome) n = 0 := by
      intro n
      induction n with
      | zero => rfl
      | succ n ih => simp only [cnF, ih]; rfl
    exact this G
  | (o, t) :: r, ⟨h0, h1, h2, h3, h4, h5⟩ => by
    have ih := wfL_le h0
    have := cnF_out (p := fun i => (look ((o, t) :: r) i).isSome) (q := fun i => (look r i).isSome) (t := o) (fun i hi => by show (look r i).isSome = (look ((o, t) :: r) i).isSome; rw [look_ne hi]) (by show (look ((o, t) :: r) o).isSome = true; rw [look_self]; rfl) (by show (look r o).isSome = false; rw [h1]; rfl) G
    rw [if_pos h4, ih] at this
    rw [← this]; rfl
theorem wfL_lt {G : Nat} {lk : ZL} (h : wfL G lk) {t : Nat} (ht : t < G) (hl : look lk t = none) : lk.length + 1 ≤ G := by
  have := cnF_out (p := fun i => if i = t then true else (look lk i).isSome) (q := fun i => (look lk i).isSome) (t := t) (fun i hi => by show _ = if i = t then true else _; rw [if_neg hi]) (if_pos rfl) (by show (look lk t).isSome = false; rw [hl]; rfl) G
  rw [if_pos ht, wfL_le h] at this
  have := cnF_le (fun i => if i = t then true else (look lk i).isSome) G
  omega
/-- two tags' objects differ -/
theorem tg_ne {D : ZD} {lk : ZL} {S : ZM} {L : Nat → Nat} (h : rG D lk S L) (h16 : dG D ≤ 16) {g o a b : Nat} (hg : g < dG D) (ho : o < dG D) (ha : tQ S (L 2) g = some a) (hb : tQ S (L 2) o = some b) (hne : g ≠ o) : a ≠ b := by
  rintro rfl
  have q1 := (h.k g a (by omega) ha).2
  have q2 := (h.k o a (by omega) hb).2
  exact hne ((nI_eq (by omega) (by omega)).1 (q1.symm.trans q2))
theorem cR.tgs {D D1 : ZD} {J : Nat → Int64} {lk lk1 : ZL} {as : Nat → Nat} {S S2 : ZM} {L T : Nat → Nat} (h : cR D J lk as S L T) {o bo : Nat} {f : Nat → Int32} {v13 v15 v35 : Option Nat} (ho : o < dG D) (hbo : tQ S (L 2) o = some bo) (hP : tgP S S2 L (T o) bo f v13 v15 v35)
    (hD : ∀ k : Nat, k ≠ 46 → k ≠ 51 → k ≠ 54 → k < 67 → D1 k = D k) (h54 : ∀ r : Nat, ¬ D 53 r = 0 → D1 54 r = D 54 r) (h46 : ∀ i : Nat, i < 24 → prD D i = true → D1 46 i = f i)
    (hlk : ∀ i : Nat, i ≠ o → look lk1 i = look lk i) (h13 : v13 = (look lk1 o).bind (tQ S (L 2))) (hA1 : wfA D1 lk1 as) :
    cX D1 lk1 as S2 L ∧ cV D1 S2 L ∧ (∀ l : Nat, l < 8 → tI S2 (L 5) l = D1 61 l) ∧ (∀ l : Nat, l < 8 → dL D1 ≤ l → D1 61 l = 0) := by
  obtain ⟨hX, hV, hK, hU, hQ, hF⟩ := h
  obtain ⟨h1, h2, h3, h4, h5, h6, h7, h8, h9, h10⟩ := id hX
  obtain ⟨eK, eN, eJ, eQ, eT, eI, e21, eF, e13, e15, e35⟩ := hP
  have h16 : dG D ≤ 16 := h6.1.2.1.2
  have kb : mK S bo = 4 := (h3.k o bo (by omega) hbo).1
  obtain ⟨-, kT, -⟩ := hU.1 o bo ho hbo
  have d41 := hD 41 (by decide) (by decide) (by decide) (by decide)
  have d47 := hD 47 (by decide) (by decide) (by decide) (by decide)
  have d42 := hD 42 (by decide) (by decide) (by decide) (by decide)
  have d43 := hD 43 (by decide) (by decide) (by decide) (by decide)
  have d44 := hD 44 (by decide) (by decide) (by decide) (by decide)
  have d45 := hD 45 (by decide) (by decide) (by decide) (by decide)
  have d48 := hD 48 (by decide) (by decide) (by decide) (by decide)
  have d52 := hD 52 (by decide) (by decide) (by decide) (by decide)
  have d53 := hD 53 (by decide) (by decide) (by decide) (by decide)
  have d55 := hD 55 (by decide) (by decide) (by decide) (by decide)
  have d57 := hD 57 (by decide) (by decide) (by decide) (by decide)
  have d58 := hD 58 (by decide) (by decide) (by decide) (by decide)
  have d59 := hD 59 (by decide) (by decide) (by decide) (by decide)
  have d60 := hD 60 (by decide) (by decide) (by decide) (by decide)
  have d61 := hD 61 (by decide) (by decide) (by decide) (by decide)
  have hpr : prD D1 = prD D := prD_eq d41 d47
  have hdT : dT D1 = dT D := by unfold dT; rw [d41]
  have hdG : dG D1 = dG D := by unfold dG; rw [d48]
  have hdL : dL D1 = dL D := by unfold dL; rw [d57]
  have hdR : dR D1 = dR D := by unfold dR; rw [d52]
  have ls : lsD D1 = lsD D := by funext r; exact lsR_54 d53 h54 d55 41 r
  have ask : ∀ r : Nat, askD D1 as r = askD D as r := fun r => by
    unfold askD
    rw [d53]
    by_cases q : D 53 r = 0
    · rw [if_pos q, if_pos q]
    · rw [if_neg q, if_neg q, h54 r q]
  have q35 : ∀ k b : Nat, k ≠ 13 → k ≠ 15 → k ≠ 35 → mQ S2 k b = mQ S k b := fun k b a1 a2 a3 => eF k b (fun q => a1 q.1) (fun q => a2 q.1) (fun q => a3 q.1)
  have qk : ∀ k b c : Nat, mK S b = c → c ≠ 4 → c ≠ 6 → mQ S2 k b = mQ S k b := fun k b c hc h4 h6 => eF k b (fun q => h4 (by rw [← hc, q.2]; exact kb)) (fun q => h4 (by rw [← hc, q.2]; exact kb)) (fun q => h6 (by rw [← hc, q.2]; exact h1.c))
  refine ⟨⟨?_, ?_, ?_, ?_, ?_, hA1, ?_, ?_, ?_, ?_⟩, ?_, ?_, ?_⟩
  · refine h1.same eK eN (fun k hk => ?_) eQ
    refine eF k _ (fun q => ?_) (fun q => ?_) (fun q => ?_)
    · have := h1.c; rw [q.2, kb] at this; cases this
    · have := h1.c; rw [q.2, kb] at this; cases this
    · omega
  · intro i hi
    rw [hpr, eQ, eK, d42, d43, d44, show lastD D1 i = lastD D i from by simp only [lastD, d44, d45]]
    refine ⟨(h2 i hi).1, fun q => ?_⟩
    obtain ⟨a, e, k1, k2, k3, k4, k5, k6, k7⟩ := (h2 i hi).2 q
    exact ⟨a, e, k1, (eI _ _ (Or.inl (by decide))).trans k2, (eI _ _ (Or.inl (by decide))).trans k3, (eI _ _ (Or.inl (by decide))).trans k4, (eI _ _ (Or.inl (by decide))).trans k5, (eI _ _ (Or.inl (by decide))).trans k6, (e21 i a hi e).trans (h46 i hi q).symm⟩
  · rw [rG_eq lk1 S2 L d48 (hD 49 (by decide) (by decide) (by decide) (by decide)) (hD 50 (by decide) (by decide) (by decide) (by decide))]
    refine ⟨by rw [eQ]; exact h3.1, fun i hi => ?_⟩
    obtain ⟨a, nm, e, k1, k2, k3, k4, k5, k6, k7, k8⟩ := h3.2 i hi
    refine ⟨a, nm, by rw [eQ]; exact e, by rw [eK]; exact k1, (eI _ _ (Or.inl (by decide))).trans k2, (q35 _ _ (by decide) (by decide) (by decide)).trans k3, by rw [eK]; exact k4, by rw [eN]; exact k5, (eI _ _ (Or.inl (by decide))).trans k6, fun j hj hl => ?_, ?_⟩
    · rw [eT nm (fun q => by rw [q, kT] at k4; cases k4)]; exact k7 j hj hl
    · rw [eQ]
      by_cases q : i = o
      · subst q
        have : a = bo := by rw [e] at hbo; exact Option.some.inj hbo
        subst this
        rw [e13]; exact h13
      · have na := tg_ne h3 h16 hi ho e hbo q
        rw [hlk i q, eF 13 a (fun z => na z.2) (fun z => na z.2) (fun z => by cases z.1)]; exact k8
  · refine ⟨by rw [hdR, eQ]; exact h4.1, fun r hr => ?_⟩
    rw [hdR] at hr
    rw [ask, eQ, eK, ls, d53, d55, hD 56 (by decide) (by decide) (by decide) (by decide)]
    obtain ⟨a, e, k1, k2, k3, k4, k5, k6, k7, k8⟩ := h4.2 r hr
    refine ⟨a, e, k1, (eI _ _ (Or.inl (by decide))).trans k2, (eI _ _ (Or.inl (by decide))).trans k3, (eI _ _ (Or.inl (by decide))).trans k4, fun q => ?_, fun q => (qk 7 a 3 k1 (by decide) (by decide)).trans (k6 q), (eI _ _ (Or.inl (by decide))).trans k7, (eI _ _ (Or.inl (by decide))).trans k8⟩
    rw [h54 r (by rintro z; rw [z] at q; revert q; decide)]
    exact (qk 6 a 3 k1 (by decide) (by decide)).trans (k5 q)
  · rw [rL_eq S2 L d57 d58 d59 d60]
    exact h5.same eK (fun k b q => eI k b (Or.inr (by rw [q]; decide))) (fun k b _ q => qk k b 2 q (by decide) (by decide)) eQ
  · rw [eI _ _ (Or.inl (by decide)), hD 40 (by decide) (by decide) (by decide) (by decide)]; exact h7
  · rw [d44, d45]; exact h8
  · rw [wfO_eq d52 d57 d58]; exact h9
  · show acD D1
    unfold acD at h10 ⊢
    rw [ls, hdL, d58]; exact h10
  · obtain ⟨v1, v2, v3, v4, v5, v6⟩ := hV
    refine ⟨?_, ?_, ?_, ?_, ?_, ?_⟩
    · rw [eI _ _ (Or.inl (by decide)), d41]; exact v1
    · rw [eI _ _ (Or.inl (by decide)), hpr]; exact v2
    · rw [eI _ _ (Or.inl (by decide)), d48]; exact v3
    · rw [eI _ _ (Or.inl (by decide)), d52]; exact v4
    · rw [eI _ _ (Or.inl (by decide)), d57]; exact v5
    · rw [eJ, hdT, scF_eq d42 d44]; exact v6
  · rw [d61, eT _ (hU.2.1 o 5 ho (by decide)).symm]; exact hK.1
  · rw [hdL, d61]; exact hF.2
theorem nI_inj {a b : Nat} (ha : a < 2 ^ 31) (hb : b < 2 ^ 31) (h : nI a = nI b) : a = b := (nI_eq ha hb).1 h
theorem look_in {o g : Nat} : ∀ {lk : ZL} {n : Nat}, lk[n]? = some (o, g) → ∃ y : Nat, look lk o = some y
  | [], n, h => by simp at h
  | (a, b) :: r, 0, h => by
    have h : some (a, b) = some (o, g) := h
    cases h
    exact ⟨g, look_self⟩
  | (a, b) :: r, n + 1, h => by
    have h : r[n]? = some (o, g) := h
    obtain ⟨y, hy⟩ := look_in h
    simp only [look]
    by_cases q : o = a
    · exact ⟨b, by rw [if_pos q]⟩
    · exact ⟨y, by rw [if_neg q]; exact hy⟩
/-- behind tidy -/
theorem cR.tidy {D : ZD} {J J1 : Nat → Int64} {lk : ZL} {as : Nat → Nat} {S S2 : ZM} {L T : Nat → Nat} (h : cR D J lk as S L T) {t o bt bo : Nat} (ht : t < dG D) (ho : o < dG D) (lt : look lk t = none) (lo : look lk o = none) (hne : t ≠ o) (hbt : tQ S (L 2) t = some bt) (hbo : tQ S (L 2) o = some bo)
    (hP : tgP S S2 L (T o) bo (mvD D t o) (some bt) (mQ S 35 (L 0)) (some bo)) (hA : ∀ j : Nat, j < 24 → tI S2 (T o) j = if prD D j = true then D 46 j else 0)
    (hJ : ∀ k : Nat, k < dU D → J1 k = J k) (hJ1 : ∀ r : Nat, bJ (J1 (dU D)) r = true ↔ r < dR D ∧ D 53 r = 0 ∧ D 54 r = nI o) :
    cX (opTidy D t o) ((o, t) :: lk) as S2 L ∧ cV (opTidy D t o) S2 L ∧ (∀ l : Nat, l < 8 → tI S2 (L 5) l = (opTidy D t o) 61 l) ∧ (∀ l : Nat, l < 8 → dL (opTidy D t o) ≤ l → (opTidy D t o) 61 l = 0) ∧ cU (opTidy D t o) S2 L T ∧ wfQ (opTidy D t o) J1 ((o, t) :: lk) as := by
  obtain ⟨D1, hD1⟩ : ∃ z : ZD, z = opTidy D t o := ⟨_, rfl⟩
  have hD : ∀ k : Nat, k ≠ 46 → k ≠ 51 → k ≠ 54 → k < 67 → D1 k = D k := fun k a b c d => by
    rw [hD1]; funext i; unfold opTidy
    rw [if_neg a, if_neg b, if_neg c, if_neg (by omega), if_neg (by omega), if_neg (by omega), if_neg (by omega)]
  have h46 : ∀ i : Nat, i < 24 → D1 46 i = mvD D t o i := fun i hi => by rw [hD1]; exact (if_pos rfl).trans (if_pos hi)
  have h51 : ∀ i : Nat, D1 51 i = if i = o then 1 else D 51 i := fun i => by rw [hD1]; exact (if_neg (by decide)).trans (if_pos rfl)
  have h54 : ∀ i : Nat, D1 54 i = if i < dR D ∧ D 53 i = 0 ∧ D 54 i = nI o then nI t else D 54 i := fun i => by rw [hD1]; exact (if_neg (by decide)).trans ((if_neg (by decide)).trans (if_pos rfl))
  have h67 : D1 67 0 = nI (dU D + 1) := by rw [hD1]; exact (if_neg (by decide)).trans ((if_neg (by decide)).trans ((if_neg (by decide)).trans ((if_pos rfl).trans (if_pos rfl))))
  have h68 : ∀ i : Nat, D1 68 i = if i = dU D then nI t else D 68 i := fun i => by rw [hD1]; exact (if_neg (by decide)).trans ((if_neg (by decide)).trans ((if_neg (by decide)).trans ((if_neg (by decide)).trans (if_pos rfl))))
  have h69 : ∀ i : Nat, D1 69 i = if i = dU D then nI o else D 69 i := fun i => by rw [hD1]; exact (if_neg (by decide)).trans ((if_neg (by decide)).trans ((if_neg (by decide)).trans ((if_neg (by decide)).trans ((if_neg (by decide)).trans (if_pos rfl)))))
  have h70 : ∀ i : Nat, D1 70 i = if 24 * dU D ≤ i ∧ i < 24 * dU D + 24 then D 46 (i - 24 * dU D) else D 70 i := fun i => by rw [hD1]; exact (if_neg (by decide)).trans ((if_neg (by decide)).trans ((if_neg (by decide)).trans ((if_neg (by decide)).trans ((if_neg (by decide)).trans ((if_neg (by decide)).trans (if_pos rfl))))))
  rw [← hD1]
  have h54n : ∀ r : Nat, ¬ D 53 r = 0 → D1 54 r = D 54 r := fun r q => by rw [h54, if_neg (fun z => q z.2.1)]
  obtain ⟨hX, hV, hK, hU, hQ, hF⟩ := id h
  obtain ⟨h1, h2, h3, h4, h5, h6, h7, h8, h9, h10⟩ := id hX
  obtain ⟨a1, a2, a3, a4, a5⟩ := id h6
  have h16 : dG D ≤ 16 := a1.2.1.2
  have d41 := hD 41 (by decide) (by decide) (by decide) (by decide)
  have d47 := hD 47 (by decide) (by decide) (by decide) (by decide)
  have d48 := hD 48 (by decide) (by decide) (by decide) (by decide)
  have d52 := hD 52 (by decide) (by decide) (by decide) (by decide)
  have d53 := hD 53 (by decide) (by decide) (by decide) (by decide)
  have d55 := hD 55 (by decide) (by decide) (by decide) (by decide)
  have d57 := hD 57 (by decide) (by decide) (by decide) (by decide)
  have hpr : prD D1 = prD D := prD_eq d41 d47
  have hdT : dT D1 = dT D := by unfold dT; rw [d41]
  have hdG : dG D1 = dG D := by unfold dG; rw [d48]
  have hdL : dL D1 = dL D := by unfold dL; rw [d57]
  have hdR : dR D1 = dR D := by unfold dR; rw [d52]
  have uL : dU D ≤ lk.length := hQ.2.2.2.2.2.1.2.1
  have hdU : dU D1 = dU D + 1 := by show ix (D1 67 0) = _; rw [h67]; exact nI_clamp (by omega)
  have hw1 : wfL (dG D) ((o, t) :: lk) := ⟨a3, lo, lt, fun q => hne q.symm, ho, ht⟩
  have lt1 : look ((o, t) :: lk) t = none := (look_ne hne).trans lt
  have hlen := wfL_lt hw1 ht lt1
  have hlen : lk.length + 1 + 1 ≤ dG D := hlen
  have hm : ∀ r : Nat, r < dR D → D 53 r = 0 → (D 54 r = nI o ↔ mean lk (as r) = o) := fun r hr q => by
    obtain ⟨g1, g2⟩ := a5 r hr q
    rw [g2]
    have := mean_lt a3 (as r) g1
    exact nI_eq (by omega) (by omega)
  have hA1 : wfA D1 ((o, t) :: lk) as := by
    refine ⟨?_, fun r hr => ?_, by rw [hdG]; exact hw1, by show lk.length + 1 ≤ 15; omega, fun r hr q => ?_⟩
    · unfold wfN; rw [hdT, hdG, hdR, hdL, d41, d48, d52, d57]; exact a1
    · rw [hdR] at hr
      rw [d53, d55, hdG, hdL]
      obtain ⟨r1, r2, r3, r4⟩ := a2 r hr
      refine ⟨r1, fun q => ?_, fun q => ?_, fun q => ?_⟩
      · rw [h54]
        split
        · exact ⟨t, ht, rfl⟩
        · exact r2 q
      · rw [h54n r (by rw [q]; decide)]; exact r3 q
      · rw [h54n r (by rintro z; rw [z] at q; revert q; decide)]; exact r4 q
    · rw [hdR] at hr
      rw [d53] at q
      rw [hdG, h54]
      obtain ⟨g1, g2⟩ := a5 r hr q
      refine ⟨g1, ?_⟩
      simp only [mean]
      by_cases z : mean lk (as r) = o
      · rw [if_pos z, if_pos ⟨hr, q, (hm r hr q).2 z⟩]
      · rw [if_neg z, if_neg (fun w => z ((hm r hr q).1 w.2.2))]; exact g2
  obtain ⟨c1, c2, c3, c4⟩ := h.tgs (D1 := D1) (lk1 := (o, t) :: lk) (as := as) ho hbo hP hD h54n (fun i hi _ => h46 i hi) (fun i hi => look_ne hi) (by rw [look_self]; exact hbt.symm) hA1
  obtain ⟨eK, eN, eJ, eQ, eT, eI, e21, eF, e13, e15, e35⟩ := hP
  have ko : ∀ k : Nat, k < dU D → ∃ x : Nat, D 69 k = nI x ∧ x < dG D ∧ x ≠ o := fun k hk => by
    obtain ⟨x, g, q1, q2, -⟩ := hQ.2.2.2.2.2.2 k hk
    have hx := look_in q1
    obtain ⟨y, hy⟩ := hx
    exact ⟨x, q2, (look_lt a3 x y hy).1, by rintro rfl; rw [lo] at hy; cases hy⟩
  have gl : ∀ k : Nat, k ≤ dU D → glS D1 S2 L k = glS D S L k := fun k hk => by
    unfold glS
    by_cases q : k = 0
    · rw [if_pos q, if_pos q]
    · rw [if_neg q, if_neg q, eQ, h69, if_neg (by omega)]
  refine ⟨c1, c2, c3, c4, ?_, ?_⟩
  · obtain ⟨u1, u2, u3, u4, u5⟩ := hU
    refine ⟨fun i a hi ha => ?_, by rw [hdG]; exact u2, ⟨by rw [hdG]; exact u3.1, ?_⟩, ?_, fun k hk => ?_⟩
    · rw [hdG] at hi; rw [eQ] at ha
      rw [eF 14 a (fun z => by cases z.1) (fun z => by cases z.1) (fun z => by cases z.1), eK, eN]; exact u1 i a hi ha
    · unfold inj2
      rw [eQ]
      refine ⟨u3.2.1, fun g h a b hg hh ha hb q => ?_⟩
      rw [eF 11 a (fun z => by cases z.1) (fun z => by cases z.1) (fun z => by cases z.1), eF 11 b (fun z => by cases z.1) (fun z => by cases z.1) (fun z => by cases z.1)] at q
      exact u3.2.2 g h a b hg hh ha hb q
    · rw [e35, hdU]
      show _ = if dU D + 1 = 0 then none else tQ S2 (L 2) (ix (D1 69 (dU D)))
      rw [if_neg (by omega), h69, if_pos rfl, eQ, ix, nI_clamp (by omega)]; exact hbo.symm
    · rw [hdU] at hk
      rw [hdG, hpr, hdT, eQ]
      by_cases q : k = dU D
      · subst q
        rw [h69, if_pos rfl, show ix (nI o) = o from nI_clamp (by omega), gl _ (Nat.le_refl _)]
        refine ⟨ho, fun a ha => ?_, fun j hj hp => ?_⟩
        · have : a = bo := by rw [hbo] at ha; exact (Option.some.inj ha).symm
          subst this
          rw [e15]; exact u4
        · rw [hA j hj, h70, if_pos (show 24 * dU D ≤ 24 * dU D + j ∧ 24 * dU D + j < 24 * dU D + 24 from ⟨by omega, by omega⟩), show 24 * dU D + j - 24 * dU D = j by omega]
          by_cases hpj : prD D j = true
          · rw [if_pos hpj]
          · rw [if_neg hpj]
            rcases hp with hp | hp
            · exact absurd hp hpj
            · exact ((hQ.1 j hj).2 hp).2.1.symm
      · have hk' : k < dU D := by omega
        obtain ⟨x, ex, hx, nx⟩ := ko k hk'
        have exx : ix (D 69 k) = x := by rw [ex, ix]; exact nI_clamp (by omega)
        obtain ⟨w1, w2, w3⟩ := u5 k hk'
        rw [h69, if_neg q, gl k (by omega)]
        refine ⟨w1, fun a ha => ?_, fun j hj hp => ?_⟩
        · rw [exx] at ha
          have na := tg_ne h3 h16 hx ho ha hbo nx
          rw [eF 15 a (fun z => na z.2) (fun z => na z.2) (fun z => by cases z.1)]
          exact w2 a (by rw [exx]; exact ha)
        · rw [h70, if_neg (by omega), ← w3 j hj hp, exx, eT _ (fun z => nx (u3.1 x o hx ho z))]
  · obtain ⟨p1, p2, p3, p4, p5, p6, p7⟩ := hQ
    refine ⟨fun i hi => ?_, by rw [hD 40 (by decide) (by decide) (by decide) (by decide)]; exact p2, ?_, fun g hg => ?_, ?_, ⟨?_, ?_, ?_⟩, fun k hk => ?_⟩
    · rw [hdT, hD 42 (by decide) (by decide) (by decide) (by decide), hD 43 (by decide) (by decide) (by decide) (by decide), hD 44 (by decide) (by decide) (by decide) (by decide), d47, h46 i hi]
      refine ⟨(p1 i hi).1, fun hd => ?_⟩
      obtain ⟨z1, z2, z3⟩ := (p1 i hi).2 hd
      refine ⟨z1, ?_, z3⟩
      have hb : hasB (D 46 i) (nI o) = false := by rw [z2]; unfold hasB; rw [Int32.zero_and]; rfl
      unfold mvD
      rw [hb]; exact (if_neg Bool.false_ne_true).trans z2
    · rw [hdG, hD 49 (by decide) (by decide) (by decide) (by decide), hD 50 (by decide) (by decide) (by decide) (by decide)]; exact p3
    · rw [h51]
      by_cases q : g = o
      · subst q; rw [if_pos rfl, look_self]; rfl
      · rw [if_neg q, look_ne q]; exact p4 g hg
    · rw [hdR, hD 56 (by decide) (by decide) (by decide) (by decide)]; exact p5
    · rw [h67, hdU]
    · rw [hdU]; show dU D + 1 ≤ lk.length + 1; omega
    · rw [hdL, hD 59 (by decide) (by decide) (by decide) (by decide)]; exact p6.2.2
    · rw [hdU] at hk ⊢
      rw [h69, h68, hdR, d53]
      by_cases q : k = dU D
      · subst q
        refine ⟨o, t, ?_, by rw [if_pos rfl], by rw [if_pos rfl], fun r => ?_⟩
        · rw [show dU D + 1 - 1 - dU D = 0 by omega]; rfl
        · rw [hJ1, show dU D + 1 - dU D = 1 by omega]
          show _ ↔ r < dR D ∧ D 53 r = 0 ∧ mean lk (as r) = o
          constructor
          · rintro ⟨w1, w2, w3⟩; exact ⟨w1, w2, (hm r w1 w2).1 w3⟩
          · rintro ⟨w1, w2, w3⟩; exact ⟨w1, w2, (hm r w1 w2).2 w3⟩
      · have hk' : k < dU D := by omega
        obtain ⟨x, g, q1, q2, q3, q4⟩ := p7 k hk'
        rw [if_neg q, if_neg q, hJ k hk']
        refine ⟨x, g, ?_, q2, q3, ?_⟩
        · rw [show dU D + 1 - 1 - k = (dU D - 1 - k) + 1 by omega]; exact q1
        · rw [show dU D + 1 - k = (dU D - k) + 1 by omega]; exact q4
/-- behind undoTidy -/
theorem cR.undo {D : ZD} {J : Nat → Int64} {lk : ZL} {as : Nat → Nat} {S S2 : ZM} {L T : Nat → Nat} (h : cR D J lk as S L T) (hZ : wfZ D) {o bo : Nat} (hu : 0 < dU D) (eo : D 69 (dU D - 1) = nI o) (ho : o < dG D) (hbo : tQ S (L 2) o = some bo)
    (hP : tgP S S2 L (T o) bo (fun j => D 70 (24 * (dU D - 1) + j)) none none (mQ S 15 bo)) (hA : tI S2 = tI S) :
    cX (opUndo D J) lk.tail as S2 L ∧ cV (opUndo D J) S2 L ∧ (∀ l : Nat, l < 8 → tI S2 (L 5) l = (opUndo D J) 61 l) ∧ (∀ l : Nat, l < 8 → dL (opUndo D J) ≤ l → (opUndo D J) 61 l = 0) ∧ cU (opUndo D J) S2 L T ∧ wfQ (opUndo D J) J lk.tail as := by
  obtain ⟨u, eu⟩ : ∃ u : Nat, dU D = u + 1 := ⟨dU D - 1, by omega⟩
  obtain ⟨D1, hD1⟩ : ∃ z : ZD, z = opUndo D J := ⟨_, rfl⟩
  have hD : ∀ k : Nat, k ≠ 46 → k ≠ 51 → k ≠ 54 → k ≠ 67 → D1 k = D k := fun k a b c d => by
    rw [hD1]; funext i; unfold opUndo
    rw [if_neg a, if_neg b, if_neg c, if_neg d]
  have h46 : ∀ i : Nat, i < 24 → D1 46 i = D 70 (24 * (dU D - 1) + i) := fun i hi => by rw [hD1]; exact (if_pos rfl).trans (if_pos hi)
  have h51 : ∀ i : Nat, D1 51 i = if i = ix (D 69 (dU D - 1)) then 0 else D 51 i := fun i => by rw [hD1]; exact (if_neg (by decide)).trans (if_pos rfl)
  have h54 : ∀ i : Nat, D1 54 i = if i < dR D ∧ bJ (J (dU D - 1)) i = true then D 69 (dU D - 1) else D 54 i := fun i => by rw [hD1]; exact (if_neg (by decide)).trans ((if_neg (by decide)).trans (if_pos rfl))
  have h67 : D1 67 0 = nI (dU D - 1) := by rw [hD1]; exact (if_neg (by decide)).trans ((if_neg (by decide)).trans ((if_neg (by decide)).trans ((if_pos rfl).trans (if_pos rfl))))
  rw [← hD1]
  obtain ⟨hX, hV, hK, hU, hQ, hF⟩ := id h
  obtain ⟨h1, h2, h3, h4, h5, h6, h7, h8, h9, h10⟩ := id hX
  obtain ⟨a1, a2, a3, a4, a5⟩ := id h6
  obtain ⟨p1, p2, p3, p4, p5, p6, p7⟩ := id hQ
  have h16 : dG D ≤ 16 := a1.2.1.2
  have hu15 : dU D ≤ 15 := Nat.le_trans p6.2.1 a4
  rw [eu] at h46 h51 h54 h67 eo hP
  rw [show u + 1 - 1 = u from rfl] at h46 h51 h54 h67 eo hP
  rw [eo, show ix (nI o) = o from nI_clamp (by omega)] at h51
  rw [eo] at h54
  obtain ⟨o', g, q1, q2, q3, q4⟩ := p7 u (by omega)
  have : o' = o := nI_inj (by
    obtain ⟨y, hy⟩ := look_in q1
    have := (look_lt a3 _ y hy).1
    omega) (by omega) (q2.symm.trans eo)
  subst this
  rw [eu] at q1 q4
  rw [show u + 1 - 1 - u = 0 by omega] at q1
  rw [show u + 1 - u = 1 by omega] at q4
  obtain ⟨r, rfl⟩ : ∃ r : ZL, lk = (o', g) :: r := by
    cases lk with
    | nil => cases q1
    | cons z r => exact ⟨r, by rw [Option.some.inj q1]⟩
  have q4 : ∀ r9 : Nat, bJ (J u) r9 = true ↔ r9 < dR D ∧ D 53 r9 = 0 ∧ mean r (as r9) = o' := q4
  show cX D1 r as S2 L ∧ _ ∧ _ ∧ _ ∧ _ ∧ wfQ D1 J r as
  obtain ⟨b0, b1, b2, b3, b4, b5⟩ := id a3
  have h54n : ∀ r9 : Nat, ¬ D 53 r9 = 0 → D1 54 r9 = D 54 r9 := fun r9 q => by rw [h54, if_neg (fun z => q ((q4 r9).1 z.2).2.1)]
  have hD' : ∀ k : Nat, k ≠ 46 → k ≠ 51 → k ≠ 54 → k < 67 → D1 k = D k := fun k a b c d => hD k a b c (by omega)
  have d41 := hD 41 (by decide) (by decide) (by decide) (by decide)
  have d47 := hD 47 (by decide) (by decide) (by decide) (by decide)
  have d48 := hD 48 (by decide) (by decide) (by decide) (by decide)
  have d52 := hD 52 (by decide) (by decide) (by decide) (by decide)
  have d53 := hD 53 (by decide) (by decide) (by decide) (by decide)
  have d55 := hD 55 (by decide) (by decide) (by decide) (by decide)
  have d57 := hD 57 (by decide) (by decide) (by decide) (by decide)
  have d68 := hD 68 (by decide) (by decide) (by decide) (by decide)
  have d69 := hD 69 (by decide) (by decide) (by decide) (by decide)
  have d70 := hD 70 (by decide) (by decide) (by decide) (by decide)
  have hpr : prD D1 = prD D := prD_eq d41 d47
  have hdT : dT D1 = dT D := by unfold dT; rw [d41]
  have hdG : dG D1 = dG D := by unfold dG; rw [d48]
  have hdL : dL D1 = dL D := by unfold dL; rw [d57]
  have hdR : dR D1 = dR D := by unfold dR; rw [d52]
  have hdU : dU D1 = u := by unfold dU; rw [h67, ix]; exact nI_clamp (by omega)
  have hA1 : wfA D1 r as := by
    refine ⟨?_, fun r9 hr => ?_, by rw [hdG]; exact b0, ?_, fun r9 hr q => ?_⟩
    · unfold wfN; rw [hdT, hdG, hdR, hdL, d41, d48, d52, d57]; exact a1
    · rw [hdR] at hr
      rw [d53, d55, hdG, hdL]
      obtain ⟨r1, r2, r3, r4⟩ := a2 r9 hr
      refine ⟨r1, fun q => ?_, fun q => ?_, fun q => ?_⟩
      · rw [h54]
        split
        · exact ⟨o', ho, rfl⟩
        · exact r2 q
      · rw [h54n r9 (by rw [q]; decide)]; exact r3 q
      · rw [h54n r9 (by rintro z; rw [z] at q; revert q; decide)]; exact r4 q
    · have : r.length + 1 ≤ 15 := a4
      omega
    · rw [hdR] at hr
      rw [d53] at q
      rw [hdG, h54]
      obtain ⟨g1, g2⟩ := a5 r9 hr q
      refine ⟨g1, ?_⟩
      simp only [mean] at g2
      by_cases z : mean r (as r9) = o'
      · rw [if_pos ⟨hr, (q4 r9).2 ⟨hr, q, z⟩⟩, z]
      · rw [if_neg (fun w => z ((q4 r9).1 w.2).2.2), g2, if_neg z]
  obtain ⟨c1, c2, c3, c4⟩ := h.tgs (D1 := D1) (lk1 := r) (as := as) ho hbo hP hD' h54n (fun i hi _ => h46 i hi) (fun i hi => (look_ne hi).symm) (by rw [b1]; rfl) hA1
  obtain ⟨eK, eN, eJ, eQ, eT, eI, e21, eF, e13, e15, e35⟩ := hP
  have ko : ∀ k : Nat, k < u → ∃ x : Nat, D 69 k = nI x ∧ x < dG D ∧ x ≠ o' := fun k hk => by
    obtain ⟨x, g9, w1, w2, -⟩ := p7 k (by omega)
    rw [eu, show u + 1 - 1 - k = (u - 1 - k) + 1 by omega] at w1
    have w1 : r[u - 1 - k]? = some (x, g9) := w1
    obtain ⟨y, hy⟩ := look_in w1
    exact ⟨x, w2, (look_lt b0 x y hy).1, by rintro rfl; rw [b1] at hy; cases hy⟩
  have gl : ∀ k : Nat, glS D1 S2 L k = glS D S L k := fun k => by
    unfold glS
    rw [eQ, d69]
  refine ⟨c1, c2, c3, c4, ?_, ?_⟩
  · obtain ⟨u1, u2, u3, u4, u5⟩ := hU
    refine ⟨fun i a hi ha => ?_, by rw [hdG]; exact u2, ⟨by rw [hdG]; exact u3.1, ?_⟩, ?_, fun k hk => ?_⟩
    · rw [hdG] at hi; rw [eQ] at ha
      rw [eF 14 a (fun z => by cases z.1) (fun z => by cases z.1) (fun z => by cases z.1), eK, eN]; exact u1 i a hi ha
    · unfold inj2
      rw [eQ]
      refine ⟨u3.2.1, fun g h a b hg hh ha hb q => ?_⟩
      rw [eF 11 a (fun z => by cases z.1) (fun z => by cases z.1) (fun z => by cases z.1), eF 11 b (fun z => by cases z.1) (fun z => by cases z.1) (fun z => by cases z.1)] at q
      exact u3.2.2 g h a b hg hh ha hb q
    · rw [e35, hdU, gl]
      have := (u5 u (by omega)).2.1 bo (by rw [eo, show ix (nI o') = o' from nI_clamp (by omega)]; exact hbo)
      exact this
    · rw [hdU] at hk
      rw [hdG, hpr, hdT, eQ, hA, d69, d70, gl]
      obtain ⟨x, ex, hx, nx⟩ := ko k hk
      have exx : ix (D 69 k) = x := by rw [ex, ix]; exact nI_clamp (by omega)
      obtain ⟨w1, w2, w3⟩ := u5 k (by omega)
      refine ⟨w1, fun a ha => ?_, w3⟩
      rw [exx] at ha
      have na := tg_ne h3 h16 hx ho ha hbo nx
      rw [eF 15 a (fun z => na z.2) (fun z => na z.2) (fun z => by cases z.1)]
      exact w2 a (by rw [exx]; exact ha)
  · refine ⟨fun i hi => ?_, by rw [hD 40 (by decide) (by decide) (by decide) (by decide)]; exact p2, ?_, fun g9 hg => ?_, ?_, ⟨?_, ?_, ?_⟩, fun k hk => ?_⟩
    · rw [hdT, hD 42 (by decide) (by decide) (by decide) (by decide), hD 43 (by decide) (by decide) (by decide) (by decide), hD 44 (by decide) (by decide) (by decide) (by decide), d47, h46 i hi]
      refine ⟨(p1 i hi).1, fun hd => ?_⟩
      obtain ⟨z1, z2, z3⟩ := (p1 i hi).2 hd
      exact ⟨z1, hZ u i (by omega) hi hd, z3⟩
    · rw [hdG, hD 49 (by decide) (by decide) (by decide) (by decide), hD 50 (by decide) (by decide) (by decide) (by decide)]; exact p3
    · rw [h51]
      have p := p4 g9 hg
      simp only [look] at p
      by_cases q : g9 = o'
      · rw [if_pos q, q, b1]; rfl
      · rw [if_neg q]; rw [if_neg q] at p; exact p
    · rw [hdR, hD 56 (by decide) (by decide) (by decide) (by decide)]; exact p5
    · rw [h67, hdU]
    · rw [hdU]; have : dU D ≤ r.length + 1 := p6.2.1; omega
    · rw [hdL, hD 59 (by decide) (by decide) (by decide) (by decide)]; exact p6.2.2
    · rw [hdU] at hk ⊢
      rw [d69, d68, hdR, d53]
      obtain ⟨x, g9, w1, w2, w3, w4⟩ := p7 k (by omega)
      rw [eu, show u + 1 - 1 - k = (u - 1 - k) + 1 by omega] at w1
      rw [eu, show u + 1 - k = (u - k) + 1 by omega] at w4
      exact ⟨x, g9, w1, w2, w3, w4⟩
