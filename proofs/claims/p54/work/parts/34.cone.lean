/-! the class: one track's numbers anew -/
theorem cS.same {S S1 : ZM} {L : Nat → Nat} (h : cS S L) (hk : mK S1 = mK S) (hN : mN S1 = mN S) (hq : ∀ k : Nat, k < 35 → mQ S1 k (L 0) = mQ S k (L 0)) (htq : tQ S1 = tQ S) : cS S1 L := by
  unfold cS at h ⊢
  rw [hk, hN, htq, hq 22 (by decide), hq 23 (by decide), hq 24 (by decide), hq 25 (by decide), hq 31 (by decide), hq 32 (by decide), hq 33 (by decide), hq 34 (by decide)]
  exact h
theorem rG.same {D : ZD} {lk : ZL} {S S1 : ZM} {L : Nat → Nat} (h : rG D lk S L) (hk : mK S1 = mK S) (hN : mN S1 = mN S) (hI : ∀ k b : Nat, mK S b = 4 → mI S1 k b = mI S k b) (hq : ∀ k b : Nat, k < 14 → mK S b = 4 → mQ S1 k b = mQ S k b) (htq : tQ S1 = tQ S) (hti : ∀ b : Nat, mK S b = 11 → tI S1 b = tI S b) : rG D lk S1 L := by
  refine ⟨by rw [htq]; exact h.1, fun i hi => ?_⟩
  obtain ⟨a, nm, e, h1, h2, h3, h4, h5, h6, h7, h8⟩ := h.2 i hi
  refine ⟨a, nm, by rw [htq]; exact e, by rw [hk]; exact h1, by rw [hI _ _ h1]; exact h2, by rw [hq _ _ (by decide) h1]; exact h3, by rw [hk]; exact h4, by rw [hN]; exact h5, by rw [hI _ _ h1]; exact h6, fun j hj hl => by rw [hti _ h4]; exact h7 j hj hl, by rw [hq _ _ (by decide) h1, htq]; exact h8⟩
theorem rR.same {D : ZD} {as : Nat → Nat} {S S1 : ZM} {L : Nat → Nat} (h : rR D as S L) (hk : mK S1 = mK S) (hI : ∀ k b : Nat, mK S b = 3 → mI S1 k b = mI S k b) (hq : ∀ k b : Nat, k < 14 → mK S b = 3 → mQ S1 k b = mQ S k b) (htq : tQ S1 = tQ S) : rR D as S1 L := by
  refine ⟨by rw [htq]; exact h.1, fun i hi => ?_⟩
  obtain ⟨a, e, h1, h2, h3, h4, h5, h6, h7, h8⟩ := h.2 i hi
  refine ⟨a, by rw [htq]; exact e, by rw [hk]; exact h1, by rw [hI _ _ h1]; exact h2, by rw [hI _ _ h1]; exact h3, by rw [hI _ _ h1]; exact h4, fun q => by rw [hq _ _ (by decide) h1, htq]; exact h5 q, fun q => by rw [hq _ _ (by decide) h1, htq]; exact h6 q, by rw [hI _ _ h1]; exact h7, by rw [hI _ _ h1]; exact h8⟩
theorem rL.same {D : ZD} {S S1 : ZM} {L : Nat → Nat} (h : rL D S L) (hk : mK S1 = mK S) (hI : ∀ k b : Nat, mK S b = 2 → mI S1 k b = mI S k b) (hq : ∀ k b : Nat, k < 14 → mK S b = 2 → mQ S1 k b = mQ S k b) (htq : tQ S1 = tQ S) : rL D S1 L := by
  refine ⟨by rw [htq]; exact h.1, fun i hi => ?_⟩
  obtain ⟨a, r, e, h1, h2, h3, h4, h5⟩ := h.2 i hi
  exact ⟨a, r, by rw [htq]; exact e, by rw [hk]; exact h1, by rw [hq _ _ (by decide) h1]; exact h2, by rw [htq]; exact h3, by rw [hI _ _ h1]; exact h4, by rw [hI _ _ h1]; exact h5⟩
/-- what the tracks' numbers keep to -/
def wfQ1 (D : ZD) : Prop := ∀ t : Nat, t < 24 → (t < dT D → (∃ n : Nat, D 42 t = nI n ∧ 1 ≤ n ∧ n ≤ 999) ∧ (∃ n : Nat, D 43 t = nI n ∧ n ≤ 5) ∧ (∃ n : Nat, D 44 t = nI n ∧ n ≤ 999)) ∧ (dT D ≤ t → D 44 t = 0 ∧ D 46 t = 0 ∧ D 47 t = 0)
theorem cR.one {D D1 : ZD} {J : Nat → Int64} {lk : ZL} {as : Nat → Nat} {S S1 : ZM} {L T : Nat → Nat} (h : cR D J lk as S L T) {t a : Nat} (ht : t < 24) (ha : tQ S (L 1) t = some a)
    (hD : ∀ k : Nat, k ≤ 61 → k < 43 ∨ 46 < k → D1 k = D k) (hDi : ∀ i : Nat, i ≠ t → D1 43 i = D 43 i ∧ D1 44 i = D 44 i ∧ D1 45 i = D 45 i ∧ D1 46 i = D 46 i)
    (hk : mK S1 = mK S) (hN : mN S1 = mN S) (hq : ∀ k : Nat, k ≠ 35 → mQ S1 k = mQ S k) (htq : tQ S1 = tQ S) (hti : tI S1 = tI S) (hI : ∀ k b : Nat, b ≠ a → mI S1 k b = mI S k b) (hJ : mJ S1 37 (L 0) = scF D1 (dT D))
    (i16 : mI S1 16 a = mI S 16 a) (i17 : mI S1 17 a = mI S 17 a) (i18 : mI S1 18 a = D1 43 t) (i19 : mI S1 19 a = D1 44 t) (i20 : mI S1 20 a = lastD D1 t) (i21 : mI S1 21 a = D1 46 t)
    (r43 : ∃ n : Nat, D1 43 t = nI n ∧ n ≤ 5) (r44 : ∃ n : Nat, D1 44 t = nI n ∧ n ≤ 999) (r45 : ¬ D1 45 t = -1) :
    cX D1 lk as S1 L ∧ cV D1 S1 L ∧ (∀ l : Nat, l < 8 → tI S1 (L 5) l = D1 61 l) ∧ (∀ l : Nat, l < 8 → dL D1 ≤ l → D1 61 l = 0) ∧ wfQ1 D1 := by
  obtain ⟨hX, hV, hK, hU, hQ, hF⟩ := h
  obtain ⟨h1, h2, h3, h4, h5', h6, h7, h8, h9, h10⟩ := id hX
  obtain ⟨hp, k5, n16, n17, n18, n19, n20, n21⟩ := h2.at ht ha
  have hpr : prD D1 = prD D := prD_eq (hD 41 (by decide) (by decide)) (hD 47 (by decide) (by decide))
  have hdT : dT D1 = dT D := by simp only [dT, hD 41 (by decide) (by decide)]
  have hdL : dL D1 = dL D := by simp only [dL, hD 57 (by decide) (by decide)]
  have nek : ∀ b : Nat, mK S b ≠ 5 → b ≠ a := fun b hb q => hb (by rw [q]; exact k5)
  have n0 : L 0 ≠ a := nek _ (by rw [h1.c]; decide)
  have hDD : ∀ k : Nat, (k = 41 ∨ 48 ≤ k) ∧ k ≤ 61 → D1 k = D k := fun k hk => hD k hk.2 (by omega)
  refine ⟨⟨?_, ?_, ?_, ?_, ?_, ?_, ?_, ?_, ?_, ?_⟩, ?_, ?_, ?_, ?_⟩
  · exact h1.same hk hN (fun k hk => by rw [hq k (by omega)]) htq
  · refine rT_one h2 ht ha (by rw [htq]) hk hI (fun i => by rw [hpr]) (fun i hi => ?_) ⟨i16.trans n16, (i17.trans n17).trans (by rw [hD 42 (by decide) (by decide)]), i18, i19, i20, i21⟩
    obtain ⟨d3, d4, d5, d6⟩ := hDi i hi
    exact ⟨by rw [hD 42 (by decide) (by decide)], d3, d4, by simp only [lastD, d4, d5], d6⟩
  · rw [rG_eq lk S1 L (hD 48 (by decide) (by decide)) (hD 49 (by decide) (by decide)) (hD 50 (by decide) (by decide))]
    exact h3.same hk hN (fun k b q => hI k b (nek b (by rw [q]; decide))) (fun k b hk _ => by rw [hq k (by omega)]) htq (fun b _ => by rw [hti])
  · rw [rR_eq as S1 L (hD 52 (by decide) (by decide)) (hD 53 (by decide) (by decide)) (hD 54 (by decide) (by decide)) (hD 55 (by decide) (by decide)) (hD 56 (by decide) (by decide))]
    exact h4.same hk (fun k b q => hI k b (nek b (by rw [q]; decide))) (fun k b hk _ => by rw [hq k (by omega)]) htq
  · rw [rL_eq S1 L (hD 57 (by decide) (by decide)) (hD 58 (by decide) (by decide)) (hD 59 (by decide) (by decide)) (hD 60 (by decide) (by decide))]
    exact h5'.same hk (fun k b q => hI k b (nek b (by rw [q]; decide))) (fun k b hk _ => by rw [hq k (by omega)]) htq
  · rw [wfA_eq lk as (hD 41 (by decide) (by decide)) (hD 48 (by decide) (by decide)) (hD 52 (by decide) (by decide)) (hD 53 (by decide) (by decide)) (hD 54 (by decide) (by decide)) (hD 55 (by decide) (by decide)) (hD 57 (by decide) (by decide))]; exact h6
  · rw [hI _ _ n0, hD 40 (by decide) (by decide)]; exact h7
  · intro i
    by_cases e : i = t
    · subst e
      obtain ⟨n, en, hn⟩ := r44
      exact ⟨by rw [en]; exact nI_pos' (by omega), r45⟩
    · obtain ⟨d3, d4, d5, d6⟩ := hDi i e
      rw [d4, d5]; exact h8 i
  · rw [wfO_eq (hD 52 (by decide) (by decide)) (hD 57 (by decide) (by decide)) (hD 58 (by decide) (by decide))]; exact h9
  · rw [acD_eq (hD 53 (by decide) (by decide)) (hD 54 (by decide) (by decide)) (hD 55 (by decide) (by decide)) (hD 57 (by decide) (by decide)) (hD 58 (by decide) (by decide))]; exact h10
  · obtain ⟨v1, v2, v3, v4, v5, v6⟩ := hV
    refine ⟨?_, ?_, ?_, ?_, ?_, ?_⟩
    · rw [hI _ _ n0, hD 41 (by decide) (by decide)]; exact v1
    · rw [hI _ _ n0, hpr]; exact v2
    · rw [hI _ _ n0, hD 48 (by decide) (by decide)]; exact v3
    · rw [hI _ _ n0, hD 52 (by decide) (by decide)]; exact v4
    · rw [hI _ _ n0, hD 57 (by decide) (by decide)]; exact v5
    · rw [hdT]; exact hJ
  · rw [hti, hD 61 (by decide) (by decide)]; exact hK.1
  · rw [hdL, hD 61 (by decide) (by decide)]; exact hF.2
  · intro i hi
    rw [hdT, hD 42 (by decide) (by decide), hD 47 (by decide) (by decide)]
    have q := hQ.1 i hi
    by_cases e : i = t
    · subst e
      exact ⟨fun hd => ⟨(q.1 hd).1, r43, r44⟩, fun hd => absurd (prD_lt hp) (by omega)⟩
    · obtain ⟨d3, d4, d5, d6⟩ := hDi i e
      rw [d3, d4, d6]; exact q
/-- what can be undone is as it was -/
theorem cU.same {D D1 : ZD} {S S1 : ZM} {L T : Nat → Nat} (h : cU D S L T) (e : cU D1 S1 L T = cU D S1 L T) (hk : mK S1 = mK S) (hN : mN S1 = mN S) (hq : mQ S1 = mQ S) (htq : tQ S1 = tQ S) (hti : tI S1 = tI S) : cU D1 S1 L T := by
  rw [e]
  unfold cU glS inj2 at h ⊢
  rw [hk, hN, hq, htq, hti]; exact h
theorem wfQ.same {D D1 : ZD} {J : Nat → Int64} {lk : ZL} {as : Nat → Nat} (h : wfQ D J lk as) (h1 : wfQ1 D1) (h40 : ∃ n : Nat, D1 40 0 = nI n ∧ n ≤ 9999) (hD : ∀ k : Nat, 48 ≤ k → k ≤ 69 → k < 60 ∨ 66 < k → D1 k = D k) : wfQ D1 J lk as := by
  refine ⟨h1, h40, ?_⟩
  have q := h.2.2
  simp only [dG, dR, dU, dL] at q ⊢
  rw [hD 48 (by decide) (by decide) (by decide), hD 49 (by decide) (by decide) (by decide), hD 50 (by decide) (by decide) (by decide), hD 51 (by decide) (by decide) (by decide), hD 52 (by decide) (by decide) (by decide), hD 53 (by decide) (by decide) (by decide), hD 56 (by decide) (by decide) (by decide), hD 57 (by decide) (by decide) (by decide), hD 59 (by decide) (by decide) (by decide), hD 67 (by decide) (by decide) (by decide), hD 68 (by decide) (by decide) (by decide), hD 69 (by decide) (by decide) (by decide)]
  exact q
/-- the state behind a play -/
def opPlay (D : ZD) (t : Nat) : ZD := dS (dS D 44 (up1 (D 44) t (D 44 t + 1))) 45 (up1 (D 45) t (D 40 0))
theorem opPlay_ne {D : ZD} {t k : Nat} (h : k ≠ 44 ∧ k ≠ 45) : opPlay D t k = D k := (dS_ne h.2).trans (dS_ne h.1)
theorem opPlay_44 (D : ZD) (t : Nat) : opPlay D t 44 = up1 (D 44) t (D 44 t + 1) := (dS_ne (by decide)).trans dS_self
theorem opPlay_45 (D : ZD) (t : Nat) : opPlay D t 45 = up1 (D 45) t (D 40 0) := dS_self
theorem mul_sec {n p : Nat} (hn : n ≤ 999) (hp : p ≤ 999) : (nI n * nI (p + 1)).toInt64 = (nI n * nI p).toInt64 + (nI n).toInt64 := by
  have h1 : n * (p + 1) ≤ 999 * 1000 := Nat.mul_le_mul hn (by omega)
  have h2 : n * p ≤ 999 * 999 := Nat.mul_le_mul hn hp
  rw [pk_mul, pk_mul, nI_l (by omega), nI_l (by omega), nI_l (by omega), Nat.mul_succ]
  show Int64.ofNat _ = _
  rw [Int64.ofNat_add]; rfl
abbrev playS (D : ZD) (S : ZM) (L : Nat → Nat) (t a : Nat) : ZM := sJ (sI (sI S 19 a (D 44 t + 1)) 20 a (D 40 0)) 37 (L 0) (scF D (dT D) + (D 42 t).toInt64)
theorem cR.play {D : ZD} {J : Nat → Int64} {lk : ZL} {as : Nat → Nat} {S : ZM} {L T : Nat → Nat} (h : cR D J lk as S L T) {t a : Nat} (ht : t < 24) (ha : tQ S (L 1) t = some a) (hlt : D 44 t < 999) :
    cX (opPlay D t) lk as (playS D S L t a) L ∧ cV (opPlay D t) (playS D S L t a) L ∧ (∀ l : Nat, l < 8 → tI (playS D S L t a) (L 5) l = (opPlay D t) 61 l) ∧ (∀ l : Nat, l < 8 → dL (opPlay D t) ≤ l → (opPlay D t) 61 l = 0) ∧ cU (opPlay D t) (playS D S L t a) L T ∧ wfQ (opPlay D t) J lk as := by
  obtain ⟨D1, hD1⟩ : ∃ z : ZD, z = opPlay D t := ⟨_, rfl⟩
  have hD : ∀ k : Nat, k ≠ 44 ∧ k ≠ 45 → D1 k = D k := fun k hk => by rw [hD1]; exact opPlay_ne hk
  have h44 : D1 44 = up1 (D 44) t (D 44 t + 1) := by rw [hD1]; exact opPlay_44 D t
  have h45 : D1 45 = up1 (D 45) t (D 40 0) := by rw [hD1]; exact opPlay_45 D t
  rw [← hD1]
  obtain ⟨hp, k5, n16, n17, n18, n19, n20, n21⟩ := h.1.2.1.at ht ha
  have hlt' : t < dT D := prD_lt hp
  obtain ⟨⟨len, el, l1, l2⟩, ⟨rt, er, r2⟩, ⟨p, ep, p2⟩⟩ := (h.2.2.2.2.1.1 t ht).1 hlt'
  obtain ⟨d, ed, hd⟩ := h.2.2.2.2.1.2.1
  have hp9 : p < 999 := by
    rw [ep] at hlt; exact (nI_ltI (b := 999) (by omega) (by decide)).1 hlt
  have hne : ¬ nI (p + 1) = 0 := nI_ne0 (by omega) (by omega)
  have hJ : scF D (dT D) + (D 42 t).toInt64 = scF D1 (dT D) := by
    rw [scF_one (D := D) (D1 := D1) (t := t) (x := (D 42 t).toInt64) (fun i hi => by rw [hD 42 (by decide), h44, up1_ne hi]) (by rw [hD 42 (by decide), h44, up1_self, ep, el, ← nI_succ]; exact mul_sec l2 (by omega)) (dT D), if_pos hlt']
  obtain ⟨g1, g2, g3, g4, g5⟩ := h.one (D1 := D1) (S1 := playS D S L t a) ht ha (fun k hk hk2 => hD k (by omega)) (fun i hi => ⟨by rw [hD 43 (by decide)], by rw [h44, up1_ne hi], by rw [h45, up1_ne hi], by rw [hD 46 (by decide)]⟩) rfl rfl (fun _ _ => rfl) rfl rfl
    (fun k b hb => by
      show mI (sI (sI S 19 a (D 44 t + 1)) 20 a (D 40 0)) k b = mI S k b
      rw [mI_sI_ne hb, mI_sI_ne hb])
    (by rw [← hJ]; show up2 S.2.2.2.1 37 (L 0) _ 37 (L 0) = _; exact up2_self) rfl rfl (n18.trans (by rw [hD 43 (by decide)]))
    (by
      rw [h44, up1_self]
      show mI (sI (sI S 19 a (D 44 t + 1)) 20 a (D 40 0)) 19 a = _
      rw [mI_sI_k (by decide), mI_sI])
    (by
      simp only [lastD]
      rw [h44, up1_self, h45, up1_self, ep, ← nI_succ, if_neg hne]
      show mI (sI (sI S 19 a (D 44 t + 1)) 20 a (D 40 0)) 20 a = _
      rw [mI_sI])
    (n21.trans (by rw [hD 46 (by decide)])) ⟨rt, by rw [hD 43 (by decide)]; exact er, r2⟩ ⟨p + 1, by rw [h44, up1_self, ep, ← nI_succ], by omega⟩
    (by rw [h45, up1_self, ed]; intro q; have := nI_pos (n := d) (by omega); rw [q] at this; exact this (by decide))
  refine ⟨g1, g2, g3, g4, ?_, h.2.2.2.2.1.same g5 (by rw [hD 40 (by decide)]; exact ⟨d, ed, hd⟩) (fun k a b c => hD k (by omega))⟩
  exact h.2.2.2.1.same (cU_eq _ L T (hD 41 (by decide)) (hD 47 (by decide)) (hD 48 (by decide)) (hD 67 (by decide)) (hD 69 (by decide)) (hD 70 (by decide))) rfl rfl rfl rfl rfl
