/-! the class: a tag more -/
/-- the state behind a tag more -/
def opTag (D : ZD) : ZD := dS D 48 (up1 (D 48) 0 (D 48 0 + 1))
theorem wfL_mono {G G1 : Nat} (hG : G ≤ G1) : ∀ {lk : ZL}, wfL G lk → wfL G1 lk
  | [], _ => trivial
  | (o, t) :: r, h => ⟨wfL_mono hG h.1, h.2.1, h.2.2.1, h.2.2.2.1, Nat.lt_of_lt_of_le h.2.2.2.2.1 hG, Nat.lt_of_lt_of_le h.2.2.2.2.2 hG⟩
theorem cR.addTag {D : ZD} {J : Nat → Int64} {lk : ZL} {as : Nat → Nat} {S : ZM} {L T : Nat → Nat} (h : cR D J lk as S L T) {a nm ah : Nat} (hlt : dG D < 16) (ka : mK S a = 4) (n10 : mI S 10 a = nI (dG D)) (q11 : mQ S 11 a = some nm) (kn : mK S nm = 11) (ln : mN S nm = 6) (n12 : mI S 12 a = 0) (q13 : mQ S 13 a = none) (q14 : mQ S 14 a = some ah) (kh : mK S ah = 10) (lh : mN S ah = 24)
    (f1 : ∀ j : Nat, j < 16 → ah ≠ L j) (f2 : ∀ i : Nat, i < dG D → ah ≠ T i) (f3 : ∀ i b : Nat, i < 16 → tQ S (L 2) i = some b → mQ S 11 b ≠ some nm) :
    cR (opTag D) J lk as (sI (eQ S (L 2) (dG D) (some a)) 28 (L 0) (D 48 0 + 1)) L (fun i => if i = dG D then ah else T i) := by
  obtain ⟨D1, hD1⟩ : ∃ z : ZD, z = opTag D := ⟨_, rfl⟩
  obtain ⟨S1, hS1⟩ : ∃ z : ZM, z = sI (eQ S (L 2) (dG D) (some a)) 28 (L 0) (D 48 0 + 1) := ⟨_, rfl⟩
  have hD : ∀ k : Nat, k ≠ 48 → D1 k = D k := fun k hk => by rw [hD1]; exact dS_ne hk
  have d48 : D1 48 0 = D 48 0 + 1 := by rw [hD1]; exact (congrFun dS_self 0).trans up1_self
  obtain ⟨hX, hV, hK, hU, hQ, hF⟩ := h
  obtain ⟨h1, h2, h3, h4, h5, h6, h7, h8, h9, h10⟩ := id hX
  obtain ⟨⟨c1, c2⟩, ⟨c3, c4⟩, ⟨c5, c6⟩, c7, c8⟩ := h6.1
  have eK : mK S1 = mK S := by rw [hS1]
  have eN : mN S1 = mN S := by rw [hS1]
  have eQQ : mQ S1 = mQ S := by rw [hS1]
  have eJ : mJ S1 = mJ S := by rw [hS1]
  have eT : tI S1 = tI S := by rw [hS1]
  have eI : ∀ k b : Nat, k ≠ 28 → mI S1 k b = mI S k b := fun k b hk => by rw [hS1]; exact mI_sI_k hk
  have e28 : mI S1 28 (L 0) = D 48 0 + 1 := by rw [hS1]; exact mI_sI _ _ _ _
  have tq : ∀ b : Nat, b ≠ L 2 → tQ S1 b = tQ S b := fun b hb => by rw [hS1]; exact up2f hb
  have tn : tQ S1 (L 2) (dG D) = some a := by rw [hS1]; exact up2_self
  have to : ∀ r : Nat, r ≠ dG D → tQ S1 (L 2) r = tQ S (L 2) r := fun r hr => by rw [hS1]; exact up2_a hr
  rw [← hD1, ← hS1]
  have ne : ∀ j : Nat, j < 16 → j ≠ 2 → L j ≠ L 2 := fun j hj h3 q => h3 (h1.ap j 2 hj (by omega) q)
  have hpr : prD D1 = prD D := prD_eq (hD 41 (by decide)) (hD 47 (by decide))
  have hdT : dT D1 = dT D := by unfold dT; rw [hD 41 (by decide)]
  have hdG : dG D1 = dG D + 1 := by
    show ix (D1 48 0) = dG D + 1
    rw [d48, c3, nI_1]; exact nI_clamp (by omega)
  have hdL : dL D1 = dL D := by unfold dL; rw [hD 57 (by decide)]
  have hdR : dR D1 = dR D := by unfold dR; rw [hD 52 (by decide)]
  have hdU : dU D1 = dU D := by unfold dU; rw [hD 67 (by decide)]
  have hal : alk D D1 := ⟨fun k _ hk => hD k (by omega), by rw [hD 57 (by decide)], fun r _ => by rw [hD 53 (by decide), hD 54 (by decide), hD 55 (by decide)]; exact ⟨rfl, rfl, rfl⟩, fun i _ => by rw [hD 58 (by decide), hD 59 (by decide), hD 60 (by decide)]; exact ⟨rfl, rfl, rfl⟩⟩
  have hln : look lk (dG D) = none := by
    cases q : look lk (dG D) with
    | none => rfl
    | some j => exact absurd (look_lt h6.2.2.1 _ _ q).1 (Nat.lt_irrefl _)
  obtain ⟨z, ez, -, hz0, -⟩ := hQ.2.2.1 (dG D) hlt
  have z49 : D 49 (dG D) = 0 := by rw [ez, hz0 (Nat.le_refl _)]; rfl
  have sub1 : ∀ i : Nat, i < dG D + 1 → i ≠ dG D → i < dG D := fun i h1 h2 => by omega
  refine ⟨⟨?_, ?_, ?_, ?_, ?_, ?_, ?_, ?_, ?_, ?_⟩, ?_, ?_, ?_, ?_, ?_⟩
  · unfold cS at h1 ⊢
    rw [eK, eN, eQQ, tq (L 8) (ne 8 (by decide) (by decide))]; exact h1
  · intro i hi
    rw [hpr, hD 42 (by decide), hD 43 (by decide), hD 44 (by decide), hD 46 (by decide), show lastD D1 i = lastD D i from by simp only [lastD, hD 44 (by decide), hD 45 (by decide)], tq (L 1) (ne 1 (by decide) (by decide)), eK]
    refine ⟨(h2 i hi).1, fun q => ?_⟩
    obtain ⟨b, e, k1, k2, k3, k4, k5, k6, k7⟩ := (h2 i hi).2 q
    exact ⟨b, e, k1, (eI _ _ (by decide)).trans k2, (eI _ _ (by decide)).trans k3, (eI _ _ (by decide)).trans k4, (eI _ _ (by decide)).trans k5, (eI _ _ (by decide)).trans k6, (eI _ _ (by decide)).trans k7⟩
  · refine ⟨fun i hi hd => ?_, fun i hi => ?_⟩
    · rw [hdG] at hd; rw [to i (by omega)]; exact h3.1 i hi (by omega)
    · rw [hdG] at hi
      rw [eK, eN, eQQ, eT, hD 49 (by decide), hD 50 (by decide)]
      by_cases e : i = dG D
      · subst e
        refine ⟨a, nm, tn, ka, (eI _ _ (by decide)).trans n10, q11, kn, ln, by rw [z49]; exact (eI _ _ (by decide)).trans n12, fun j hj hl => ?_, by rw [hln]; exact q13⟩
        rw [z49] at hl; exact absurd hl (nI_pos (by omega))
      · obtain ⟨b, nb, eb, k1, k2, k3, k4, k5, k6, k7, k8⟩ := h3.2 i (sub1 i hi e)
        refine ⟨b, nb, by rw [to i e]; exact eb, k1, (eI _ _ (by decide)).trans k2, k3, k4, k5, (eI _ _ (by decide)).trans k6, k7, ?_⟩
        rw [k8]
        cases q : look lk i with
        | none => rfl
        | some j =>
          have := (look_lt h6.2.2.1 _ _ q).2
          exact (to j (by omega)).symm
  · rw [rR_eq as S1 L (hD 52 (by decide)) (hD 53 (by decide)) (hD 54 (by decide)) (hD 55 (by decide)) (hD 56 (by decide))]
    have e3 := tq (L 3) (ne 3 (by decide) (by decide))
    refine ⟨by rw [e3]; exact h4.1, fun r hr => ?_⟩
    obtain ⟨b, eb, k1, k2, k3, k4, k5, k6, k7, k8⟩ := h4.2 r hr
    exact ⟨b, by rw [e3]; exact eb, by rw [eK]; exact k1, (eI _ _ (by decide)).trans k2, (eI _ _ (by decide)).trans k3, (eI _ _ (by decide)).trans k4, by rw [eQQ, e3]; exact k5, by rw [eQQ, e3]; exact k6, (eI _ _ (by decide)).trans k7, (eI _ _ (by decide)).trans k8⟩
  · rw [rL_eq S1 L (hD 57 (by decide)) (hD 58 (by decide)) (hD 59 (by decide)) (hD 60 (by decide))]
    refine ⟨by rw [tq (L 4) (ne 4 (by decide) (by decide))]; exact h5.1, fun i hi => ?_⟩
    obtain ⟨b, r, e, k1, k2, k3, k4, k5⟩ := h5.2 i hi
    exact ⟨b, r, by rw [tq (L 4) (ne 4 (by decide) (by decide))]; exact e, by rw [eK]; exact k1, by rw [eQQ]; exact k2, by rw [tq (L 3) (ne 3 (by decide) (by decide))]; exact k3, (eI _ _ (by decide)).trans k4, (eI _ _ (by decide)).trans k5⟩
  · refine ⟨⟨by rw [hdT, hD 41 (by decide)]; exact ⟨c1, c2⟩, ⟨by rw [d48, hdG, c3, nI_1], by omega⟩, by rw [hdR, hD 52 (by decide)]; exact ⟨c5, c6⟩, by rw [hdL, hD 57 (by decide)]; exact ⟨c7, c8⟩⟩, fun r hr => ?_, wfL_mono (by omega) h6.2.2.1, h6.2.2.2.1, fun r hr hk => ?_⟩
    · rw [hdR] at hr
      rw [hdG, hdL, hD 53 (by decide), hD 54 (by decide), hD 55 (by decide)]
      obtain ⟨w1, w2, w3, w4⟩ := h6.2.1 r hr
      exact ⟨w1, fun q => by obtain ⟨g, hg, eg⟩ := w2 q; exact ⟨g, by omega, eg⟩, w3, w4⟩
    · rw [hdR] at hr
      rw [hD 53 (by decide)] at hk
      rw [hdG, hD 54 (by decide)]
      obtain ⟨w1, w2⟩ := h6.2.2.2.2 r hr hk
      exact ⟨by omega, w2⟩
  · rw [eI _ _ (by decide), hD 40 (by decide)]; exact h7
  · rw [hD 44 (by decide), hD 45 (by decide)]; exact h8
  · rw [wfO_eq (hD 52 (by decide)) (hD 57 (by decide)) (hD 58 (by decide))]; exact h9
  · rw [acD_eq (hD 53 (by decide)) (hD 54 (by decide)) (hD 55 (by decide)) (hD 57 (by decide)) (hD 58 (by decide))]; exact h10
  · obtain ⟨v1, v2, v3, v4, v5, v6⟩ := hV
    refine ⟨?_, ?_, ?_, ?_, ?_, ?_⟩
    · rw [eI _ _ (by decide), hD 41 (by decide)]; exact v1
    · rw [eI _ _ (by decide), hpr]; exact v2
    · rw [e28, d48]
    · rw [eI _ _ (by decide), hD 52 (by decide)]; exact v4
    · rw [eI _ _ (by decide), hD 57 (by decide)]; exact v5
    · rw [eJ, hdT, scF_eq (hD 42 (by decide)) (hD 44 (by decide))]; exact v6
  · exact ⟨by rw [eT, hD 61 (by decide)]; exact hK.1, by rw [eI _ _ (by decide), hD 66 (by decide)]; exact hK.2⟩
  · obtain ⟨u1, u2, u3, u4, u5⟩ := hU
    have eg : ∀ k : Nat, k ≤ dU D → glS D1 S1 L k = glS D S L k := fun k hk => by
      unfold glS
      rw [hD 69 (by decide)]
      by_cases e : k = 0
      · rw [if_pos e, if_pos e]
      · rw [if_neg e, if_neg e]
        have := (u5 (k - 1) (by omega)).1
        exact to _ (by omega)
    have To : ∀ i : Nat, i ≠ dG D → (if i = dG D then ah else T i) = T i := fun i hi => if_neg hi
    have Tn : (if dG D = dG D then ah else T (dG D)) = ah := if_pos rfl
    refine ⟨fun i b hi hb => ?_, fun i j hi hj => ?_, ⟨fun i j hi hj hij => ?_, ?_⟩, by rw [eQQ, hdU, eg _ (Nat.le_refl _)]; exact u4, fun k hk => ?_⟩
    · rw [hdG] at hi
      rw [eQQ, eK, eN]
      by_cases e : i = dG D
      · subst e
        rw [tn] at hb; cases hb
        simp only [if_true]; exact ⟨q14, kh, lh⟩
      · rw [to i e] at hb
        simp only [if_neg e]; exact u1 i b (sub1 i hi e) hb
    · rw [hdG] at hi
      by_cases e : i = dG D
      · simp only [if_pos e]; exact f1 j hj
      · simp only [if_neg e]; exact u2 i j (sub1 i hi e) hj
    · rw [hdG] at hi hj
      by_cases e : i = dG D
      · by_cases e2 : j = dG D
        · omega
        · simp only [if_pos e, if_neg e2] at hij
          exact absurd hij (f2 j (sub1 j hj e2))
      · by_cases e2 : j = dG D
        · simp only [if_neg e, if_pos e2] at hij
          exact absurd hij.symm (f2 i (sub1 i hi e))
        · simp only [if_neg e, if_neg e2] at hij
          exact u3.1 i j (sub1 i hi e) (sub1 j hj e2) hij
    · refine ⟨by rw [tq (L 4) (ne 4 (by decide) (by decide))]; exact u3.2.1, fun g k x y hg hk hx hy hxy => ?_⟩
      rw [eQQ] at hxy
      by_cases e : g = dG D
      · by_cases e2 : k = dG D
        · omega
        · rw [to k e2] at hy
          subst e
          rw [tn] at hx; cases hx
          rw [q11] at hxy
          exact absurd hxy.symm (f3 k y hk hy)
      · rw [to g e] at hx
        by_cases e2 : k = dG D
        · subst e2
          rw [tn] at hy; cases hy
          rw [q11] at hxy
          exact absurd hxy (f3 g x hg hx)
        · rw [to k e2] at hy
          exact u3.2.2 g k x y hg hk hx hy hxy
    · rw [hdU] at hk
      obtain ⟨w1, w2, w3⟩ := u5 k hk
      have e : ix (D 69 k) ≠ dG D := by omega
      rw [hD 69 (by decide), hdG, to _ e, eQQ, eg k (by omega), hpr, hdT, eT, hD 70 (by decide)]
      simp only [if_neg e]
      exact ⟨by omega, w2, w3⟩
  · obtain ⟨p1, p2, p3, p4, p5, p6, p7⟩ := hQ
    refine ⟨by rw [hdT, hD 42 (by decide), hD 43 (by decide), hD 44 (by decide), hD 46 (by decide), hD 47 (by decide)]; exact p1, by rw [hD 40 (by decide)]; exact p2, fun i hi => ?_, by rw [hD 51 (by decide)]; exact p4, by rw [hdR, hD 56 (by decide)]; exact p5, by rw [hdU, hdL, hD 67 (by decide), hD 59 (by decide)]; exact p6, by rw [hdU, hdR, hD 69 (by decide), hD 68 (by decide), hD 53 (by decide)]; exact p7⟩
    rw [hD 49 (by decide), hD 50 (by decide), hdG]
    obtain ⟨m, em, hm, hm0, hmc⟩ := p3 i hi
    exact ⟨m, em, hm, fun q => hm0 (by omega), hmc⟩
  · refine ⟨fun i hi => ?_, by rw [hdL, hD 61 (by decide)]; exact hF.2⟩
    rw [hdL] at hi
    rw [hD 61 (by decide), hal.fix h6.2.1 c6 h9]; exact hF.1 i hi
