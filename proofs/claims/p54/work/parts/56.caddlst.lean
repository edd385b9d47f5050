/-! the class: a list more, the relation -/
theorem cR.addLst {D : ZD} {J : Nat → Int64} {lk : ZL} {as : Nat → Nat} {S : ZM} {L T : Nat → Nat} (h : cR D J lk as S L T) {a r r9 : Nat} {x o y : Int32} (hlt : dL D < 8) (ka : mK S a = 2) (hr : r < dR D) (ex : x = nI r) (er : tQ S (L 3) r = some r9) (q0 : mQ S 0 a = some r9) (n1 : mI S 1 a = o) (n2 : mI S 2 a = y) (ho : o = 115 ∨ o = 114 ∨ o = 112 ∨ o = 110) (hf : ∀ i : Nat, i < 8 → tQ S (L 4) i ≠ some a) :
    cR (fllD (opLst D x o y)) J lk as (eR (sI (eQ S (L 4) (dL D) (some a)) 30 (L 0) (D 57 0 + 1)) (L 5) (fKd (opLst D x o y) (tI (sI (eQ S (L 4) (dL D) (some a)) 30 (L 0) (D 57 0 + 1)) (L 5)))) L T ∧ cX (opLst D x o y) lk as (sI (eQ S (L 4) (dL D) (some a)) 30 (L 0) (D 57 0 + 1)) L := by
  obtain ⟨D1, hD1⟩ : ∃ z : ZD, z = opLst D x o y := ⟨_, rfl⟩
  obtain ⟨S1, hS1⟩ : ∃ z : ZM, z = sI (eQ S (L 4) (dL D) (some a)) 30 (L 0) (D 57 0 + 1) := ⟨_, rfl⟩
  have hD : ∀ k : Nat, k < 57 ∨ 60 < k → D1 k = D k := fun k hk => by
    rw [hD1]; unfold opLst
    rw [dS_ne (by omega), dS_ne (by omega), dS_ne (by omega), dS_ne (by omega)]
  have d57 : D1 57 0 = D 57 0 + 1 := by rw [hD1]; exact (congrFun dS_self 0).trans up1_self
  have d58 : D1 58 = up1 (D 58) (dL D) x := by rw [hD1]; unfold opLst; rw [dS_ne (by decide), dS_ne (by decide), dS_ne (by decide), dS_self]
  have d59 : D1 59 = up1 (D 59) (dL D) o := by rw [hD1]; unfold opLst; rw [dS_ne (by decide), dS_ne (by decide), dS_self]
  have d60 : D1 60 = up1 (D 60) (dL D) y := by rw [hD1]; unfold opLst; rw [dS_ne (by decide), dS_self]
  obtain ⟨hX, hV, hK, hU, hQ, hF⟩ := h
  obtain ⟨h1, h2, h3, h4, h5, h6, h7, h8, h9, h10⟩ := id hX
  obtain ⟨⟨c1, c2⟩, ⟨c3, c4⟩, ⟨c5, c6⟩, c7, c8⟩ := h6.1
  have eK : mK S1 = mK S := by rw [hS1]
  have eN : mN S1 = mN S := by rw [hS1]
  have eQQ : mQ S1 = mQ S := by rw [hS1]
  have eJ : mJ S1 = mJ S := by rw [hS1]
  have eT : tI S1 = tI S := by rw [hS1]
  have eI : ∀ k b : Nat, k ≠ 30 → mI S1 k b = mI S k b := fun k b hk => by rw [hS1]; exact mI_sI_k hk
  have e30 : mI S1 30 (L 0) = D 57 0 + 1 := by rw [hS1]; exact mI_sI _ _ _ _
  have tq : ∀ b : Nat, b ≠ L 4 → tQ S1 b = tQ S b := fun b hb => by rw [hS1]; exact up2f hb
  have tn : tQ S1 (L 4) (dL D) = some a := by rw [hS1]; exact up2_self
  have to : ∀ r : Nat, r ≠ dL D → tQ S1 (L 4) r = tQ S (L 4) r := fun r hr => by rw [hS1]; exact up2_a hr
  rw [← hD1, ← hS1]
  have ne : ∀ j : Nat, j < 16 → j ≠ 4 → L j ≠ L 4 := fun j hj h3 q => h3 (h1.ap j 4 hj (by omega) q)
  have hpr : prD D1 = prD D := prD_eq (hD 41 (by decide)) (hD 47 (by decide))
  have hdT : dT D1 = dT D := by unfold dT; rw [hD 41 (by decide)]
  have hdG : dG D1 = dG D := by unfold dG; rw [hD 48 (by decide)]
  have hdL : dL D1 = dL D + 1 := by
    show ix (D1 57 0) = dL D + 1
    rw [d57, c7, nI_1]; exact nI_clamp (by omega)
  have hdR : dR D1 = dR D := by unfold dR; rw [hD 52 (by decide)]
  have hdU : dU D1 = dU D := by unfold dU; rw [hD 67 (by decide)]
  have n58 : D1 58 (dL D) = nI r := by rw [d58, up1_self, ex]
  have o58 : ∀ i : Nat, i < dL D → D1 58 i = D 58 i := fun i hi => by rw [d58, up1_ne (by omega)]
  have cx : cX D1 lk as S1 L := by
    refine ⟨?_, ?_, ?_, ?_, ?_, ?_, ?_, ?_, ?_, ?_⟩
    · unfold cS at h1 ⊢
      rw [eK, eN, eQQ, tq (L 8) (ne 8 (by decide) (by decide))]; exact h1
    · intro i hi
      rw [hpr, hD 42 (by decide), hD 43 (by decide), hD 44 (by decide), hD 46 (by decide), show lastD D1 i = lastD D i from by simp only [lastD, hD 44 (by decide), hD 45 (by decide)], tq (L 1) (ne 1 (by decide) (by decide)), eK]
      refine ⟨(h2 i hi).1, fun q => ?_⟩
      obtain ⟨b, e, k1, k2, k3, k4, k5, k6, k7⟩ := (h2 i hi).2 q
      exact ⟨b, e, k1, (eI _ _ (by decide)).trans k2, (eI _ _ (by decide)).trans k3, (eI _ _ (by decide)).trans k4, (eI _ _ (by decide)).trans k5, (eI _ _ (by decide)).trans k6, (eI _ _ (by decide)).trans k7⟩
    · rw [rG_eq lk S1 L (hD 48 (by decide)) (hD 49 (by decide)) (hD 50 (by decide))]
      refine ⟨by rw [tq (L 2) (ne 2 (by decide) (by decide))]; exact h3.1, fun i hi => ?_⟩
      obtain ⟨b, nm, e, k1, k2, k3, k4, k5, k6, k7, k8⟩ := h3.2 i hi
      exact ⟨b, nm, by rw [tq (L 2) (ne 2 (by decide) (by decide))]; exact e, by rw [eK]; exact k1, (eI _ _ (by decide)).trans k2, by rw [eQQ]; exact k3, by rw [eK]; exact k4, by rw [eN]; exact k5, (eI _ _ (by decide)).trans k6, fun j hj hl => by rw [eT]; exact k7 j hj hl, by rw [eQQ, tq (L 2) (ne 2 (by decide) (by decide))]; exact k8⟩
    · rw [rR_eq as S1 L (hD 52 (by decide)) (hD 53 (by decide)) (hD 54 (by decide)) (hD 55 (by decide)) (hD 56 (by decide))]
      have e3 := tq (L 3) (ne 3 (by decide) (by decide))
      refine ⟨by rw [e3]; exact h4.1, fun r hr => ?_⟩
      obtain ⟨b, eb, k1, k2, k3, k4, k5, k6, k7, k8⟩ := h4.2 r hr
      exact ⟨b, by rw [e3]; exact eb, by rw [eK]; exact k1, (eI _ _ (by decide)).trans k2, (eI _ _ (by decide)).trans k3, (eI _ _ (by decide)).trans k4, by rw [eQQ, e3]; exact k5, by rw [eQQ, e3]; exact k6, (eI _ _ (by decide)).trans k7, (eI _ _ (by decide)).trans k8⟩
    · have e3 := tq (L 3) (ne 3 (by decide) (by decide))
      refine ⟨fun i hi hd => ?_, fun i hi => ?_⟩
      · rw [hdL] at hd; rw [to i (by omega)]; exact h5.1 i hi (by omega)
      · rw [hdL] at hi
        by_cases e : i = dL D
        · subst e
          refine ⟨a, r9, tn, by rw [eK]; exact ka, by rw [eQQ]; exact q0, by rw [e3, n58, ix, nI_clamp (by omega)]; exact er, ?_, ?_⟩
          · rw [d59, up1_self]; exact (eI _ _ (by decide)).trans n1
          · rw [d60, up1_self]; exact (eI _ _ (by decide)).trans n2
        · obtain ⟨b, r, eb, k1, k2, k3, k4, k5⟩ := h5.2 i (by omega)
          refine ⟨b, r, by rw [to i e]; exact eb, by rw [eK]; exact k1, by rw [eQQ]; exact k2, by rw [e3, o58 i (by omega)]; exact k3, ?_, ?_⟩
          · rw [d59, up1_ne e]; exact (eI _ _ (by decide)).trans k4
          · rw [d60, up1_ne e]; exact (eI _ _ (by decide)).trans k5
    · refine ⟨⟨by rw [hdT, hD 41 (by decide)]; exact ⟨c1, c2⟩, by rw [hdG, hD 48 (by decide)]; exact ⟨c3, c4⟩, by rw [hdR, hD 52 (by decide)]; exact ⟨c5, c6⟩, ⟨by rw [d57, hdL, c7, nI_1], by omega⟩⟩, fun r hr => ?_, by rw [hdG]; exact h6.2.2.1, h6.2.2.2.1, by rw [hdR, hdG, hD 53 (by decide), hD 54 (by decide)]; exact h6.2.2.2.2⟩
      rw [hdR] at hr
      rw [hdG, hdL, hD 53 (by decide), hD 54 (by decide), hD 55 (by decide)]
      obtain ⟨w1, w2, w3, w4⟩ := h6.2.1 r hr
      exact ⟨w1, w2, fun q => by obtain ⟨i, hi, ei⟩ := w3 q; exact ⟨i, by omega, ei⟩, w4⟩
    · rw [eI _ _ (by decide), hD 40 (by decide)]; exact h7
    · rw [hD 44 (by decide), hD 45 (by decide)]; exact h8
    · intro i hi
      rw [hdL] at hi
      rw [hdR]
      by_cases e : i = dL D
      · subst e; exact ⟨r, hr, n58⟩
      · rw [o58 i (by omega)]; exact h9 i (by omega)
    · exact acD_lst h10 h6.2.1 hlt c6 (hD 53 (by decide)) (hD 54 (by decide)) (hD 55 (by decide)) hdL hr n58 o58
  refine ⟨cR.fll cx ?_ ?_ ?_ ?_ ?_ ?_, cx⟩
  · obtain ⟨v1, v2, v3, v4, v5, v6⟩ := hV
    refine ⟨?_, ?_, ?_, ?_, ?_, ?_⟩
    · rw [eI _ _ (by decide), hD 41 (by decide)]; exact v1
    · rw [eI _ _ (by decide), hpr]; exact v2
    · rw [eI _ _ (by decide), hD 48 (by decide)]; exact v3
    · rw [eI _ _ (by decide), hD 52 (by decide)]; exact v4
    · rw [e30, d57]
    · rw [eJ, hdT, scF_eq (hD 42 (by decide)) (hD 44 (by decide))]; exact v6
  · rw [eT, hD 61 (by decide)]; exact hK.1
  · rw [eI _ _ (by decide), hD 66 (by decide)]; exact hK.2
  · intro i hi hd
    rw [hdL] at hd
    rw [hD 61 (by decide)]; exact hF.2 i hi (by omega)
  · rw [cU_eq _ L T (hD 41 (by decide)) (hD 47 (by decide)) (hD 48 (by decide)) (hD 67 (by decide)) (hD 69 (by decide)) (hD 70 (by decide))]
    obtain ⟨u1, u2, u3, u4, u5⟩ := hU
    have et := tq (L 2) (ne 2 (by decide) (by decide))
    have eg : ∀ k : Nat, glS D S1 L k = glS D S L k := fun k => by unfold glS; rw [et]
    refine ⟨by rw [et, eQQ, eK, eN]; exact u1, u2, ⟨u3.1, ?_, by rw [et, eQQ]; exact u3.2.2⟩, by rw [eQQ, eg]; exact u4, fun k hk => ?_⟩
    · intro i j b hi hj hb hc
      by_cases e : i = dL D
      · by_cases e2 : j = dL D
        · omega
        · rw [to j e2] at hc
          subst e
          rw [tn] at hb; cases hb
          exact absurd hc (hf j hj)
      · rw [to i e] at hb
        by_cases e2 : j = dL D
        · subst e2
          rw [tn] at hc; cases hc
          exact absurd hb (hf i hi)
        · rw [to j e2] at hc
          exact u3.2.1 i j b hi hj hb hc
    · rw [et, eQQ, eg, eT]; exact u5 k hk
  · obtain ⟨p1, p2, p3, p4, p5, p6, p7⟩ := hQ
    refine ⟨by rw [hdT, hD 42 (by decide), hD 43 (by decide), hD 44 (by decide), hD 46 (by decide), hD 47 (by decide)]; exact p1, by rw [hD 40 (by decide)]; exact p2, by rw [hdG, hD 49 (by decide), hD 50 (by decide)]; exact p3, by rw [hD 51 (by decide)]; exact p4, by rw [hdR, hD 56 (by decide)]; exact p5, ⟨by rw [hdU, hD 67 (by decide)]; exact p6.1, by rw [hdU]; exact p6.2.1, fun i hi => ?_⟩, by rw [hdU, hdR, hD 69 (by decide), hD 68 (by decide), hD 53 (by decide)]; exact p7⟩
    rw [hdL] at hi
    rw [d59]
    by_cases e : i = dL D
    · subst e; rw [up1_self]; exact ho
    · rw [up1_ne e]; exact p6.2.2 i (by omega)
