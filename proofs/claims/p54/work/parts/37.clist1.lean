/-! the class: one list's numbers anew -/
theorem cR.ls1 {D D1 : ZD} {J : Nat → Int64} {lk : ZL} {as : Nat → Nat} {S S1 : ZM} {L T : Nat → Nat} (h : cR D J lk as S L T) {i a : Nat} (hi : i < dL D) (ha : tQ S (L 4) i = some a)
    (hD : ∀ k : Nat, k ≠ 59 → k ≠ 60 → D1 k = D k) (hDi : ∀ j : Nat, j ≠ i → D1 59 j = D 59 j ∧ D1 60 j = D 60 j)
    (hk : mK S1 = mK S) (hN : mN S1 = mN S) (hq : mQ S1 = mQ S) (hJ : mJ S1 = mJ S) (htq : tQ S1 = tQ S) (hti : tI S1 = tI S) (hI : ∀ k b : Nat, b ≠ a → mI S1 k b = mI S k b)
    (i1 : mI S1 1 a = D1 59 i) (i2 : mI S1 2 a = D1 60 i) (ho : D1 59 i = 115 ∨ D1 59 i = 114 ∨ D1 59 i = 112 ∨ D1 59 i = 110) :
    cX D1 lk as S1 L ∧ cV D1 S1 L ∧ (∀ j : Nat, j < 8 → tI S1 (L 5) j = D1 61 j) ∧ (∀ j : Nat, j < 8 → dL D1 ≤ j → D1 61 j = 0) ∧ cU D1 S1 L T ∧ wfQ D1 J lk as := by
  obtain ⟨hX, hV, hK, hU, hQ, hF⟩ := h
  obtain ⟨h1, h2, h3, h4, h5', h6, h7, h8, h9, h10⟩ := id hX
  have h8L : dL D ≤ 8 := h6.1.2.2.2.2
  have k2 : mK S a = 2 := by
    obtain ⟨b, r, e, q, -⟩ := h5'.2 i hi
    rw [e] at ha; cases ha; exact q
  have hpr : prD D1 = prD D := prD_eq (hD 41 (by decide) (by decide)) (hD 47 (by decide) (by decide))
  have hdT : dT D1 = dT D := by simp only [dT, hD 41 (by decide) (by decide)]
  have hdL : dL D1 = dL D := by simp only [dL, hD 57 (by decide) (by decide)]
  have nek : ∀ b c : Nat, mK S b = c → c ≠ 2 → b ≠ a := fun b c hb hc q => hc (by rw [← hb, q]; exact k2)
  have n0 : L 0 ≠ a := nek _ _ h1.c (by decide)
  refine ⟨⟨?_, ?_, ?_, ?_, ?_, ?_, ?_, ?_, ?_, ?_⟩, ?_, ?_, ?_, ?_, ?_⟩
  · exact h1.same hk hN (fun k hk => by rw [hq]) htq
  · intro t ht
    rw [hpr, hD 42 (by decide) (by decide), hD 43 (by decide) (by decide), hD 44 (by decide) (by decide), hD 46 (by decide) (by decide), show lastD D1 t = lastD D t from by simp only [lastD, hD 44 (by decide) (by decide), hD 45 (by decide) (by decide)], htq, hk]
    refine ⟨(h2 t ht).1, fun q => ?_⟩
    obtain ⟨b, e, k1, q2, q3, q4, q5, q6, q7⟩ := (h2 t ht).2 q
    have hb := nek b _ k1 (by decide)
    exact ⟨b, e, k1, (hI _ _ hb).trans q2, (hI _ _ hb).trans q3, (hI _ _ hb).trans q4, (hI _ _ hb).trans q5, (hI _ _ hb).trans q6, (hI _ _ hb).trans q7⟩
  · rw [rG_eq lk S1 L (hD 48 (by decide) (by decide)) (hD 49 (by decide) (by decide)) (hD 50 (by decide) (by decide))]
    exact h3.same hk hN (fun k b q => hI k b (nek b _ q (by decide))) (fun k b hk _ => by rw [hq]) htq (fun b _ => by rw [hti])
  · rw [rR_eq as S1 L (hD 52 (by decide) (by decide)) (hD 53 (by decide) (by decide)) (hD 54 (by decide) (by decide)) (hD 55 (by decide) (by decide)) (hD 56 (by decide) (by decide))]
    exact h4.same hk (fun k b q => hI k b (nek b _ q (by decide))) (fun k b hk _ => by rw [hq]) htq
  · refine ⟨by rw [hdL, htq]; exact h5'.1, fun j hj => ?_⟩
    rw [hdL] at hj
    obtain ⟨b, r, e, q1, q2, q3, q4, q5⟩ := h5'.2 j hj
    refine ⟨b, r, by rw [htq]; exact e, by rw [hk]; exact q1, by rw [hq]; exact q2, by rw [htq, hD 58 (by decide) (by decide)]; exact q3, ?_⟩
    by_cases ej : j = i
    · subst ej
      have : b = a := by rw [e] at ha; exact Option.some.inj ha
      subst this
      exact ⟨i1, i2⟩
    · have hb : b ≠ a := by
        rintro rfl
        exact ej (hU.2.2.1.2.1 j i b (by omega) (by omega) e ha)
      rw [hI _ _ hb, hI _ _ hb, (hDi j ej).1, (hDi j ej).2]; exact ⟨q4, q5⟩
  · rw [wfA_eq lk as (hD 41 (by decide) (by decide)) (hD 48 (by decide) (by decide)) (hD 52 (by decide) (by decide)) (hD 53 (by decide) (by decide)) (hD 54 (by decide) (by decide)) (hD 55 (by decide) (by decide)) (hD 57 (by decide) (by decide))]; exact h6
  · rw [hI _ _ n0, hD 40 (by decide) (by decide)]; exact h7
  · rw [hD 44 (by decide) (by decide), hD 45 (by decide) (by decide)]; exact h8
  · rw [wfO_eq (hD 52 (by decide) (by decide)) (hD 57 (by decide) (by decide)) (hD 58 (by decide) (by decide))]; exact h9
  · rw [acD_eq (hD 53 (by decide) (by decide)) (hD 54 (by decide) (by decide)) (hD 55 (by decide) (by decide)) (hD 57 (by decide) (by decide)) (hD 58 (by decide) (by decide))]; exact h10
  · obtain ⟨v1, v2, v3, v4, v5, v6⟩ := hV
    refine ⟨?_, ?_, ?_, ?_, ?_, ?_⟩
    · rw [hI _ _ n0, hD 41 (by decide) (by decide)]; exact v1
    · rw [hI _ _ n0, hpr]; exact v2
    · rw [hI _ _ n0, hD 48 (by decide) (by decide)]; exact v3
    · rw [hI _ _ n0, hD 52 (by decide) (by decide)]; exact v4
    · rw [hI _ _ n0, hD 57 (by decide) (by decide)]; exact v5
    · rw [hJ, hdT, scF_eq (hD 42 (by decide) (by decide)) (hD 44 (by decide) (by decide))]; exact v6
  · rw [hti, hD 61 (by decide) (by decide)]; exact hK.1
  · rw [hdL, hD 61 (by decide) (by decide)]; exact hF.2
  · exact hU.same (cU_eq _ L T (hD 41 (by decide) (by decide)) (hD 47 (by decide) (by decide)) (hD 48 (by decide) (by decide)) (hD 67 (by decide) (by decide)) (hD 69 (by decide) (by decide)) (hD 70 (by decide) (by decide))) hk hN hq htq hti
  · have q := hQ
    simp only [wfQ, dT, dG, dR, dU, dL] at q ⊢
    rw [hD 40 (by decide) (by decide), hD 41 (by decide) (by decide), hD 42 (by decide) (by decide), hD 43 (by decide) (by decide), hD 44 (by decide) (by decide), hD 46 (by decide) (by decide), hD 47 (by decide) (by decide), hD 48 (by decide) (by decide), hD 49 (by decide) (by decide), hD 50 (by decide) (by decide), hD 51 (by decide) (by decide), hD 52 (by decide) (by decide), hD 53 (by decide) (by decide), hD 56 (by decide) (by decide), hD 57 (by decide) (by decide), hD 67 (by decide) (by decide), hD 68 (by decide) (by decide), hD 69 (by decide) (by decide)]
    refine ⟨q.1, q.2.1, q.2.2.1, q.2.2.2.1, q.2.2.2.2.1, ⟨q.2.2.2.2.2.1.1, q.2.2.2.2.2.1.2.1, fun j hj => ?_⟩, q.2.2.2.2.2.2⟩
    by_cases ej : j = i
    · subst ej; exact ho
    · rw [(hDi j ej).1]; exact q.2.2.2.2.2.1.2.2 j hj
/-- the state behind an order, a limit anew -/
def opOrd (D : ZD) (i : Nat) (o : Int32) : ZD := dS D 59 (up1 (D 59) i o)
def opLim (D : ZD) (i : Nat) (y : Int32) : ZD := dS D 60 (up1 (D 60) i y)
theorem cR.ord {D : ZD} {J : Nat → Int64} {lk : ZL} {as : Nat → Nat} {S : ZM} {L T : Nat → Nat} (h : cR D J lk as S L T) {i a : Nat} (hi : i < dL D) (ha : tQ S (L 4) i = some a) (e2 : mI S 2 a = D 60 i) {o : Int32} (ho : o = 115 ∨ o = 114 ∨ o = 112 ∨ o = 110) :
    cX (opOrd D i o) lk as (sI S 1 a o) L ∧ cV (opOrd D i o) (sI S 1 a o) L ∧ (∀ j : Nat, j < 8 → tI (sI S 1 a o) (L 5) j = (opOrd D i o) 61 j) ∧ (∀ j : Nat, j < 8 → dL (opOrd D i o) ≤ j → (opOrd D i o) 61 j = 0) ∧ cU (opOrd D i o) (sI S 1 a o) L T ∧ wfQ (opOrd D i o) J lk as := by
  have e59 : opOrd D i o 59 i = o := (congrFun dS_self i).trans up1_self
  refine h.ls1 hi ha (fun k h1 _ => dS_ne h1) (fun j hj => ⟨(congrFun dS_self j).trans (up1_ne hj), congrFun (dS_ne (by decide)) j⟩) rfl rfl rfl rfl rfl rfl (fun k b hb => mI_sI_ne hb) ?_ ?_ (by rw [e59]; exact ho)
  · rw [e59]; exact mI_sI _ _ _ _
  · exact (mI_sI_k (by decide)).trans (e2.trans (congrFun (dS_ne (by decide)) i).symm)
theorem cR.lim {D : ZD} {J : Nat → Int64} {lk : ZL} {as : Nat → Nat} {S : ZM} {L T : Nat → Nat} (h : cR D J lk as S L T) {i a : Nat} (hi : i < dL D) (ha : tQ S (L 4) i = some a) (e1 : mI S 1 a = D 59 i) (y : Int32) :
    cX (opLim D i y) lk as (sI S 2 a y) L ∧ cV (opLim D i y) (sI S 2 a y) L ∧ (∀ j : Nat, j < 8 → tI (sI S 2 a y) (L 5) j = (opLim D i y) 61 j) ∧ (∀ j : Nat, j < 8 → dL (opLim D i y) ≤ j → (opLim D i y) 61 j = 0) ∧ cU (opLim D i y) (sI S 2 a y) L T ∧ wfQ (opLim D i y) J lk as := by
  have e60 : opLim D i y 60 i = y := (congrFun dS_self i).trans up1_self
  have e59 : opLim D i y 59 = D 59 := dS_ne (by decide)
  refine h.ls1 hi ha (fun k _ h2 => dS_ne h2) (fun j hj => ⟨congrFun e59 j, (congrFun dS_self j).trans (up1_ne hj)⟩) rfl rfl rfl rfl rfl rfl (fun k b hb => mI_sI_ne hb) ?_ ?_ (by rw [e59]; exact h.2.2.2.2.1.2.2.2.2.2.1.2.2 i hi)
  · rw [e59]; exact (mI_sI_k (by decide)).trans e1
  · rw [e60]; exact mI_sI _ _ _ _
