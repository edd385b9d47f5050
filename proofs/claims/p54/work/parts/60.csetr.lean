/-! the class: a list's rule anew -/
def opSet (D : ZD) (i : Nat) (x : Int32) : ZD := dS D 58 (up1 (D 58) i x)
theorem cR.setR {D : ZD} {J : Nat → Int64} {lk : ZL} {as : Nat → Nat} {S : ZM} {L T : Nat → Nat} (h : cR D J lk as S L T) {i a r r9 : Nat} {x : Int32} (hi : i < dL D) (ha : tQ S (L 4) i = some a) (hr : r < dR D) (ex : x = nI r) (er : tQ S (L 3) r = some r9) (hB : hasB (wlO (lsO D) 8 (lsD D r)) (nI i) = false) :
    cX (opSet D i x) lk as (sQ S 0 a (some r9)) L ∧ cV (opSet D i x) (sQ S 0 a (some r9)) L ∧ (∀ j : Nat, j < 8 → tI (sQ S 0 a (some r9)) (L 5) j = (opSet D i x) 61 j) ∧ (∀ j : Nat, j < 8 → dL (opSet D i x) ≤ j → (opSet D i x) 61 j = 0) ∧ cU (opSet D i x) (sQ S 0 a (some r9)) L T ∧ wfQ (opSet D i x) J lk as := by
  obtain ⟨D1, hD1⟩ : ∃ z : ZD, z = opSet D i x := ⟨_, rfl⟩
  obtain ⟨S1, hS1⟩ : ∃ z : ZM, z = sQ S 0 a (some r9) := ⟨_, rfl⟩
  have hD : ∀ k : Nat, k ≠ 58 → D1 k = D k := fun k hk => by rw [hD1]; exact dS_ne hk
  have n58 : D1 58 i = nI r := by rw [hD1, ← ex]; exact (congrFun dS_self i).trans up1_self
  have o58 : ∀ j : Nat, j ≠ i → D1 58 j = D 58 j := fun j hj => by rw [hD1]; exact (congrFun dS_self j).trans (up1_ne hj)
  obtain ⟨hX, hV, hK, hU, hQ, hF⟩ := h
  obtain ⟨h1, h2, h3, h4, h5, h6, h7, h8, h9, h10⟩ := id hX
  have h8L : dL D ≤ 8 := h6.1.2.2.2.2
  have h40 : dR D ≤ 40 := h6.1.2.2.1.2
  have k2 : mK S a = 2 := by
    obtain ⟨b, r, e, q, -⟩ := h5.2 i hi
    rw [e] at ha; cases ha; exact q
  have eK : mK S1 = mK S := by rw [hS1]
  have eN : mN S1 = mN S := by rw [hS1]
  have eI : mI S1 = mI S := by rw [hS1]
  have eJ : mJ S1 = mJ S := by rw [hS1]
  have eT : tI S1 = tI S := by rw [hS1]
  have eTQ : tQ S1 = tQ S := by rw [hS1]
  have eQk : ∀ k : Nat, k ≠ 0 → mQ S1 k = mQ S k := fun k hk => by
    rw [hS1]; funext b; exact up2_k hk
  have eQb : ∀ k b : Nat, b ≠ a → mQ S1 k b = mQ S k b := fun k b hb => by
    rw [hS1]
    show up2 S.2.2.1 0 a (some r9) k b = S.2.2.1 k b
    simp [up2, hb]
  have eQ0 : mQ S1 0 a = some r9 := by rw [hS1]; show up2 S.2.2.1 0 a (some r9) 0 a = _; exact up2_self
  rw [← hD1, ← hS1]
  have hpr : prD D1 = prD D := prD_eq (hD 41 (by decide)) (hD 47 (by decide))
  have hdT : dT D1 = dT D := by unfold dT; rw [hD 41 (by decide)]
  have hdL : dL D1 = dL D := by unfold dL; rw [hD 57 (by decide)]
  have hdR : dR D1 = dR D := by unfold dR; rw [hD 52 (by decide)]
  have nek : ∀ b c : Nat, mK S b = c → c ≠ 2 → b ≠ a := fun b c hb hc q => hc (by rw [← hb, q]; exact k2)
  refine ⟨⟨?_, ?_, ?_, ?_, ?_, ?_, ?_, ?_, ?_, ?_⟩, ?_, ?_, ?_, ?_, ?_⟩
  · exact h1.same eK eN (fun k _ => eQb k _ (nek _ _ h1.c (by decide))) eTQ
  · intro t ht
    rw [hpr, hD 42 (by decide), hD 43 (by decide), hD 44 (by decide), hD 46 (by decide), show lastD D1 t = lastD D t from by simp only [lastD, hD 44 (by decide), hD 45 (by decide)], eTQ, eK, eI]
    exact h2 t ht
  · rw [rG_eq lk S1 L (hD 48 (by decide)) (hD 49 (by decide)) (hD 50 (by decide))]
    exact h3.same eK eN (fun k b _ => by rw [eI]) (fun k b _ q => eQb k b (nek b _ q (by decide))) eTQ (fun b _ => by rw [eT])
  · rw [rR_eq as S1 L (hD 52 (by decide)) (hD 53 (by decide)) (hD 54 (by decide)) (hD 55 (by decide)) (hD 56 (by decide))]
    exact h4.same eK (fun k b _ => by rw [eI]) (fun k b _ q => eQb k b (nek b _ q (by decide))) eTQ
  · refine ⟨by rw [hdL, eTQ]; exact h5.1, fun j hj => ?_⟩
    rw [hdL] at hj
    obtain ⟨b, rr, e, q1, q2, q3, q4, q5⟩ := h5.2 j hj
    rw [eTQ, eK, eI, hD 59 (by decide), hD 60 (by decide)]
    by_cases ej : j = i
    · subst ej
      have : b = a := by rw [e] at ha; exact Option.some.inj ha
      subst this
      exact ⟨b, r9, e, q1, eQ0, by rw [n58, ix, nI_clamp (by omega)]; exact er, q4, q5⟩
    · have hb : b ≠ a := by
        rintro rfl
        exact ej (hU.2.2.1.2.1 j i b (by omega) (by omega) e ha)
      exact ⟨b, rr, e, q1, by rw [eQb _ _ hb]; exact q2, by rw [o58 j ej]; exact q3, q4, q5⟩
  · rw [wfA_eq lk as (hD 41 (by decide)) (hD 48 (by decide)) (hD 52 (by decide)) (hD 53 (by decide)) (hD 54 (by decide)) (hD 55 (by decide)) (hD 57 (by decide))]; exact h6
  · rw [eI, hD 40 (by decide)]; exact h7
  · rw [hD 44 (by decide), hD 45 (by decide)]; exact h8
  · intro j hj
    rw [hdL] at hj
    rw [hdR]
    by_cases e : j = i
    · subst e; exact ⟨r, hr, n58⟩
    · rw [o58 j e]; exact h9 j hj
  · exact acD_set h10 h6.2.1 h9 h8L h40 (hD 53 (by decide)) (hD 54 (by decide)) (hD 55 (by decide)) hdL hi hr n58 o58 hB
  · obtain ⟨v1, v2, v3, v4, v5, v6⟩ := hV
    refine ⟨?_, ?_, ?_, ?_, ?_, ?_⟩
    · rw [eI, hD 41 (by decide)]; exact v1
    · rw [eI, hpr]; exact v2
    · rw [eI, hD 48 (by decide)]; exact v3
    · rw [eI, hD 52 (by decide)]; exact v4
    · rw [eI, hD 57 (by decide)]; exact v5
    · rw [eJ, hdT, scF_eq (hD 42 (by decide)) (hD 44 (by decide))]; exact v6
  · rw [eT, hD 61 (by decide)]; exact hK.1
  · rw [hdL, hD 61 (by decide)]; exact hF.2
  · rw [cU_eq _ L T (hD 41 (by decide)) (hD 47 (by decide)) (hD 48 (by decide)) (hD 67 (by decide)) (hD 69 (by decide)) (hD 70 (by decide))]
    unfold cU glS inj2 at hU ⊢
    rw [eK, eN, eTQ, eT, eQk 14 (by decide), eQk 35 (by decide), eQk 15 (by decide), eQk 11 (by decide)]; exact hU
  · have q := hQ
    simp only [wfQ, dT, dG, dR, dU, dL] at q ⊢
    rw [hD 40 (by decide), hD 41 (by decide), hD 42 (by decide), hD 43 (by decide), hD 44 (by decide), hD 46 (by decide), hD 47 (by decide), hD 48 (by decide), hD 49 (by decide), hD 50 (by decide), hD 51 (by decide), hD 52 (by decide), hD 53 (by decide), hD 56 (by decide), hD 57 (by decide), hD 59 (by decide), hD 67 (by decide), hD 68 (by decide), hD 69 (by decide)]
    exact q
