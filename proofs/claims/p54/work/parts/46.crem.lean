/-! the class: a track less -/
/-- the state behind a track less -/
def opRem (D : ZD) (t : Nat) : ZD := dS D 47 (up1 (D 47) t 1)
theorem prD_rem {D : ZD} {t : Nat} : prD (opRem D t) t = false := by
  unfold prD
  rw [show opRem D t 47 t = 1 from (congrFun dS_self t).trans up1_self, show decide ((1 : Int32) = 0) = false from rfl, Bool.and_false]
theorem prD_rem_ne {D : ZD} {t i : Nat} (h : i ≠ t) : prD (opRem D t) i = prD D i := by
  unfold prD dT
  rw [show opRem D t 47 i = D 47 i from (congrFun dS_self i).trans (up1_ne h), show opRem D t 41 = D 41 from dS_ne (by decide)]
abbrev remS (D : ZD) (S : ZM) (L : Nat → Nat) (t : Nat) : ZM := sI (eQ S (L 1) t none) 27 (L 0) (nI (cnF (prD (opRem D t)) 24))
theorem cR.rem {D : ZD} {J : Nat → Int64} {lk : ZL} {as : Nat → Nat} {S : ZM} {L T : Nat → Nat} (h : cR D J lk as S L T) {t : Nat} (ht : t < 24) (hp : prD D t = true) :
    nI (cnF (prD D) 24) - 1 = nI (cnF (prD (opRem D t)) 24) ∧ cX (opRem D t) lk as (remS D S L t) L ∧ cV (opRem D t) (remS D S L t) L ∧ (∀ l : Nat, l < 8 → tI (remS D S L t) (L 5) l = (opRem D t) 61 l) ∧ (∀ l : Nat, l < 8 → dL (opRem D t) ≤ l → (opRem D t) 61 l = 0) ∧ cU (opRem D t) (remS D S L t) L T ∧ wfQ (opRem D t) J lk as := by
  have hc := cnF_out (p := prD D) (q := prD (opRem D t)) (t := t) (fun i hi => prD_rem_ne hi) hp prD_rem 24
  rw [if_pos ht] at hc
  have hlt' : t < dT D := prD_lt hp
  have hpf : prD (opRem D t) t = false := prD_rem
  have hpn : ∀ i : Nat, i ≠ t → prD (opRem D t) i = prD D i := fun i hi => prD_rem_ne hi
  obtain ⟨D1, hD1⟩ : ∃ z : ZD, z = opRem D t := ⟨_, rfl⟩
  obtain ⟨S1, hS1⟩ : ∃ z : ZM, z = remS D S L t := ⟨_, rfl⟩
  have hD : ∀ k : Nat, k ≠ 47 → D1 k = D k := fun k hk => by rw [hD1]; exact dS_ne hk
  have d47 : ∀ i : Nat, i ≠ t → D1 47 i = D 47 i := fun i hi => by rw [hD1]; exact (congrFun dS_self i).trans (up1_ne hi)
  obtain ⟨hX, hV, hK, hU, hQ, hF⟩ := h
  obtain ⟨h1, h2, h3, h4, h5, h6, h7, h8, h9, h10⟩ := id hX
  have eK : mK S1 = mK S := by rw [hS1]
  have eN : mN S1 = mN S := by rw [hS1]
  have eQQ : mQ S1 = mQ S := by rw [hS1]
  have eJ : mJ S1 = mJ S := by rw [hS1]
  have eT : tI S1 = tI S := by rw [hS1]
  have eI : ∀ k b : Nat, k ≠ 27 → mI S1 k b = mI S k b := fun k b hk => by
    rw [hS1]; exact mI_sI_k hk
  have e27 : mI S1 27 (L 0) = nI (cnF (prD (opRem D t)) 24) := by rw [hS1]; exact mI_sI _ _ _ _
  have tq : ∀ b : Nat, b ≠ L 1 → tQ S1 b = tQ S b := fun b hb => by rw [hS1]; exact up2f hb
  have tn : tQ S1 (L 1) t = none := by rw [hS1]; exact up2_self
  have to : ∀ r : Nat, r ≠ t → tQ S1 (L 1) r = tQ S (L 1) r := fun r hr => by rw [hS1]; exact up2_a hr
  rw [← hD1] at e27 hc hpf hpn ⊢
  rw [← hS1]
  have ne : ∀ j : Nat, j < 16 → j ≠ 1 → L j ≠ L 1 := fun j hj h3 q => h3 (h1.ap j 1 hj (by omega) q)
  have hdT : dT D1 = dT D := by unfold dT; rw [hD 41 (by decide)]
  have hdG : dG D1 = dG D := by unfold dG; rw [hD 48 (by decide)]
  have hdL : dL D1 = dL D := by unfold dL; rw [hD 57 (by decide)]
  have hdU : dU D1 = dU D := by unfold dU; rw [hD 67 (by decide)]
  refine ⟨by rw [← hc, nI_pred], ⟨?_, ?_, ?_, ?_, ?_, ?_, ?_, ?_, ?_, ?_⟩, ?_, ?_, ?_, ?_, ?_⟩
  · unfold cS at h1 ⊢
    rw [eK, eN, eQQ, tq (L 8) (ne 8 (by decide) (by decide))]; exact h1
  · intro i hi
    rw [hD 42 (by decide), hD 43 (by decide), hD 44 (by decide), hD 46 (by decide), show lastD D1 i = lastD D i from by simp only [lastD, hD 44 (by decide), hD 45 (by decide)], eK]
    by_cases e : i = t
    · subst e
      exact ⟨fun _ => tn, fun q => by rw [hpf] at q; cases q⟩
    · rw [hpn i e, to i e]
      refine ⟨(h2 i hi).1, fun q => ?_⟩
      obtain ⟨b, e, k1, k2, k3, k4, k5, k6, k7⟩ := (h2 i hi).2 q
      exact ⟨b, e, k1, (eI _ _ (by decide)).trans k2, (eI _ _ (by decide)).trans k3, (eI _ _ (by decide)).trans k4, (eI _ _ (by decide)).trans k5, (eI _ _ (by decide)).trans k6, (eI _ _ (by decide)).trans k7⟩
  · rw [rG_eq lk S1 L (hD 48 (by decide)) (hD 49 (by decide)) (hD 50 (by decide))]
    refine ⟨by rw [tq (L 2) (ne 2 (by decide) (by decide))]; exact h3.1, fun i hi => ?_⟩
    obtain ⟨b, nm, e, k1, k2, k3, k4, k5, k6, k7, k8⟩ := h3.2 i hi
    exact ⟨b, nm, by rw [tq (L 2) (ne 2 (by decide) (by decide))]; exact e, by rw [eK]; exact k1, (eI _ _ (by decide)).trans k2, by rw [eQQ]; exact k3, by rw [eK]; exact k4, by rw [eN]; exact k5, (eI _ _ (by decide)).trans k6, fun j hj hl => by rw [eT]; exact k7 j hj hl, by rw [eQQ, tq (L 2) (ne 2 (by decide) (by decide))]; exact k8⟩
  · rw [rR_eq as S1 L (hD 52 (by decide)) (hD 53 (by decide)) (hD 54 (by decide)) (hD 55 (by decide)) (hD 56 (by decide))]
    have e3 := tq (L 3) (ne 3 (by decide) (by decide))
    refine ⟨by rw [e3]; exact h4.1, fun r hr => ?_⟩
    obtain ⟨b, eb, k1, k2, k3, k4, k5, k6, k7, k8⟩ := h4.2 r hr
    exact ⟨b, by rw [e3]; exact eb, by rw [eK]; exact k1, (eI _ _ (by decide)).trans k2, (eI _ _ (by decide)).trans k3, (eI _ _ (by decide)).trans k4, by rw [eQQ, e3]; exact k5, by rw [eQQ, e3]; exact k6, (eI _ _ (by decide)).trans k7, (eI _ _ (by decide)).trans k8⟩
  · rw [rL_eq S1 L (hD 57 (by decide)) (hD 58 (by decide)) (hD 59 (by decide)) (hD 60 (by decide))]
    refine ⟨by rw [tq (L 4) (ne 4 (by decide) (by decide))]; exact h5.1, fun i hi => ?_⟩
    obtain ⟨b, r, e, k1, k2, k3, k4, k5⟩ := h5.2 i hi
    exact ⟨b, r, by rw [tq (L 4) (ne 4 (by decide) (by decide))]; exact e, by rw [eK]; exact k1, by rw [eQQ]; exact k2, by rw [tq (L 3) (ne 3 (by decide) (by decide))]; exact k3, (eI _ _ (by decide)).trans k4, (eI _ _ (by decide)).trans k5⟩
  · rw [wfA_eq lk as (hD 41 (by decide)) (hD 48 (by decide)) (hD 52 (by decide)) (hD 53 (by decide)) (hD 54 (by decide)) (hD 55 (by decide)) (hD 57 (by decide))]; exact h6
  · rw [eI _ _ (by decide), hD 40 (by decide)]; exact h7
  · rw [hD 44 (by decide), hD 45 (by decide)]; exact h8
  · rw [wfO_eq (hD 52 (by decide)) (hD 57 (by decide)) (hD 58 (by decide))]; exact h9
  · rw [acD_eq (hD 53 (by decide)) (hD 54 (by decide)) (hD 55 (by decide)) (hD 57 (by decide)) (hD 58 (by decide))]; exact h10
  · obtain ⟨v1, v2, v3, v4, v5, v6⟩ := hV
    refine ⟨?_, e27, ?_, ?_, ?_, ?_⟩
    · rw [eI _ _ (by decide), hD 41 (by decide)]; exact v1
    · rw [eI _ _ (by decide), hD 48 (by decide)]; exact v3
    · rw [eI _ _ (by decide), hD 52 (by decide)]; exact v4
    · rw [eI _ _ (by decide), hD 57 (by decide)]; exact v5
    · rw [eJ, hdT, scF_eq (hD 42 (by decide)) (hD 44 (by decide))]; exact v6
  · rw [eT, hD 61 (by decide)]; exact hK.1
  · rw [hdL, hD 61 (by decide)]; exact hF.2
  · obtain ⟨u1, u2, u3, u4, u5⟩ := hU
    have et := tq (L 2) (ne 2 (by decide) (by decide))
    have eg : ∀ k : Nat, glS D1 S1 L k = glS D S L k := fun k => by unfold glS; rw [et, hD 69 (by decide)]
    refine ⟨by rw [et, eQQ, eK, eN, hdG]; exact u1, by rw [hdG]; exact u2, ⟨by rw [hdG]; exact u3.1, ?_⟩, by rw [eQQ, hdU, eg]; exact u4, fun k hk => ?_⟩
    · have u32 := u3.2
      unfold inj2 at u32 ⊢
      rw [et, eQQ, tq (L 4) (ne 4 (by decide) (by decide))]; exact u32
    · rw [hdU] at hk
      obtain ⟨w1, w2, w3⟩ := u5 k hk
      rw [hD 69 (by decide), hdG, et, eQQ, eT, hD 70 (by decide), eg]
      refine ⟨w1, w2, fun i hi hpi => w3 i hi ?_⟩
      rcases hpi with hpi | hpi
      · by_cases e : i = t
        · subst e; rw [hpf] at hpi; cases hpi
        · rw [← hpn i e]; exact Or.inl hpi
      · rw [hdT] at hpi; exact Or.inr hpi
  · obtain ⟨p1, p2, p3, p4, p5, p6, p7⟩ := hQ
    refine wfQ.same ⟨p1, p2, p3, p4, p5, p6, p7⟩ (fun i hi => ?_) (by rw [hD 40 (by decide)]; exact p2) (fun k a b c => hD k (by omega))
    rw [hdT, hD 42 (by decide), hD 43 (by decide), hD 44 (by decide), hD 46 (by decide)]
    refine ⟨(p1 i hi).1, fun hd => ?_⟩
    obtain ⟨z1, z2, z3⟩ := (p1 i hi).2 hd
    exact ⟨z1, z2, by rw [d47 i (by omega)]; exact z3⟩
