/-! the class: a track more -/
/-- the state behind a track more -/
def opTrk (D : ZD) (len rate : Int32) : ZD := dS (dS (dS D 42 (up1 (D 42) (dT D) len)) 43 (up1 (D 43) (dT D) rate)) 41 (up1 (D 41) 0 (D 41 0 + 1))
abbrev addS (D : ZD) (S : ZM) (L : Nat → Nat) (a : Nat) : ZM := sI (sI (eQ S (L 1) (dT D) (some a)) 26 (L 0) (D 41 0 + 1)) 27 (L 0) (nI (cnF (prD D) 24) + 1)
theorem cR.addTrk {D : ZD} {J : Nat → Int64} {lk : ZL} {as : Nat → Nat} {S : ZM} {L T : Nat → Nat} (h : cR D J lk as S L T) {a : Nat} {len rate : Int32} (hlt : dT D < 24) (ka : mK S a = 5) (n16 : mI S 16 a = nI (dT D)) (n17 : mI S 17 a = len) (n18 : mI S 18 a = rate) (n19 : mI S 19 a = 0) (n20 : mI S 20 a = -1) (n21 : mI S 21 a = 0) (l1 : 1 ≤ len) (l2 : len ≤ 999) (r1 : 0 ≤ rate) (r2 : rate ≤ 5) :
    cX (opTrk D len rate) lk as (addS D S L a) L ∧ cV (opTrk D len rate) (addS D S L a) L ∧ (∀ l : Nat, l < 8 → tI (addS D S L a) (L 5) l = (opTrk D len rate) 61 l) ∧ (∀ l : Nat, l < 8 → dL (opTrk D len rate) ≤ l → (opTrk D len rate) 61 l = 0) ∧ cU (opTrk D len rate) (addS D S L a) L T ∧ wfQ (opTrk D len rate) J lk as := by
  obtain ⟨D1, hD1⟩ : ∃ z : ZD, z = opTrk D len rate := ⟨_, rfl⟩
  obtain ⟨S1, hS1⟩ : ∃ z : ZM, z = addS D S L a := ⟨_, rfl⟩
  have hD : ∀ k : Nat, k ≠ 41 ∧ k ≠ 42 ∧ k ≠ 43 → D1 k = D k := fun k hk => by
    rw [hD1]; unfold opTrk
    rw [dS_ne hk.1, dS_ne hk.2.2, dS_ne hk.2.1]
  have d41 : D1 41 0 = D 41 0 + 1 := by rw [hD1]; exact (congrFun dS_self 0).trans up1_self
  have d43 : D1 43 = up1 (D 43) (dT D) rate := by rw [hD1]; unfold opTrk; rw [dS_ne (by decide), dS_self]
  have d42 : D1 42 = up1 (D 42) (dT D) len := by rw [hD1]; unfold opTrk; rw [dS_ne (by decide), dS_ne (by decide), dS_self]
  obtain ⟨hX, hV, hK, hU, hQ, hF⟩ := h
  obtain ⟨h1, h2, h3, h4, h5, h6, h7, h8, h9, h10⟩ := id hX
  obtain ⟨⟨c1, c2⟩, ⟨c3, c4⟩, ⟨c5, c6⟩, c7, c8⟩ := h6.1
  obtain ⟨z44, z46, z47⟩ := (hQ.1 (dT D) hlt).2 (Nat.le_refl _)
  have eK : mK S1 = mK S := by rw [hS1]
  have eN : mN S1 = mN S := by rw [hS1]
  have eQQ : mQ S1 = mQ S := by rw [hS1]
  have eJ : mJ S1 = mJ S := by rw [hS1]
  have eT : tI S1 = tI S := by rw [hS1]
  have eI : ∀ k b : Nat, k ≠ 26 → k ≠ 27 → mI S1 k b = mI S k b := fun k b hk hk2 => by
    rw [hS1, addS, mI_sI_k hk2, mI_sI_k hk]
  have e27 : mI S1 27 (L 0) = nI (cnF (prD D) 24) + 1 := by rw [hS1]; exact mI_sI _ _ _ _
  have e26 : mI S1 26 (L 0) = D 41 0 + 1 := by rw [hS1, addS, mI_sI_k (by decide)]; exact mI_sI _ _ _ _
  have tq : ∀ b : Nat, b ≠ L 1 → tQ S1 b = tQ S b := fun b hb => by rw [hS1]; exact up2f hb
  have tn : tQ S1 (L 1) (dT D) = some a := by rw [hS1]; exact up2_self
  have to : ∀ r : Nat, r ≠ dT D → tQ S1 (L 1) r = tQ S (L 1) r := fun r hr => by rw [hS1]; exact up2_a hr
  rw [← hD1, ← hS1]
  have ne : ∀ j : Nat, j < 16 → j ≠ 1 → L j ≠ L 1 := fun j hj h3 q => h3 (h1.ap j 1 hj (by omega) q)
  have hdT : dT D1 = dT D + 1 := by
    show ix (D1 41 0) = dT D + 1
    rw [d41, c1, nI_1]; exact nI_clamp (by omega)
  have hdG : dG D1 = dG D := by unfold dG; rw [hD 48 (by decide)]
  have hdL : dL D1 = dL D := by unfold dL; rw [hD 57 (by decide)]
  have hdU : dU D1 = dU D := by unfold dU; rw [hD 67 (by decide)]
  have hpt : prD D1 (dT D) = true := by
    unfold prD; rw [hdT, hD 47 (by decide), z47, decide_eq_true (Nat.lt_succ_self _)]; rfl
  have hpf : prD D (dT D) = false := by
    unfold prD; rw [decide_eq_false (Nat.lt_irrefl _)]; rfl
  have hpn : ∀ i : Nat, i ≠ dT D → prD D i = prD D1 i := fun i hi => by
    unfold prD
    rw [hdT, hD 47 (by decide)]
    by_cases q : i < dT D
    · rw [decide_eq_true q, decide_eq_true (show i < dT D + 1 by omega)]
    · rw [decide_eq_false q, decide_eq_false (show ¬ i < dT D + 1 by omega)]
  have hc := cnF_out (p := prD D1) (q := prD D) (t := dT D) hpn hpt hpf 24
  rw [if_pos hlt] at hc
  refine ⟨⟨?_, ?_, ?_, ?_, ?_, ?_, ?_, ?_, ?_, ?_⟩, ?_, ?_, ?_, ?_, ?_⟩
  · unfold cS at h1 ⊢
    rw [eK, eN, eQQ, tq (L 8) (ne 8 (by decide) (by decide))]; exact h1
  · intro i hi
    rw [d42, d43, hD 44 (by decide), hD 46 (by decide), show lastD D1 i = lastD D i from by simp only [lastD, hD 44 (by decide), hD 45 (by decide)], eK]
    by_cases e : i = dT D
    · subst e
      refine ⟨fun q => absurd (hpt.symm.trans q) (by decide), fun _ => ⟨a, tn, ka, (eI _ _ (by decide) (by decide)).trans n16, ?_, ?_, ?_, ?_, ?_⟩⟩
      · rw [up1_self]; exact (eI _ _ (by decide) (by decide)).trans n17
      · rw [up1_self]; exact (eI _ _ (by decide) (by decide)).trans n18
      · rw [z44]; exact (eI _ _ (by decide) (by decide)).trans n19
      · rw [show lastD D (dT D) = -1 from if_pos z44]; exact (eI _ _ (by decide) (by decide)).trans n20
      · rw [z46]; exact (eI _ _ (by decide) (by decide)).trans n21
    · rw [← hpn i e, to i e, up1_ne e, up1_ne e]
      refine ⟨(h2 i hi).1, fun q => ?_⟩
      obtain ⟨b, e, k1, k2, k3, k4, k5, k6, k7⟩ := (h2 i hi).2 q
      exact ⟨b, e, k1, (eI _ _ (by decide) (by decide)).trans k2, (eI _ _ (by decide) (by decide)).trans k3, (eI _ _ (by decide) (by decide)).trans k4, (eI _ _ (by decide) (by decide)).trans k5, (eI _ _ (by decide) (by decide)).trans k6, (eI _ _ (by decide) (by decide)).trans k7⟩
  · rw [rG_eq lk S1 L (hD 48 (by decide)) (hD 49 (by decide)) (hD 50 (by decide))]
    refine ⟨by rw [tq (L 2) (ne 2 (by decide) (by decide))]; exact h3.1, fun i hi => ?_⟩
    obtain ⟨b, nm, e, k1, k2, k3, k4, k5, k6, k7, k8⟩ := h3.2 i hi
    exact ⟨b, nm, by rw [tq (L 2) (ne 2 (by decide) (by decide))]; exact e, by rw [eK]; exact k1, (eI _ _ (by decide) (by decide)).trans k2, by rw [eQQ]; exact k3, by rw [eK]; exact k4, by rw [eN]; exact k5, (eI _ _ (by decide) (by decide)).trans k6, fun j hj hl => by rw [eT]; exact k7 j hj hl, by rw [eQQ, tq (L 2) (ne 2 (by decide) (by decide))]; exact k8⟩
  · rw [rR_eq as S1 L (hD 52 (by decide)) (hD 53 (by decide)) (hD 54 (by decide)) (hD 55 (by decide)) (hD 56 (by decide))]
    have e3 := tq (L 3) (ne 3 (by decide) (by decide))
    refine ⟨by rw [e3]; exact h4.1, fun r hr => ?_⟩
    obtain ⟨b, eb, k1, k2, k3, k4, k5, k6, k7, k8⟩ := h4.2 r hr
    exact ⟨b, by rw [e3]; exact eb, by rw [eK]; exact k1, (eI _ _ (by decide) (by decide)).trans k2, (eI _ _ (by decide) (by decide)).trans k3, (eI _ _ (by decide) (by decide)).trans k4, by rw [eQQ, e3]; exact k5, by rw [eQQ, e3]; exact k6, (eI _ _ (by decide) (by decide)).trans k7, (eI _ _ (by decide) (by decide)).trans k8⟩
  · rw [rL_eq S1 L (hD 57 (by decide)) (hD 58 (by decide)) (hD 59 (by decide)) (hD 60 (by decide))]
    refine ⟨by rw [tq (L 4) (ne 4 (by decide) (by decide))]; exact h5.1, fun i hi => ?_⟩
    obtain ⟨b, r, e, k1, k2, k3, k4, k5⟩ := h5.2 i hi
    exact ⟨b, r, by rw [tq (L 4) (ne 4 (by decide) (by decide))]; exact e, by rw [eK]; exact k1, by rw [eQQ]; exact k2, by rw [tq (L 3) (ne 3 (by decide) (by decide))]; exact k3, (eI _ _ (by decide) (by decide)).trans k4, (eI _ _ (by decide) (by decide)).trans k5⟩
  · have h6' := h6
    simp only [wfA, wfN, wfR] at h6' ⊢
    rw [hdG, hdL, show dR D1 = dR D from by unfold dR; rw [hD 52 (by decide)], hD 48 (by decide), hD 52 (by decide), hD 53 (by decide), hD 54 (by decide), hD 55 (by decide), hD 57 (by decide), hdT, d41]
    exact ⟨⟨⟨by rw [c1, nI_1], by omega⟩, h6'.1.2⟩, h6'.2⟩
  · rw [eI _ _ (by decide) (by decide), hD 40 (by decide)]; exact h7
  · rw [hD 44 (by decide), hD 45 (by decide)]; exact h8
  · rw [wfO_eq (hD 52 (by decide)) (hD 57 (by decide)) (hD 58 (by decide))]; exact h9
  · rw [acD_eq (hD 53 (by decide)) (hD 54 (by decide)) (hD 55 (by decide)) (hD 57 (by decide)) (hD 58 (by decide))]; exact h10
  · obtain ⟨v1, v2, v3, v4, v5, v6⟩ := hV
    refine ⟨?_, ?_, ?_, ?_, ?_, ?_⟩
    · rw [e26, d41]
    · rw [e27, nI_1, hc]
    · rw [eI _ _ (by decide) (by decide), hD 48 (by decide)]; exact v3
    · rw [eI _ _ (by decide) (by decide), hD 52 (by decide)]; exact v4
    · rw [eI _ _ (by decide) (by decide), hD 57 (by decide)]; exact v5
    · rw [eJ, hdT, v6]
      have key : ∀ n : Nat, n ≤ dT D → scF D1 n = scF D n := by
        intro n
        induction n with
        | zero => intro _; rfl
        | succ n ih => intro hn; simp only [scF]; rw [ih (by omega), d42, up1_ne (by omega), hD 44 (by decide)]
      simp only [scF]
      rw [key _ (Nat.le_refl _), hD 44 (by decide), z44, Int32.mul_zero]
      exact (Int64.add_zero _).symm
  · rw [eT, hD 61 (by decide)]; exact hK.1
  · rw [hdL, hD 61 (by decide)]; exact hF.2
  · obtain ⟨u1, u2, u3, u4, u5⟩ := hU
    have et := tq (L 2) (ne 2 (by decide) (by decide))
    have eg : ∀ k : Nat, glS D1 S1 L k = glS D S L k := fun k => by unfold glS; rw [et, hD 69 (by decide)]
    refine ⟨by rw [et, eQQ, eK, eN, hdG]; exact u1, by rw [hdG]; exact u2, ⟨by rw [hdG]; exact u3.1, ?_⟩, by rw [eQQ, hdU, eg]; exact u4, fun k hk => ?_⟩
    · have u32 := u3.2
      unfold inj2 at u32 ⊢
      rw [et, eQQ, tq (L 4) (ne 4 (by decide) (by decide))]; exact u32
    · rw [hdU] at hk
      obtain ⟨w1, w2, w3⟩ := u5 k hk
      rw [hD 69 (by decide), hdG, et, eQQ, eT, hD 70 (by decide), eg]
      refine ⟨w1, w2, fun i hi hpi => w3 i hi ?_⟩
      rcases hpi with hpi | hpi
      · by_cases e : i = dT D
        · exact Or.inr (by omega)
        · rw [hpn i e]; exact Or.inl hpi
      · rw [hdT] at hpi; exact Or.inr (by omega)
  · obtain ⟨p1, p2, p3, p4, p5, p6, p7⟩ := hQ
    refine wfQ.same ⟨p1, p2, p3, p4, p5, p6, p7⟩ (fun i hi => ?_) (by rw [hD 40 (by decide)]; exact p2) (fun k a b c => hD k (by omega))
    rw [hdT, d42, d43, hD 44 (by decide), hD 46 (by decide), hD 47 (by decide)]
    by_cases e : i = dT D
    · subst e
      rw [up1_self, up1_self, z44]
      refine ⟨fun _ => ⟨?_, in_nI r1 r2 (by decide), 0, rfl, by decide⟩, fun q => by omega⟩
      obtain ⟨m, em, hm⟩ := in_nI (n := 999) (Int32.le_trans (by decide) l1) l2 (by decide)
      refine ⟨m, em, ?_, hm⟩
      rw [em] at l1
      exact (nI_leI (a := 1) (by decide) (by omega)).1 l1
    · rw [up1_ne e, up1_ne e]
      exact ⟨fun q => (p1 i hi).1 (by omega), fun q => (p1 i hi).2 (by omega)⟩
