/-! the class: a letter more -/
/-- the state behind a letter more -/
def opLet (D : ZD) (g : Nat) (c : Int32) : ZD := dS (dS D 50 (up1 (D 50) (6 * g + ix (D 49 g)) c)) 49 (up1 (D 49) g (D 49 g + 1))
abbrev letS (D : ZD) (S : ZM) (g a nm : Nat) (c : Int32) : ZM := sI (eI S nm (ix (D 49 g)) c) 12 a (D 49 g + 1)
theorem cR.letter {D : ZD} {J : Nat → Int64} {lk : ZL} {as : Nat → Nat} {S : ZM} {L T : Nat → Nat} (h : cR D J lk as S L T) {g a nm : Nat} {c : Int32} (hg : g < dG D) (ha : tQ S (L 2) g = some a) (hnm : mQ S 11 a = some nm) (hlt : D 49 g < 6) (hc : ∃ m : Nat, c = nI m ∧ m < 65536) : cR (opLet D g c) J lk as (letS D S g a nm c) L T := by
  obtain ⟨D1, hD1⟩ : ∃ z : ZD, z = opLet D g c := ⟨_, rfl⟩
  obtain ⟨S1, hS1⟩ : ∃ z : ZM, z = letS D S g a nm c := ⟨_, rfl⟩
  have hD : ∀ k : Nat, k ≠ 49 ∧ k ≠ 50 → D1 k = D k := fun k hk => by
    rw [hD1]; exact (dS_ne hk.1).trans (dS_ne hk.2)
  have d49 : D1 49 = up1 (D 49) g (D 49 g + 1) := by rw [hD1]; exact dS_self
  have d50 : D1 50 = up1 (D 50) (6 * g + ix (D 49 g)) c := by rw [hD1]; exact (dS_ne (by decide)).trans dS_self
  obtain ⟨hX, hV, hK, hU, hQ, hF⟩ := h
  obtain ⟨h1, h2, h3, h4, h5, h6, h7, h8, h9, h10⟩ := id hX
  obtain ⟨⟨c1, c2⟩, ⟨c3, c4⟩, ⟨c5, c6⟩, c7, c8⟩ := h6.1
  have hg16 : g < 16 := by omega
  obtain ⟨n, en, hn6, hn0, hch⟩ := hQ.2.2.1 g hg16
  have hn : n < 6 := by rw [en] at hlt; exact (nI_ltI (b := 6) (by omega) (by decide)).1 hlt
  have hix : ix (D 49 g) = n := by rw [en, ix]; exact nI_clamp (by omega)
  rw [hix] at d50
  obtain ⟨a', nm', e', ka, na, qa, kn, ln, la, fa, qa13⟩ := h3.2 g hg
  have : a' = a := by rw [ha] at e'; exact (Option.some.inj e').symm
  subst this
  have : nm' = nm := by rw [hnm] at qa; exact (Option.some.inj qa).symm
  subst this
  have eK : mK S1 = mK S := by rw [hS1]
  have eN : mN S1 = mN S := by rw [hS1]
  have eQQ : mQ S1 = mQ S := by rw [hS1]
  have eJ : mJ S1 = mJ S := by rw [hS1]
  have eTQ : tQ S1 = tQ S := by rw [hS1]
  have eT : ∀ b : Nat, b ≠ nm' → tI S1 b = tI S b := fun b hb => by rw [hS1]; exact up2f hb
  have eTn : tI S1 nm' n = c := by rw [hS1, letS, hix]; exact up2_self
  have eTo : ∀ j : Nat, j ≠ n → tI S1 nm' j = tI S nm' j := fun j hj => by rw [hS1, letS, hix]; exact up2_a hj
  have eI : ∀ k b : Nat, k ≠ 12 ∨ b ≠ a' → mI S1 k b = mI S k b := fun k b hk => by
    rw [hS1]
    rcases hk with hk | hk
    · exact mI_sI_k hk
    · exact mI_sI_ne hk
  have e12 : mI S1 12 a' = D 49 g + 1 := by rw [hS1]; exact mI_sI _ _ _ _
  have e10 : ∀ b x : Nat, mK S b = x → x ≠ 11 → tI S1 b = tI S b := fun b x hb hx => eT b (fun q => hx (by rw [← hb, q]; exact kn))
  rw [← hD1, ← hS1]
  have hpr : prD D1 = prD D := prD_eq (hD 41 (by decide)) (hD 47 (by decide))
  have hdT : dT D1 = dT D := by unfold dT; rw [hD 41 (by decide)]
  have hdG : dG D1 = dG D := by unfold dG; rw [hD 48 (by decide)]
  have hdL : dL D1 = dL D := by unfold dL; rw [hD 57 (by decide)]
  have hdR : dR D1 = dR D := by unfold dR; rw [hD 52 (by decide)]
  have hdU : dU D1 = dU D := by unfold dU; rw [hD 67 (by decide)]
  have hal : alk D D1 := ⟨fun k _ hk => hD k (by omega), by rw [hD 57 (by decide)], fun r _ => by rw [hD 53 (by decide), hD 54 (by decide), hD 55 (by decide)]; exact ⟨rfl, rfl, rfl⟩, fun i _ => by rw [hD 58 (by decide), hD 59 (by decide), hD 60 (by decide)]; exact ⟨rfl, rfl, rfl⟩⟩
  refine ⟨⟨?_, ?_, ?_, ?_, ?_, ?_, ?_, ?_, ?_, ?_⟩, ?_, ?_, ?_, ?_, ?_⟩
  · unfold cS at h1 ⊢
    rw [eK, eN, eQQ, eTQ]; exact h1
  · intro i hi
    rw [hpr, hD 42 (by decide), hD 43 (by decide), hD 44 (by decide), hD 46 (by decide), show lastD D1 i = lastD D i from by simp only [lastD, hD 44 (by decide), hD 45 (by decide)], eTQ, eK]
    refine ⟨(h2 i hi).1, fun q => ?_⟩
    obtain ⟨b, e, k1, k2, k3, k4, k5, k6, k7⟩ := (h2 i hi).2 q
    exact ⟨b, e, k1, (eI _ _ (Or.inl (by decide))).trans k2, (eI _ _ (Or.inl (by decide))).trans k3, (eI _ _ (Or.inl (by decide))).trans k4, (eI _ _ (Or.inl (by decide))).trans k5, (eI _ _ (Or.inl (by decide))).trans k6, (eI _ _ (Or.inl (by decide))).trans k7⟩
  · refine ⟨by rw [eTQ, hdG]; exact h3.1, fun i hi => ?_⟩
    rw [hdG] at hi
    rw [eTQ, eK, eN, eQQ, d49, d50]
    by_cases e : i = g
    · subst e
      refine ⟨a', nm', e', ka, (eI _ _ (Or.inl (by decide))).trans na, qa, kn, ln, by rw [e12, up1_self], fun j hj hl => ?_, qa13⟩
      rw [up1_self, en, nI_1] at hl
      have hj2 : j < n + 1 := (nI_ltI (by omega) (by omega)).1 hl
      by_cases ej : j = n
      · subst ej; rw [eTn, up1_self]
      · rw [eTo j ej, up1_ne (by omega)]
        exact fa j hj (by rw [en]; exact nI_lt (by omega) (by omega))
    · obtain ⟨b, nb, eb, k1, k2, k3, k4, k5, k6, k7, k8⟩ := h3.2 i hi
      have hb : b ≠ a' := by
        rintro rfl
        rw [na] at k2
        exact e ((nI_eq (by omega) (by omega)).1 k2).symm
      have hnb : nb ≠ nm' := by
        rintro rfl
        exact e (hU.2.2.1.2.2 i g b a' (by omega) hg16 eb ha (k3.trans hnm.symm))
      refine ⟨b, nb, eb, k1, (eI _ _ (Or.inr hb)).trans k2, k3, k4, k5, by rw [eI _ _ (Or.inr hb), up1_ne e]; exact k6, fun j hj hl => ?_, k8⟩
      rw [up1_ne e] at hl
      rw [eT nb hnb, up1_ne (by omega)]; exact k7 j hj hl
  · rw [rR_eq as S1 L (hD 52 (by decide)) (hD 53 (by decide)) (hD 54 (by decide)) (hD 55 (by decide)) (hD 56 (by decide))]
    refine ⟨by rw [eTQ]; exact h4.1, fun r hr => ?_⟩
    obtain ⟨b, eb, k1, k2, k3, k4, k5, k6, k7, k8⟩ := h4.2 r hr
    exact ⟨b, by rw [eTQ]; exact eb, by rw [eK]; exact k1, (eI _ _ (Or.inl (by decide))).trans k2, (eI _ _ (Or.inl (by decide))).trans k3, (eI _ _ (Or.inl (by decide))).trans k4, by rw [eQQ, eTQ]; exact k5, by rw [eQQ, eTQ]; exact k6, (eI _ _ (Or.inl (by decide))).trans k7, (eI _ _ (Or.inl (by decide))).trans k8⟩
  · rw [rL_eq S1 L (hD 57 (by decide)) (hD 58 (by decide)) (hD 59 (by decide)) (hD 60 (by decide))]
    refine ⟨by rw [eTQ]; exact h5.1, fun i hi => ?_⟩
    obtain ⟨b, r, e, k1, k2, k3, k4, k5⟩ := h5.2 i hi
    exact ⟨b, r, by rw [eTQ]; exact e, by rw [eK]; exact k1, by rw [eQQ]; exact k2, by rw [eTQ]; exact k3, (eI _ _ (Or.inl (by decide))).trans k4, (eI _ _ (Or.inl (by decide))).trans k5⟩
  · rw [wfA_eq lk as (hD 41 (by decide)) (hD 48 (by decide)) (hD 52 (by decide)) (hD 53 (by decide)) (hD 54 (by decide)) (hD 55 (by decide)) (hD 57 (by decide))]; exact h6
  · rw [eI _ _ (Or.inl (by decide)), hD 40 (by decide)]; exact h7
  · rw [hD 44 (by decide), hD 45 (by decide)]; exact h8
  · rw [wfO_eq (hD 52 (by decide)) (hD 57 (by decide)) (hD 58 (by decide))]; exact h9
  · rw [acD_eq (hD 53 (by decide)) (hD 54 (by decide)) (hD 55 (by decide)) (hD 57 (by decide)) (hD 58 (by decide))]; exact h10
  · obtain ⟨v1, v2, v3, v4, v5, v6⟩ := hV
    refine ⟨?_, ?_, ?_, ?_, ?_, ?_⟩
    · rw [eI _ _ (Or.inl (by decide)), hD 41 (by decide)]; exact v1
    · rw [eI _ _ (Or.inl (by decide)), hpr]; exact v2
    · rw [eI _ _ (Or.inl (by decide)), hD 48 (by decide)]; exact v3
    · rw [eI _ _ (Or.inl (by decide)), hD 52 (by decide)]; exact v4
    · rw [eI _ _ (Or.inl (by decide)), hD 57 (by decide)]; exact v5
    · rw [eJ, hdT, scF_eq (hD 42 (by decide)) (hD 44 (by decide))]; exact v6
  · exact ⟨by rw [e10 _ _ h1.kp.2.1 (by decide), hD 61 (by decide)]; exact hK.1, by rw [eI _ _ (Or.inl (by decide)), hD 66 (by decide)]; exact hK.2⟩
  · rw [cU_eq _ L T (hD 41 (by decide)) (hD 47 (by decide)) (hD 48 (by decide)) (hD 67 (by decide)) (hD 69 (by decide)) (hD 70 (by decide))]
    obtain ⟨u1, u2, u3, u4, u5⟩ := hU
    have eg : ∀ k : Nat, glS D S1 L k = glS D S L k := fun k => by unfold glS; rw [eTQ]
    refine ⟨by rw [eTQ, eQQ, eK, eN]; exact u1, u2, ⟨u3.1, ?_⟩, by rw [eQQ, eg]; exact u4, fun k hk => ?_⟩
    · have u32 := u3.2
      unfold inj2 at u32 ⊢
      rw [eTQ, eQQ]; exact u32
    · obtain ⟨w1, w2, w3⟩ := u5 k hk
      obtain ⟨b, nb, eb, -⟩ := h3.2 _ w1
      rw [eTQ, eQQ, eg, e10 _ _ (u1 _ b w1 eb).2.1 (by decide)]
      exact ⟨w1, w2, w3⟩
  · obtain ⟨p1, p2, p3, p4, p5, p6, p7⟩ := hQ
    refine ⟨by rw [hdT, hD 42 (by decide), hD 43 (by decide), hD 44 (by decide), hD 46 (by decide), hD 47 (by decide)]; exact p1, by rw [hD 40 (by decide)]; exact p2, fun i hi => ?_, by rw [hD 51 (by decide)]; exact p4, by rw [hdR, hD 56 (by decide)]; exact p5, by rw [hdU, hdL, hD 67 (by decide), hD 59 (by decide)]; exact p6, by rw [hdU, hdR, hD 69 (by decide), hD 68 (by decide), hD 53 (by decide)]; exact p7⟩
    rw [d49, d50, hdG]
    by_cases e : i = g
    · subst e
      refine ⟨n + 1, by rw [up1_self, en, nI_1], by omega, fun q => by omega, fun j hj => ?_⟩
      by_cases ej : j = n
      · subst ej; rw [up1_self]; exact hc
      · rw [up1_ne (by omega)]; exact hch j (by omega)
    · obtain ⟨m, em, hm, hm0, hmc⟩ := p3 i hi
      refine ⟨m, by rw [up1_ne e]; exact em, hm, hm0, fun j hj => ?_⟩
      rw [up1_ne (by omega)]; exact hmc j hj
  · refine ⟨fun i hi => ?_, by rw [hdL, hD 61 (by decide)]; exact hF.2⟩
    rw [hdL] at hi
    rw [hD 61 (by decide), hal.fix h6.2.1 c6 h9]; exact hF.1 i hi
