/-! the class: a rule more -/
/-- the state behind a rule more -/
def opRule (D : ZD) (kd x54 x55 sz : Int32) : ZD := dS (dS (dS (dS (dS D 53 (up1 (D 53) (dR D) kd)) 54 (up1 (D 54) (dR D) x54)) 55 (up1 (D 55) (dR D) x55)) 56 (up1 (D 56) (dR D) sz)) 52 (up1 (D 52) 0 (D 52 0 + 1))
def opAs (D : ZD) (as : Nat → Nat) (g : Nat) : Nat → Nat := fun r => if r = dR D then g else as r
/-- what a rule with these parts asks of lists -/
def lsNew (D : ZD) (kd x54 x55 : Int32) : Int32 := if kd = 5 then 1 <<< (x54 &&& 31) else if kd = 6 ∨ kd = 7 then lsD D (ix x54) ||| lsD D (ix x55) else if kd = 8 then lsD D (ix x54) else 0
theorem mean_self' {G : Nat} {lk : ZL} (hw : wfL G lk) {g : Nat} (h : look lk g = none) : ∀ m : Nat, mean (lk.drop m) g = g := by
  have key : ∀ {lk : ZL}, wfL G lk → look lk g = none → mean lk g = g := fun hw h => mean_self h hw
  induction lk with
  | nil => intro m; rw [List.drop_nil]; rfl
  | cons p r ih =>
    intro m
    cases m with
    | zero => exact key hw h
    | succ m =>
      rw [List.drop_succ_cons]
      obtain ⟨o, t⟩ := p
      refine ih hw.1 ?_ m
      simp only [look] at h
      by_cases e : g = o
      · rw [if_pos e] at h; cases h
      · rw [if_neg e] at h; exact h
theorem look_mem {lk : ZL} {o g : Nat} : ∀ {k : Nat}, lk[k]? = some (o, g) → ∃ t : Nat, look lk o = some t := by
  induction lk with
  | nil => intro k h; cases h
  | cons p r ih =>
    intro k h
    obtain ⟨o2, t2⟩ := p
    by_cases e : o = o2
    · exact ⟨t2, by simp only [look]; rw [if_pos e]⟩
    · cases k with
      | zero => simp only [List.getElem?_cons_zero, Option.some.injEq, Prod.mk.injEq] at h; exact absurd h.1.symm e
      | succ k =>
        rw [List.getElem?_cons_succ] at h
        obtain ⟨t, ht⟩ := ih h
        exact ⟨t, by simp only [look]; rw [if_neg e]; exact ht⟩
theorem cR.addRule {D : ZD} {J : Nat → Int64} {lk : ZL} {as : Nat → Nat} {S : ZM} {L T : Nat → Nat} (h : cR D J lk as S L T) {a g : Nat} {kd x54 x55 sz : Int32} (hlt : dR D < 40) (ka : mK S a = 3) (n3 : mI S 3 a = nI (dR D)) (n4 : mI S 4 a = kd)
    (n5 : mI S 5 a = if kd = 0 then nI g else if kd = 6 ∨ kd = 7 ∨ kd = 8 then 0 else x54) (q6 : kd = 6 ∨ kd = 7 ∨ kd = 8 → mQ S 6 a = tQ S (L 3) (ix x54)) (q7 : kd = 6 ∨ kd = 7 → mQ S 7 a = tQ S (L 3) (ix x55)) (n8 : mI S 8 a = sz) (n9 : mI S 9 a = lsNew D kd x54 x55)
    (w1 : ∃ k : Nat, k ≤ 8 ∧ kd = nI k) (w2 : kd = 0 → g < dG D ∧ x54 = nI g ∧ look lk g = none) (w3 : kd = 5 → ∃ i : Nat, i < dL D ∧ x54 = nI i) (w4 : kd = 6 ∨ kd = 7 ∨ kd = 8 → ∃ p q : Nat, p < dR D ∧ q < dR D ∧ x54 = nI p ∧ x55 = nI q) (w5 : ∃ n : Nat, sz = nI n ∧ 1 ≤ n ∧ n ≤ 15) :
    cR (opRule D kd x54 x55 sz) J lk (opAs D as g) (sI (eQ S (L 3) (dR D) (some a)) 29 (L 0) (D 52 0 + 1)) L T := by
  obtain ⟨D1, hD1⟩ : ∃ z : ZD, z = opRule D kd x54 x55 sz := ⟨_, rfl⟩
  have hD : ∀ k : Nat, k < 52 ∨ 56 < k → D1 k = D k := fun k hk => by
    rw [hD1]; unfold opRule
    rw [dS_ne (by omega), dS_ne (by omega), dS_ne (by omega), dS_ne (by omega), dS_ne (by omega)]
  have d52 : D1 52 0 = D 52 0 + 1 := by rw [hD1]; exact (congrFun dS_self 0).trans up1_self
  have d53 : D1 53 = up1 (D 53) (dR D) kd := by rw [hD1]; unfold opRule; rw [dS_ne (by decide), dS_ne (by decide), dS_ne (by decide), dS_ne (by decide), dS_self]
  have d54 : D1 54 = up1 (D 54) (dR D) x54 := by rw [hD1]; unfold opRule; rw [dS_ne (by decide), dS_ne (by decide), dS_ne (by decide), dS_self]
  have d55 : D1 55 = up1 (D 55) (dR D) x55 := by rw [hD1]; unfold opRule; rw [dS_ne (by decide), dS_ne (by decide), dS_self]
  have d56 : D1 56 = up1 (D 56) (dR D) sz := by rw [hD1]; unfold opRule; rw [dS_ne (by decide), dS_self]
  rw [← hD1]
  obtain ⟨S1, hS1⟩ : ∃ z : ZM, z = sI (eQ S (L 3) (dR D) (some a)) 29 (L 0) (D 52 0 + 1) := ⟨_, rfl⟩
  obtain ⟨hX, hV, hK, hU, hQ, hF⟩ := h
  obtain ⟨h1, h2, h3, h4, h5, h6, h7, h8, h9, h10⟩ := id hX
  have eK : mK S1 = mK S := by rw [hS1]
  have eN : mN S1 = mN S := by rw [hS1]
  have eQQ : mQ S1 = mQ S := by rw [hS1]
  have eJ : mJ S1 = mJ S := by rw [hS1]
  have eT : tI S1 = tI S := by rw [hS1]
  have eI : ∀ k b : Nat, k ≠ 29 → mI S1 k b = mI S k b := fun k b hk => by
    rw [hS1]; exact mI_sI_k hk
  have e29 : mI S1 29 (L 0) = D 52 0 + 1 := by rw [hS1]; exact mI_sI _ _ _ _
  have tq : ∀ b : Nat, b ≠ L 3 → tQ S1 b = tQ S b := fun b hb => by rw [hS1]; exact up2f hb
  have tn : tQ S1 (L 3) (dR D) = some a := by rw [hS1]; exact up2_self
  have to : ∀ r : Nat, r ≠ dR D → tQ S1 (L 3) r = tQ S (L 3) r := fun r hr => by rw [hS1]; exact up2_a hr
  rw [← hS1]
  have ne : ∀ j : Nat, j < 16 → j ≠ 3 → L j ≠ L 3 := fun j hj h3 q => h3 (h1.ap j 3 hj (by omega) q)
  obtain ⟨⟨c1, c2⟩, ⟨c3, c4⟩, ⟨c5, c6⟩, c7, c8⟩ := h6.1
  have hdR : dR D1 = dR D + 1 := by
    show ix (D1 52 0) = dR D + 1
    rw [d52, c5, nI_1]; exact nI_clamp (by omega)
  have hdT : dT D1 = dT D := by unfold dT; rw [hD 41 (by decide)]
  have hdG : dG D1 = dG D := by unfold dG; rw [hD 48 (by decide)]
  have hdL : dL D1 = dL D := by unfold dL; rw [hD 57 (by decide)]
  have hdU : dU D1 = dU D := by unfold dU; rw [hD 67 (by decide)]
  have hpr : prD D1 = prD D := prD_eq (hD 41 (by decide)) (hD 47 (by decide))
  have old : ∀ r : Nat, r < dR D → D1 53 r = D 53 r ∧ D1 54 r = D 54 r ∧ D1 55 r = D 55 r ∧ D1 56 r = D 56 r := fun r hr => by
    rw [d53, d54, d55, d56, up1_ne (by omega), up1_ne (by omega), up1_ne (by omega), up1_ne (by omega)]; exact ⟨rfl, rfl, rfl, rfl⟩
  have new : D1 53 (dR D) = kd ∧ D1 54 (dR D) = x54 ∧ D1 55 (dR D) = x55 ∧ D1 56 (dR D) = sz := by
    rw [d53, d54, d55, d56, up1_self, up1_self, up1_self, up1_self]; exact ⟨rfl, rfl, rfl, rfl⟩
  have asn : opAs D as g (dR D) = g := if_pos rfl
  have aso : ∀ r : Nat, r < dR D → opAs D as g r = as r := fun r hr => if_neg (by omega)
  have hal : alk D D1 := ⟨fun k _ hk => hD k (by omega), by rw [hD 57 (by decide)], fun r hr => ⟨(old r hr).1, (old r hr).2.1, (old r hr).2.2.1⟩, fun i _ => by rw [hD 58 (by decide), hD 59 (by decide), hD 60 (by decide)]; exact ⟨rfl, rfl, rfl⟩⟩
  have lso : ∀ r : Nat, r < dR D → lsD D1 r = lsD D r := fun r hr => lsR_pw hal h6.2.1 c6 41 r hr
  have lsn : lsD D1 (dR D) = lsNew D kd x54 x55 := by
    have sub : ∀ p : Nat, p < dR D → lsR D1 40 (ix (nI p)) = lsD D (ix (nI p)) := fun p hp => by
      rw [ix, nI_clamp (by omega), lsR_pw hal h6.2.1 c6 40 p hp]; exact ls_sub h6.2.1 c6 hp
    show lsR D1 41 (dR D) = _
    rw [lsR, lsNew, new.1, new.2.1, new.2.2.1]
    by_cases k5 : kd = 5
    · rw [if_pos k5, if_pos k5]
    · rw [if_neg k5, if_neg k5]
      by_cases k67 : kd = 6 ∨ kd = 7
      · obtain ⟨p, q, hp, hq, ep, eq⟩ := w4 (by rcases k67 with q | q; exact Or.inl q; exact Or.inr (Or.inl q))
        rw [if_pos k67, if_pos k67, ep, eq, sub p hp, sub q hq]
      · rw [if_neg k67, if_neg k67]
        by_cases k8 : kd = 8
        · obtain ⟨p, q, hp, hq, ep, eq⟩ := w4 (Or.inr (Or.inr k8))
          rw [if_pos k8, if_pos k8, ep, sub p hp]
        · rw [if_neg k8, if_neg k8]
  refine ⟨⟨?_, ?_, ?_, ?_, ?_, ?_, ?_, ?_, ?_, ?_⟩, ?_, ?_, ?_, ?_, ?_⟩
  · unfold cS at h1 ⊢
    rw [eK, eN, eQQ, tq (L 8) (ne 8 (by decide) (by decide))]; exact h1
  · intro i hi
    rw [hpr, hD 42 (by decide), hD 43 (by decide), hD 44 (by decide), hD 46 (by decide), show lastD D1 i = lastD D i from by simp only [lastD, hD 44 (by decide), hD 45 (by decide)], tq (L 1) (ne 1 (by decide) (by decide)), eK]
    refine ⟨(h2 i hi).1, fun q => ?_⟩
    obtain ⟨b, e, k1, k2, k3, k4, k5, k6, k7⟩ := (h2 i hi).2 q
    exact ⟨b, e, k1, (eI _ _ (by decide)).trans k2, (eI _ _ (by decide)).trans k3, (eI _ _ (by decide)).trans k4, (eI _ _ (by decide)).trans k5, (eI _ _ (by decide)).trans k6, (eI _ _ (by decide)).trans k7⟩
  · rw [rG_eq lk S1 L (hD 48 (by decide)) (hD 49 (by decide)) (hD 50 (by decide))]
    refine ⟨by rw [tq (L 2) (ne 2 (by decide) (by decide))]; exact h3.1, fun i hi => ?_⟩
    obtain ⟨b, nm, e, k1, k2, k3, k4, k5, k6, k7, k8⟩ := h3.2 i hi
    exact ⟨b, nm, by rw [tq (L 2) (ne 2 (by decide) (by decide))]; exact e, by rw [eK]; exact k1, (eI _ _ (by decide)).trans k2, by rw [eQQ]; exact k3, by rw [eK]; exact k4, by rw [eN]; exact k5, (eI _ _ (by decide)).trans k6, fun j hj hl => by rw [eT]; exact k7 j hj hl, by rw [eQQ, tq (L 2) (ne 2 (by decide) (by decide))]; exact k8⟩
  · refine ⟨fun r hr hd => ?_, fun r hr => ?_⟩
    · rw [hdR] at hd
      rw [to r (by omega)]; exact h4.1 r hr (by omega)
    · rw [hdR] at hr
      by_cases e : r = dR D
      · subst e
        refine ⟨a, tn, by rw [eK]; exact ka, (eI _ _ (by decide)).trans n3, (eI _ _ (by decide)).trans (n4.trans new.1.symm), ?_, fun q => ?_, fun q => ?_, (eI _ _ (by decide)).trans (n8.trans new.2.2.2.symm), (eI _ _ (by decide)).trans (n9.trans lsn.symm)⟩
        · rw [eI _ _ (by decide), n5]; unfold askD; rw [new.1, new.2.1, asn]
        · rw [new.1] at q
          obtain ⟨p, q2, hp, hq, ep, eq⟩ := w4 q
          rw [eQQ, q6 q, new.2.1, ep, ix, nI_clamp (by omega), to p (by omega)]
        · rw [new.1] at q
          obtain ⟨p, q2, hp, hq, ep, eq⟩ := w4 (by rcases q with q | q; exact Or.inl q; exact Or.inr (Or.inl q))
          rw [eQQ, q7 q, new.2.2.1, eq, ix, nI_clamp (by omega), to q2 (by omega)]
      · have hr2 : r < dR D := by omega
        obtain ⟨b, eb, k1, k2, k3, k4, k5, k6, k7, k8⟩ := h4.2 r hr2
        obtain ⟨o3, o4, o5, o6⟩ := old r hr2
        have child : D 53 r = 6 ∨ D 53 r = 7 ∨ D 53 r = 8 → ix (D 54 r) ≠ dR D ∧ ix (D 55 r) ≠ dR D := fun q => by
          obtain ⟨p, q2, hp, hq, ep, eq⟩ := (h6.2.1 r hr2).2.2.2 q
          rw [ep, eq, ix, ix, nI_clamp (by omega), nI_clamp (by omega)]; omega
        refine ⟨b, by rw [to r e]; exact eb, by rw [eK]; exact k1, (eI _ _ (by decide)).trans k2, (eI _ _ (by decide)).trans (k3.trans o3.symm), ?_, fun q => ?_, fun q => ?_, (eI _ _ (by decide)).trans (k7.trans o6.symm), (eI _ _ (by decide)).trans (k8.trans (lso r hr2).symm)⟩
        · rw [eI _ _ (by decide), k4]; unfold askD; rw [o3, o4, aso r hr2]
        · rw [o3] at q
          rw [eQQ, o4, to _ (child q).1]; exact k5 q
        · rw [o3] at q
          rw [eQQ, o5, to _ (child (by rcases q with q | q; exact Or.inl q; exact Or.inr (Or.inl q))).2]; exact k6 q
  · rw [rL_eq S1 L (hD 57 (by decide)) (hD 58 (by decide)) (hD 59 (by decide)) (hD 60 (by decide))]
    refine ⟨by rw [tq (L 4) (ne 4 (by decide) (by decide))]; exact h5.1, fun i hi => ?_⟩
    obtain ⟨b, r, e, k1, k2, k3, k4, k5⟩ := h5.2 i hi
    have hr := (hX.rule hi k3).1
    exact ⟨b, r, by rw [tq (L 4) (ne 4 (by decide) (by decide))]; exact e, by rw [eK]; exact k1, by rw [eQQ]; exact k2, by rw [to _ (by omega)]; exact k3, (eI _ _ (by decide)).trans k4, (eI _ _ (by decide)).trans k5⟩
  · refine ⟨⟨by rw [hdT, hD 41 (by decide)]; exact ⟨c1, c2⟩, by rw [hdG, hD 48 (by decide)]; exact ⟨c3, c4⟩, ⟨?_, by omega⟩, by rw [hdL, hD 57 (by decide)]; exact ⟨c7, c8⟩⟩, fun r hr => ?_, by rw [hdG]; exact h6.2.2.1, h6.2.2.2.1, fun r hr hk => ?_⟩
    · rw [d52, hdR, c5, nI_1]
    · rw [hdR] at hr
      rw [hdG, hdL]
      by_cases e : r = dR D
      · subst e
        rw [new.1, new.2.1, new.2.2.1]
        exact ⟨w1, fun q => ⟨g, (w2 q).1, (w2 q).2.1⟩, w3, w4⟩
      · obtain ⟨o3, o4, o5, o6⟩ := old r (by omega)
        rw [o3, o4, o5]; exact h6.2.1 r (by omega)
    · rw [hdR] at hr
      rw [hdG]
      by_cases e : r = dR D
      · subst e
        rw [new.1] at hk
        obtain ⟨v1, v2, v3⟩ := w2 hk
        rw [asn, new.2.1]
        exact ⟨v1, by rw [mean_self v3 h6.2.2.1]; exact v2⟩
      · obtain ⟨o3, o4, o5, o6⟩ := old r (by omega)
        rw [o3] at hk
        rw [aso r (by omega), o4]; exact h6.2.2.2.2 r (by omega) hk
  · rw [eI _ _ (by decide), hD 40 (by decide)]; exact h7
  · rw [hD 44 (by decide), hD 45 (by decide)]; exact h8
  · intro i hi
    rw [hdL] at hi
    obtain ⟨r, hr, e⟩ := h9 i hi
    exact ⟨r, by omega, by rw [hD 58 (by decide)]; exact e⟩
  · exact hal.ac h6.2.1 c6 h9 h10
  · obtain ⟨v1, v2, v3, v4, v5, v6⟩ := hV
    refine ⟨?_, ?_, ?_, ?_, ?_, ?_⟩
    · rw [eI _ _ (by decide), hD 41 (by decide)]; exact v1
    · rw [eI _ _ (by decide), hpr]; exact v2
    · rw [eI _ _ (by decide), hD 48 (by decide)]; exact v3
    · rw [e29, d52]
    · rw [eI _ _ (by decide), hD 57 (by decide)]; exact v5
    · rw [eJ, hdT, scF_eq (hD 42 (by decide)) (hD 44 (by decide))]; exact v6
  · exact ⟨by rw [eT, hD 61 (by decide)]; exact hK.1, by rw [eI _ _ (by decide), hD 66 (by decide)]; exact hK.2⟩
  · rw [cU_eq _ L T (hD 41 (by decide)) (hD 47 (by decide)) (hD 48 (by decide)) (hD 67 (by decide)) (hD 69 (by decide)) (hD 70 (by decide))]
    unfold cU glS inj2 at hU ⊢
    rw [eK, eN, eQQ, eT, tq (L 2) (ne 2 (by decide) (by decide)), tq (L 4) (ne 4 (by decide) (by decide))]; exact hU
  · obtain ⟨p1, p2, p3, p4, p5, p6, p7⟩ := hQ
    refine ⟨?_, by rw [hD 40 (by decide)]; exact p2, by rw [hdG, hD 49 (by decide), hD 50 (by decide)]; exact p3, by rw [hD 51 (by decide)]; exact p4, fun r hr => ?_, by rw [hdU, hdL, hD 67 (by decide), hD 59 (by decide)]; exact p6, fun k hk => ?_⟩
    · rw [hdT, hD 42 (by decide), hD 43 (by decide), hD 44 (by decide), hD 46 (by decide), hD 47 (by decide)]; exact p1
    · rw [hdR] at hr
      by_cases e : r = dR D
      · subst e; rw [new.2.2.2]; exact w5
      · rw [(old r (by omega)).2.2.2]; exact p5 r (by omega)
    · rw [hdU] at hk ⊢
      obtain ⟨o, t, f1, f2, f3, f4⟩ := p7 k hk
      refine ⟨o, t, f1, by rw [hD 69 (by decide)]; exact f2, by rw [hD 68 (by decide)]; exact f3, fun r => ?_⟩
      rw [f4 r, hdR]
      by_cases e : r = dR D
      · subst e
        refine ⟨fun q => absurd q.1 (Nat.lt_irrefl _), fun q => ?_⟩
        obtain ⟨-, q2, q3⟩ := q
        rw [new.1] at q2
        obtain ⟨v1, v2, v3⟩ := w2 q2
        rw [asn, mean_self' h6.2.2.1 v3] at q3
        obtain ⟨u, hu⟩ := look_mem f1
        rw [← q3, v3] at hu; cases hu
      · refine ⟨fun q => ⟨by omega, by rw [(old r q.1).1]; exact q.2.1, by rw [aso r q.1]; exact q.2.2⟩, fun q => ?_⟩
        have hr : r < dR D := by omega
        exact ⟨hr, by rw [← (old r hr).1]; exact q.2.1, by rw [← aso r hr]; exact q.2.2⟩
  · refine ⟨fun i hi => ?_, by rw [hdL, hD 61 (by decide)]; exact hF.2⟩
    rw [hdL] at hi
    rw [hD 61 (by decide), hal.fix h6.2.1 c6 h9]; exact hF.1 i hi
