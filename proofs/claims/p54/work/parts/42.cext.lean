/-! more cells beside those that are there change nothing -/
def ext (S S1 : ZM) : Prop := ∀ b : Nat, zkn (mK S b) = true → mK S1 b = mK S b ∧ mN S1 b = mN S b ∧ (∀ k : Nat, mI S1 k b = mI S k b ∧ mQ S1 k b = mQ S k b ∧ mJ S1 k b = mJ S k b) ∧ tI S1 b = tI S b ∧ tQ S1 b = tQ S b
theorem ext.refl (S : ZM) : ext S S := fun b _ => ⟨rfl, rfl, fun k => ⟨rfl, rfl, rfl⟩, rfl, rfl⟩
theorem ext.sI {S S1 : ZM} (h : ext S S1) {a k : Nat} (ha : zkn (mK S a) = false) (v : Int32) : ext S (sI S1 k a v) := fun b hb => by
  have hne : b ≠ a := zkn_ne ha hb
  obtain ⟨h1, h2, h3, h4, h5⟩ := h b hb
  exact ⟨h1, h2, fun k' => ⟨(mI_sI_ne hne).trans (h3 k').1, (h3 k').2⟩, h4, h5⟩
theorem ext.sQ {S S1 : ZM} (h : ext S S1) {a k : Nat} (ha : zkn (mK S a) = false) (v : Option Nat) : ext S (sQ S1 k a v) := fun b hb => by
  have hne : b ≠ a := zkn_ne ha hb
  obtain ⟨h1, h2, h3, h4, h5⟩ := h b hb
  refine ⟨h1, h2, fun k' => ⟨(h3 k').1, ?_, (h3 k').2.2⟩, h4, h5⟩
  refine Eq.trans ?_ (h3 k').2.1
  show up2 S1.2.2.1 k a v k' b = S1.2.2.1 k' b
  simp [up2, hne]
theorem ext.nO {S S1 : ZM} (h : ext S S1) {a : Nat} (ha : zkn (mK S a) = false) (κ : Nat) : ext S (nO S1 a κ) := fun b hb => by
  have hne : b ≠ a := zkn_ne ha hb
  obtain ⟨h1, h2, h3, h4, h5⟩ := h b hb
  refine ⟨(up1_ne hne).trans h1, h2, fun k' => ⟨(upz_ne hne).trans (h3 k').1, (upz_ne hne).trans (h3 k').2.1, (upz_ne hne).trans (h3 k').2.2⟩, h4, h5⟩
theorem ext.nA {S S1 : ZM} (h : ext S S1) {a : Nat} (ha : zkn (mK S a) = false) (κ n : Nat) : ext S (nA S1 a κ n) := fun b hb => by
  have hne : b ≠ a := zkn_ne ha hb
  obtain ⟨h1, h2, h3, h4, h5⟩ := h b hb
  exact ⟨(up1_ne hne).trans h1, (up1_ne hne).trans h2, h3, (up1_ne hne).trans h4, (up1_ne hne).trans h5⟩
theorem zk {S : ZM} {b c : Nat} (h : mK S b = c) (hc : zkn c = true) : zkn (mK S b) = true := by rw [h]; exact hc
theorem cS.ext {S S1 : ZM} {L : Nat → Nat} (h : cS S L) (e : ext S S1) : cS S1 L := by
  have e0 := e _ (zk h.c rfl)
  have q : ∀ k : Nat, mQ S1 k (L 0) = mQ S k (L 0) := fun k => (e0.2.2.1 k).2.1
  have a : ∀ {b c n : Nat}, mK S b = c → zkn c = true → mN S b = n → mK S1 b = c ∧ mN S1 b = n := fun h1 h2 h3 => ⟨(e _ (zk h1 h2)).1.trans h1, (e _ (zk h1 h2)).2.1.trans h3⟩
  refine ⟨e0.1.trans h.c, ?_, ?_, ?_, ?_, ?_, ?_, ?_, ?_, fun i hi => ?_, h.ap⟩
  · exact ⟨(q 22).trans h.t.1, a h.t.2.1 rfl h.t.2.2⟩
  · exact ⟨(q 23).trans h.g.1, a h.g.2.1 rfl h.g.2.2⟩
  · exact ⟨(q 24).trans h.r.1, a h.r.2.1 rfl h.r.2.2⟩
  · exact ⟨(q 25).trans h.l.1, a h.l.2.1 rfl h.l.2.2⟩
  · exact ⟨(q 31).trans h.kp.1, a h.kp.2.1 rfl h.kp.2.2⟩
  · exact ⟨(q 32).trans h.ka.1, a h.ka.2.1 rfl h.ka.2.2⟩
  · exact ⟨(q 33).trans h.br.1, a h.br.2.1 rfl h.br.2.2⟩
  · exact ⟨(q 34).trans h.dt.1, a h.dt.2.1 rfl h.dt.2.2⟩
  · obtain ⟨d1, d2, d3⟩ := h.dr i hi
    exact ⟨by rw [(e _ (zk h.dt.2.1 rfl)).2.2.2.2]; exact d1, a d2 rfl d3⟩
theorem rT.ext {D : ZD} {S S1 : ZM} {L : Nat → Nat} (h : rT D S L) (hS : cS S L) (e : ext S S1) : rT D S1 L := by
  have et : tQ S1 (L 1) = tQ S (L 1) := (e _ (zk hS.t.2.1 rfl)).2.2.2.2
  intro i hi
  rw [et]
  refine ⟨(h i hi).1, fun hp => ?_⟩
  obtain ⟨a, ea, k1, k2, k3, k4, k5, k6, k7⟩ := (h i hi).2 hp
  obtain ⟨g1, g2, g3, -⟩ := e a (zk k1 rfl)
  exact ⟨a, ea, g1.trans k1, (g3 _).1.trans k2, (g3 _).1.trans k3, (g3 _).1.trans k4, (g3 _).1.trans k5, (g3 _).1.trans k6, (g3 _).1.trans k7⟩
theorem rG.ext {D : ZD} {lk : ZL} {S S1 : ZM} {L : Nat → Nat} (h : rG D lk S L) (hS : cS S L) (e : ext S S1) : rG D lk S1 L := by
  have et : tQ S1 (L 2) = tQ S (L 2) := (e _ (zk hS.g.2.1 rfl)).2.2.2.2
  refine ⟨by rw [et]; exact h.1, fun i hi => ?_⟩
  obtain ⟨a, nm, ea, h1, h2, h3, h4, h5, h6, h7, h8⟩ := h.2 i hi
  obtain ⟨g1, g2, g3, g4, g5⟩ := e a (zk h1 rfl)
  obtain ⟨n1, n2, n3, n4, n5⟩ := e nm (zk h4 rfl)
  exact ⟨a, nm, by rw [et]; exact ea, g1.trans h1, (g3 _).1.trans h2, (g3 _).2.1.trans h3, n1.trans h4, n2.trans h5, (g3 _).1.trans h6, fun j hj hl => by rw [n4]; exact h7 j hj hl, by rw [(g3 _).2.1, et]; exact h8⟩
theorem rR.ext {D : ZD} {as : Nat → Nat} {S S1 : ZM} {L : Nat → Nat} (h : rR D as S L) (hS : cS S L) (e : ext S S1) : rR D as S1 L := by
  have et : tQ S1 (L 3) = tQ S (L 3) := (e _ (zk hS.r.2.1 rfl)).2.2.2.2
  refine ⟨by rw [et]; exact h.1, fun i hi => ?_⟩
  obtain ⟨a, ea, h1, h2, h3, h4, h5, h6, h7, h8⟩ := h.2 i hi
  obtain ⟨g1, g2, g3, g4, g5⟩ := e a (zk h1 rfl)
  exact ⟨a, by rw [et]; exact ea, g1.trans h1, (g3 _).1.trans h2, (g3 _).1.trans h3, (g3 _).1.trans h4, fun q => by rw [(g3 _).2.1, et]; exact h5 q, fun q => by rw [(g3 _).2.1, et]; exact h6 q, (g3 _).1.trans h7, (g3 _).1.trans h8⟩
theorem rL.ext {D : ZD} {S S1 : ZM} {L : Nat → Nat} (h : rL D S L) (hS : cS S L) (e : ext S S1) : rL D S1 L := by
  have et : tQ S1 (L 4) = tQ S (L 4) := (e _ (zk hS.l.2.1 rfl)).2.2.2.2
  have er : tQ S1 (L 3) = tQ S (L 3) := (e _ (zk hS.r.2.1 rfl)).2.2.2.2
  refine ⟨by rw [et]; exact h.1, fun i hi => ?_⟩
  obtain ⟨a, r, ea, h1, h2, h3, h4, h5⟩ := h.2 i hi
  obtain ⟨g1, g2, g3, g4, g5⟩ := e a (zk h1 rfl)
  exact ⟨a, r, by rw [et]; exact ea, g1.trans h1, (g3 _).2.1.trans h2, by rw [er]; exact h3, (g3 _).1.trans h4, (g3 _).1.trans h5⟩
theorem cX.ext {D : ZD} {lk : ZL} {as : Nat → Nat} {S S1 : ZM} {L : Nat → Nat} (h : cX D lk as S L) (e : ext S S1) : cX D lk as S1 L := by
  obtain ⟨h1, h2, h3, h4, h5, h6, h7, h8, h9, h10⟩ := h
  exact ⟨h1.ext e, h2.ext h1 e, h3.ext h1 e, h4.ext h1 e, h5.ext h1 e, h6, ((e _ (zk h1.c rfl)).2.2.1 36).1.trans h7, h8, h9, h10⟩
theorem cR.ext {D : ZD} {J : Nat → Int64} {lk : ZL} {as : Nat → Nat} {S S1 : ZM} {L T : Nat → Nat} (h : cR D J lk as S L T) (e : ext S S1) : cR D J lk as S1 L T := by
  obtain ⟨hX, ⟨v1, v2, v3, v4, v5, v6⟩, hK, ⟨u1, u2, u3, u4, u5⟩, hQ⟩ := h
  have hS := hX.1
  obtain ⟨-, -, e0, -, -⟩ := e _ (zk hS.c rfl)
  have et : tQ S1 (L 2) = tQ S (L 2) := (e _ (zk hS.g.2.1 rfl)).2.2.2.2
  have el : tQ S1 (L 4) = tQ S (L 4) := (e _ (zk hS.l.2.1 rfl)).2.2.2.2
  have eg : ∀ k : Nat, glS D S1 L k = glS D S L k := fun k => by unfold glS; rw [et]
  have kg : ∀ i a : Nat, i < 16 → tQ S (L 2) i = some a → zkn (mK S a) = true := fun i a hi ha => zk (hX.2.2.1.k i a hi ha).1 rfl
  have h16 : dG D ≤ 16 := hX.2.2.2.2.2.1.1.2.1.2
  refine ⟨hX.ext e, ⟨(e0 _).1.trans v1, (e0 _).1.trans v2, (e0 _).1.trans v3, (e0 _).1.trans v4, (e0 _).1.trans v5, (e0 _).2.2.trans v6⟩, ⟨fun i hi => by rw [(e _ (zk hS.kp.2.1 rfl)).2.2.2.1]; exact hK.1 i hi, (e0 _).1.trans hK.2⟩, ⟨fun i a hi ha => ?_, u2, ⟨u3.1, ?_, ?_⟩, ?_, fun k hk => ?_⟩, hQ⟩
  · rw [et] at ha
    obtain ⟨w1, w2, w3⟩ := u1 i a hi ha
    obtain ⟨-, -, g3, -⟩ := e a (kg i a (by omega) ha)
    obtain ⟨g1, g2, -⟩ := e (T i) (zk w2 rfl)
    exact ⟨(g3 _).2.1.trans w1, g1.trans w2, g2.trans w3⟩
  · rw [el]; exact u3.2.1
  · intro g k a b hg hk ha hb hab
    rw [et] at ha hb
    rw [((e a (kg g a hg ha)).2.2.1 11).2.1, ((e b (kg k b hk hb)).2.2.1 11).2.1] at hab
    exact u3.2.2 g k a b hg hk ha hb hab
  · rw [(e0 _).2.1, eg]; exact u4
  · obtain ⟨w1, w2, w3⟩ := u5 k hk
    refine ⟨w1, fun a ha => ?_, fun t ht hp => ?_⟩
    · rw [et] at ha
      rw [((e a (kg _ a (by omega) ha)).2.2.1 15).2.1, eg]; exact w2 a ha
    · obtain ⟨a, nm, ea, -⟩ := hX.2.2.1.2 _ w1
      rw [(e _ (zk (u1 _ a w1 ea).2.1 rfl)).2.2.2.1]; exact w3 t ht hp
