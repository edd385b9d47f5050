/-! the class: what the lists hang on, rule by rule -/
/-- alike as far as the lists and the rules that are there go -/
def alk (D D1 : ZD) : Prop := (∀ k : Nat, 40 ≤ k → k ≤ 47 → D1 k = D k) ∧ D1 57 0 = D 57 0 ∧ (∀ r : Nat, r < dR D → D1 53 r = D 53 r ∧ D1 54 r = D 54 r ∧ D1 55 r = D 55 r) ∧ ∀ i : Nat, i < dL D → D1 58 i = D 58 i ∧ D1 59 i = D 59 i ∧ D1 60 i = D 60 i
theorem lsR_pw {D D1 : ZD} (h : alk D D1) (hR : wfR D) (h40 : dR D ≤ 40) : ∀ f r : Nat, r < dR D → lsR D1 f r = lsR D f r := by
  intro f
  induction f with
  | zero => intro r _; rfl
  | succ f ih =>
    intro r hr
    obtain ⟨e3, e4, e5⟩ := h.2.2.1 r hr
    have key : D 53 r = 6 ∨ D 53 r = 7 ∨ D 53 r = 8 → lsR D1 f (ix (D 54 r)) = lsR D f (ix (D 54 r)) ∧ lsR D1 f (ix (D 55 r)) = lsR D f (ix (D 55 r)) := by
      intro hk
      obtain ⟨a, b, ha, hb, q1, q2⟩ := (hR r hr).2.2.2 hk
      have l1 : ix (D 54 r) < r := by rw [q1, ix]; rw [nI_clamp (by omega)]; exact ha
      have l2 : ix (D 55 r) < r := by rw [q2, ix]; rw [nI_clamp (by omega)]; exact hb
      exact ⟨ih _ (by omega), ih _ (by omega)⟩
    simp only [lsR]
    rw [e3, e4, e5]
    by_cases h5 : D 53 r = 5
    · rw [if_pos h5, if_pos h5]
    · rw [if_neg h5, if_neg h5]
      by_cases h67 : D 53 r = 6 ∨ D 53 r = 7
      · have k := key (by rcases h67 with q | q <;> simp [q])
        rw [if_pos h67, if_pos h67, k.1, k.2]
      · rw [if_neg h67, if_neg h67]
        by_cases h8 : D 53 r = 8
        · rw [if_pos h8, if_pos h8, (key (Or.inr (Or.inr h8))).1]
        · rw [if_neg h8, if_neg h8]
theorem evR_pw {D D1 : ZD} (h : alk D D1) (hR : wfR D) (h40 : dR D ≤ 40) (K : Nat → Int32) (t : Nat) : ∀ f r : Nat, r < dR D → evR D1 K f r t = evR D K f r t := by
  intro f
  induction f with
  | zero => intro r _; rfl
  | succ f ih =>
    intro r hr
    obtain ⟨e3, e4, e5⟩ := h.2.2.1 r hr
    have a := h.1
    have key : D 53 r = 6 ∨ D 53 r = 7 ∨ D 53 r = 8 → evR D1 K f (ix (D 54 r)) t = evR D K f (ix (D 54 r)) t ∧ evR D1 K f (ix (D 55 r)) t = evR D K f (ix (D 55 r)) t := by
      intro hk
      obtain ⟨a, b, ha, hb, q1, q2⟩ := (hR r hr).2.2.2 hk
      have l1 : ix (D 54 r) < r := by rw [q1, ix]; rw [nI_clamp (by omega)]; exact ha
      have l2 : ix (D 55 r) < r := by rw [q2, ix]; rw [nI_clamp (by omega)]; exact hb
      exact ⟨ih _ (by omega), ih _ (by omega)⟩
    simp only [evR]
    rw [e3, e4, e5, a 40 (by decide) (by decide), a 42 (by decide) (by decide), a 43 (by decide) (by decide), a 44 (by decide) (by decide), a 45 (by decide) (by decide), a 46 (by decide) (by decide)]
    by_cases h0 : D 53 r = 0
    · rw [if_pos h0, if_pos h0]
    · rw [if_neg h0, if_neg h0]
      by_cases h1 : D 53 r = 1
      · rw [if_pos h1, if_pos h1]
      · rw [if_neg h1, if_neg h1]
        by_cases h2 : D 53 r = 2
        · rw [if_pos h2, if_pos h2]
        · rw [if_neg h2, if_neg h2]
          by_cases h3 : D 53 r = 3
          · rw [if_pos h3, if_pos h3]
          · rw [if_neg h3, if_neg h3]
            by_cases h4 : D 53 r = 4
            · rw [if_pos h4, if_pos h4]
            · rw [if_neg h4, if_neg h4]
              by_cases h5 : D 53 r = 5
              · rw [if_pos h5, if_pos h5]
              · rw [if_neg h5, if_neg h5]
                by_cases h6 : D 53 r = 6
                · rw [if_pos h6, if_pos h6, (key (Or.inl h6)).1, (key (Or.inl h6)).2]
                · rw [if_neg h6, if_neg h6]
                  by_cases h7 : D 53 r = 7
                  · rw [if_pos h7, if_pos h7, (key (Or.inr (Or.inl h7))).1, (key (Or.inr (Or.inl h7))).2]
                  · rw [if_neg h7, if_neg h7]
                    have h8 : D 53 r = 8 := by
                      obtain ⟨k, hk, ek⟩ := (hR r hr).1
                      rcases (show k = 0 ∨ k = 1 ∨ k = 2 ∨ k = 3 ∨ k = 4 ∨ k = 5 ∨ k = 6 ∨ k = 7 ∨ k = 8 by omega) with rfl | rfl | rfl | rfl | rfl | rfl | rfl | rfl | rfl
                      · exact absurd ek h0
                      · exact absurd ek h1
                      · exact absurd ek h2
                      · exact absurd ek h3
                      · exact absurd ek h4
                      · exact absurd ek h5
                      · exact absurd ek h6
                      · exact absurd ek h7
                      · exact ek
                    rw [(key (Or.inr (Or.inr h8))).1]
theorem alk.ll {D D1 : ZD} (h : alk D D1) : dL D1 = dL D := by unfold dL; rw [h.2.1]
theorem alk.pr {D D1 : ZD} (h : alk D D1) : prD D1 = prD D := prD_eq (h.1 41 (by decide) (by decide)) (h.1 47 (by decide) (by decide))
theorem alk.mt {D D1 : ZD} (h : alk D D1) (hR : wfR D) (h40 : dR D ≤ 40) (K : Nat → Int32) {r : Nat} (hr : r < dR D) : mtD D1 K r = mtD D K r := by
  unfold mtD
  refine sF_cong (fun t _ => ?_)
  rw [h.pr]
  show (prD D t && evR D1 K 41 r t) = (prD D t && evR D K 41 r t)
  rw [evR_pw h hR h40 K t 41 r hr]
theorem alk.ch {D D1 : ZD} (h : alk D D1) (hR : wfR D) (h40 : dR D ≤ 40) (hO : wfO D) (K : Nat → Int32) {i : Nat} (hi : i < dL D) : chD D1 K i = chD D K i := by
  obtain ⟨q, hq, e⟩ := hO i hi
  obtain ⟨e8, e9, e0⟩ := h.2.2.2 i hi
  have e2 : ix (D 58 i) < dR D := by rw [e, ix, nI_clamp (by omega)]; exact hq
  have a := h.1
  have hpl : plD D1 = plD D := by funext o j; simp only [plD, a 42 (by decide) (by decide), a 43 (by decide) (by decide), a 44 (by decide) (by decide)]
  simp only [chD, tkO]
  rw [e8, e9, e0, h.mt hR h40 K e2, h.pr, hpl, a 42 (by decide) (by decide)]
theorem alk.fn {D D1 : ZD} (h : alk D D1) (hR : wfR D) (h40 : dR D ≤ 40) (hO : wfO D) : ∀ n i : Nat, fixN D1 n i = fixN D n i := by
  intro n
  induction n with
  | zero => intro i; rfl
  | succ n ih =>
    intro i
    simp only [fixN, h.ll]
    by_cases hi : i < dL D
    · rw [if_pos hi, if_pos hi, show fixN D1 n = fixN D n from funext ih]; exact h.ch hR h40 hO _ hi
    · rw [if_neg hi, if_neg hi]
theorem alk.fix {D D1 : ZD} (h : alk D D1) (hR : wfR D) (h40 : dR D ≤ 40) (hO : wfO D) : fixD D1 = fixD D := funext (h.fn hR h40 hO 8)
theorem alk.ac {D D1 : ZD} (h : alk D D1) (hR : wfR D) (h40 : dR D ≤ 40) (hO : wfO D) (hA : acD D) : acD D1 := by
  obtain ⟨rk, h1, h2⟩ := hA
  refine ⟨rk, by rw [h.ll]; exact h1, fun i j hi hj hb => ?_⟩
  rw [h.ll] at hi ⊢
  obtain ⟨q, hq, e⟩ := hO i hi
  have e2 : ix (D 58 i) < dR D := by rw [e, ix, nI_clamp (by omega)]; exact hq
  rw [(h.2.2.2 i hi).1] at hb
  rw [show lsD D1 (ix (D 58 i)) = lsD D (ix (D 58 i)) from lsR_pw h hR h40 41 _ e2] at hb
  exact h2 i j hi hj hb
