/-! what a rule says, by its kind -/
theorem ev_sub {D : ZD} {K : Nat → Int32} (hR : wfR D) (hn : dR D ≤ 40) {r : Nat} (hr : r < dR D) (t : Nat) : evR D K 40 r t = ev D K r t := evR_stable hR hn 40 41 r t hr (by omega) (by omega)
theorem ev_two {D : ZD} {K : Nat → Int32} (hR : wfR D) (hn : dR D ≤ 40) {r a b : Nat} (hr : r < dR D) (ha : a < r) (hb : b < r) (e1 : D 54 r = nI a) (e2 : D 55 r = nI b) (t : Nat) : evR D K 40 (ix (D 54 r)) t = ev D K a t ∧ evR D K 40 (ix (D 55 r)) t = ev D K b t := by
  rw [e1, e2, ix, ix, nI_clamp (by omega), nI_clamp (by omega)]
  exact ⟨ev_sub hR hn (by omega) t, ev_sub hR hn (by omega) t⟩
theorem ev_0 {D : ZD} {K : Nat → Int32} {r t : Nat} (h : D 53 r = 0) : ev D K r t = hasB (D 46 t) (D 54 r) := by rw [ev, evR, if_pos h]
theorem ev_5 {D : ZD} {K : Nat → Int32} {r t : Nat} (h : D 53 r = 5) : ev D K r t = hasB (K (ix (D 54 r))) (nI t) := by
  have e : ∀ x : Int32, x = 5 → ¬ x = 0 ∧ ¬ x = 1 ∧ ¬ x = 2 ∧ ¬ x = 3 ∧ ¬ x = 4 := by rintro x rfl; decide
  obtain ⟨h0, h1, h2, h3, h4⟩ := e _ h
  rw [ev, evR, if_neg h0, if_neg h1, if_neg h2, if_neg h3, if_neg h4, if_pos h]
theorem ev_6 {D : ZD} {K : Nat → Int32} {r t : Nat} (h : D 53 r = 6) : ev D K r t = (evR D K 40 (ix (D 54 r)) t && evR D K 40 (ix (D 55 r)) t) := by
  have e : ∀ x : Int32, x = 6 → ¬ x = 0 ∧ ¬ x = 1 ∧ ¬ x = 2 ∧ ¬ x = 3 ∧ ¬ x = 4 ∧ ¬ x = 5 := by rintro x rfl; decide
  obtain ⟨h0, h1, h2, h3, h4, h5⟩ := e _ h
  rw [ev, evR, if_neg h0, if_neg h1, if_neg h2, if_neg h3, if_neg h4, if_neg h5, if_pos h]
theorem ev_7 {D : ZD} {K : Nat → Int32} {r t : Nat} (h : D 53 r = 7) : ev D K r t = (evR D K 40 (ix (D 54 r)) t || evR D K 40 (ix (D 55 r)) t) := by
  have e : ∀ x : Int32, x = 7 → ¬ x = 0 ∧ ¬ x = 1 ∧ ¬ x = 2 ∧ ¬ x = 3 ∧ ¬ x = 4 ∧ ¬ x = 5 ∧ ¬ x = 6 := by rintro x rfl; decide
  obtain ⟨h0, h1, h2, h3, h4, h5, h6⟩ := e _ h
  rw [ev, evR, if_neg h0, if_neg h1, if_neg h2, if_neg h3, if_neg h4, if_neg h5, if_neg h6, if_pos h]
theorem ev_8 {D : ZD} {K : Nat → Int32} {r t : Nat} (h : D 53 r = 8) : ev D K r t = !evR D K 40 (ix (D 54 r)) t := by
  have e : ∀ x : Int32, x = 8 → ¬ x = 0 ∧ ¬ x = 1 ∧ ¬ x = 2 ∧ ¬ x = 3 ∧ ¬ x = 4 ∧ ¬ x = 5 ∧ ¬ x = 6 ∧ ¬ x = 7 := by rintro x rfl; decide
  obtain ⟨h0, h1, h2, h3, h4, h5, h6, h7⟩ := e _ h
  rw [ev, evR, if_neg h0, if_neg h1, if_neg h2, if_neg h3, if_neg h4, if_neg h5, if_neg h6, if_neg h7]
/-- the rules about numbers -/
theorem ev_num {D : ZD} {K : Nat → Int32} {r t : Nat} {S : ZM} {L : Nat → Nat} {a : Nat} (h : D 53 r = 1 ∨ D 53 r = 2 ∨ D 53 r = 3 ∨ D 53 r = 4) (hd : mI S 36 (L 0) = D 40 0) (h17 : mI S 17 a = D 42 t) (h18 : mI S 18 a = D 43 t) (h19 : mI S 19 a = D 44 t) (h20 : mI S 20 a = lastD D t) (hp : 0 ≤ D 44 t) (hl : ¬ D 45 t = -1) : mnS S L (D 53 r) (D 54 r) a = ev D K r t := by
  rw [ev, evR]
  simp only [mnS]
  rw [h17, h18, h19, h20, hd]
  rcases h with h | h | h | h <;> rw [h]
  · simp only [if_neg (show ¬ (1 : Int32) = 0 by decide), if_pos (show (1 : Int32) = 1 from rfl), if_true]
  · simp only [if_neg (show ¬ (2 : Int32) = 0 by decide), if_neg (show ¬ (2 : Int32) = 1 by decide), if_pos (show (2 : Int32) = 2 from rfl), if_true]
  · simp only [if_neg (show ¬ (3 : Int32) = 0 by decide), if_neg (show ¬ (3 : Int32) = 1 by decide), if_neg (show ¬ (3 : Int32) = 2 by decide), if_pos (show (3 : Int32) = 3 from rfl), if_true]
  · simp only [if_neg (show ¬ (4 : Int32) = 0 by decide), if_neg (show ¬ (4 : Int32) = 1 by decide), if_neg (show ¬ (4 : Int32) = 2 by decide), if_neg (show ¬ (4 : Int32) = 3 by decide), if_pos (show (4 : Int32) = 4 from rfl), if_true]
    by_cases h0 : D 44 t = 0
    · have e : ¬ (0 : Int32) < D 44 t := by rw [h0]; decide
      simp [lastD, h0]
    · have e : (0 : Int32) < D 44 t := by
        rcases Int32.lt_or_eq_of_le hp with q | q
        · exact q
        · exact absurd q.symm h0
      simp [lastD, h0, e, hl]
/-- what the rule's own lists are -/
theorem lsR_stable {D : ZD} (hR : wfR D) (hn : dR D ≤ 40) : ∀ (f f' r : Nat), r < dR D → r < f → r < f' → lsR D f r = lsR D f' r
  | 0, _, r, _, h, _ => absurd h (Nat.not_lt_zero r)
  | _ + 1, 0, r, _, _, h => absurd h (Nat.not_lt_zero r)
  | f + 1, f' + 1, r, hr, h1, h2 => by
    have key : D 53 r = 6 ∨ D 53 r = 7 ∨ D 53 r = 8 → lsR D f (ix (D 54 r)) = lsR D f' (ix (D 54 r)) ∧ lsR D f (ix (D 55 r)) = lsR D f' (ix (D 55 r)) := by
      intro h
      obtain ⟨a, b, ha, hb, e1, e2⟩ := (hR r hr).2.2.2 h
      have l1 : ix (D 54 r) < r := by rw [e1, ix]; rw [nI_clamp (by omega)]; exact ha
      have l2 : ix (D 55 r) < r := by rw [e2, ix]; rw [nI_clamp (by omega)]; exact hb
      exact ⟨lsR_stable hR hn f f' _ (by omega) (by omega) (by omega), lsR_stable hR hn f f' _ (by omega) (by omega) (by omega)⟩
    simp only [lsR]
    by_cases h67 : D 53 r = 6 ∨ D 53 r = 7
    · have k := key (by rcases h67 with h | h <;> simp [h])
      rw [k.1, k.2]
    · rw [if_neg h67, if_neg h67]
      by_cases h8 : D 53 r = 8
      · rw [(key (Or.inr (Or.inr h8))).1]
      · rw [if_neg h8, if_neg h8]
theorem ls_sub {D : ZD} (hR : wfR D) (hn : dR D ≤ 40) {r : Nat} (hr : r < dR D) : lsR D 40 r = lsD D r := lsR_stable hR hn 40 41 r hr (by omega) (by omega)
theorem ls_two {D : ZD} (hR : wfR D) (hn : dR D ≤ 40) {r a b : Nat} (hr : r < dR D) (ha : a < r) (hb : b < r) (e1 : D 54 r = nI a) (e2 : D 55 r = nI b) : lsR D 40 (ix (D 54 r)) = lsD D a ∧ lsR D 40 (ix (D 55 r)) = lsD D b := by
  rw [e1, e2, ix, ix, nI_clamp (by omega), nI_clamp (by omega)]
  exact ⟨ls_sub hR hn (by omega), ls_sub hR hn (by omega)⟩
theorem ls_5 {D : ZD} {r l : Nat} (h : D 53 r = 5) (e : D 54 r = nI l) : lsD D r = bitI l := by rw [lsD, lsR, if_pos h, e]; rfl
theorem ls_67 {D : ZD} {r : Nat} (h : D 53 r = 6 ∨ D 53 r = 7) : lsD D r = lsR D 40 (ix (D 54 r)) ||| lsR D 40 (ix (D 55 r)) := by
  have e : ∀ x : Int32, x = 6 ∨ x = 7 → ¬ x = 5 := by rintro x (rfl | rfl) <;> decide
  rw [lsD, lsR, if_neg (e _ h), if_pos h]
theorem ls_8 {D : ZD} {r : Nat} (h : D 53 r = 8) : lsD D r = lsR D 40 (ix (D 54 r)) := by
  have e : ∀ x : Int32, x = 8 → ¬ x = 5 ∧ ¬ (x = 6 ∨ x = 7) := by rintro x rfl; decide
  rw [lsD, lsR, if_neg (e _ h).1, if_neg (e _ h).2, if_pos h]
theorem mt_and {p q r : Nat → Bool} {D : ZD} (h : ∀ t, t < 24 → p t = (q t && r t)) : sF (fun t => prD D t && p t) 24 = sF (fun t => prD D t && q t) 24 &&& sF (fun t => prD D t && r t) 24 := by
  refine hasB_ext fun i hi => ?_
  rw [hasB_and hi, hasB_sF hi (by omega), hasB_sF hi (by omega), hasB_sF hi (by omega)]
  by_cases hlt : i < 24
  · simp only [hlt, decide_true, Bool.true_and, h i hlt]; cases prD D i <;> cases q i <;> cases r i <;> rfl
  · simp [hlt]
theorem mt_or {p q r : Nat → Bool} {D : ZD} (h : ∀ t, t < 24 → p t = (q t || r t)) : sF (fun t => prD D t && p t) 24 = sF (fun t => prD D t && q t) 24 ||| sF (fun t => prD D t && r t) 24 := by
  refine hasB_ext fun i hi => ?_
  rw [hasB_or hi, hasB_sF hi (by omega), hasB_sF hi (by omega), hasB_sF hi (by omega)]
  by_cases hlt : i < 24
  · simp only [hlt, decide_true, Bool.true_and, h i hlt]; cases prD D i <;> cases q i <;> cases r i <;> rfl
  · simp [hlt]
theorem mt_not {p q : Nat → Bool} {D : ZD} (h : ∀ t, t < 24 → p t = !q t) : sF (fun t => prD D t && p t) 24 = sF (fun t => prD D t && true) 24 &&& (sF (fun t => prD D t && q t) 24 ^^^ (-1)) := by
  refine hasB_ext fun i hi => ?_
  rw [hasB_and hi, hasB_not hi, hasB_sF hi (by omega), hasB_sF hi (by omega), hasB_sF hi (by omega)]
  by_cases hlt : i < 24
  · simp only [hlt, decide_true, Bool.true_and, h i hlt]; cases prD D i <;> cases q i <;> rfl
  · simp [hlt]
/-- a set of tracks that are there -/
def subD (D : ZD) (s : Int32) : Prop := ∀ i : Nat, i < 32 → hasB s (nI i) = true → i < 24 ∧ prD D i = true
theorem subD.eq {D : ZD} {s : Int32} (h : subD D s) : sF (fun t => prD D t && hasB s (nI t)) 24 = s := by
  refine hasB_ext fun i hi => ?_
  rw [hasB_sF hi (by omega)]
  cases hb : hasB s (nI i) with
  | false => simp
  | true => obtain ⟨h1, h2⟩ := h i hi hb; simp [h1, h2]
theorem subD_sF (D : ZD) (p : Nat → Bool) : subD D (sF (fun t => prD D t && p t) 24) := by
  intro i hi h
  rw [hasB_sF hi (by omega)] at h
  simp only [Bool.and_eq_true, decide_eq_true_eq] at h
  exact ⟨h.1, h.2.1⟩
theorem subD_mt (D : ZD) (K : Nat → Int32) (r : Nat) : subD D (mtD D K r) := subD_sF D _
