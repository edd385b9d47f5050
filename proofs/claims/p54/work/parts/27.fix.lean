/-! what every list has: the one answer of the rules' circle-free round -/
def acD (D : ZD) : Prop := ∃ rk : Nat → Nat, (∀ l : Nat, l < dL D → rk l < 8) ∧ ∀ l l2 : Nat, l < dL D → l2 < 8 → hasB (lsD D (ix (D 58 l))) (nI l2) = true → l2 < dL D ∧ rk l2 < rk l
theorem evR_cong {D : ZD} {K K' : Nat → Int32} (hR : wfR D) (hL : dL D ≤ 8) (hn : dR D ≤ 40) : ∀ (f r t : Nat), r < dR D → r < f → (∀ l : Nat, l < 8 → hasB (lsR D f r) (nI l) = true → K l = K' l) → evR D K f r t = evR D K' f r t
  | 0, r, _, _, h, _ => absurd h (Nat.not_lt_zero r)
  | f + 1, r, t, hr, hrf, hk => by
    have two : D 53 r = 6 ∨ D 53 r = 7 ∨ D 53 r = 8 → ∃ a b : Nat, a < r ∧ b < r ∧ ix (D 54 r) = a ∧ ix (D 55 r) = b := by
      intro h
      obtain ⟨a, b, ha, hb, e1, e2⟩ := (hR r hr).2.2.2 h
      exact ⟨a, b, ha, hb, by rw [e1, ix, nI_clamp (by omega)], by rw [e2, ix, nI_clamp (by omega)]⟩
    have n67 : ∀ x : Int32, x = 6 ∨ x = 7 → ¬ x = 5 := by rintro x (rfl | rfl) <;> decide
    have n8 : ∀ x : Int32, x = 8 → ¬ x = 5 ∧ ¬ (x = 6 ∨ x = 7) := by rintro x rfl; decide
    rw [evR, evR]
    by_cases h0 : D 53 r = 0
    · rw [if_pos h0, if_pos h0]
    rw [if_neg h0, if_neg h0]
    by_cases h1 : D 53 r = 1
    · rw [if_pos h1, if_pos h1]
    rw [if_neg h1, if_neg h1]
    by_cases h2 : D 53 r = 2
    · rw [if_pos h2, if_pos h2]
    rw [if_neg h2, if_neg h2]
    by_cases h3 : D 53 r = 3
    · rw [if_pos h3, if_pos h3]
    rw [if_neg h3, if_neg h3]
    by_cases h4 : D 53 r = 4
    · rw [if_pos h4, if_pos h4]
    rw [if_neg h4, if_neg h4]
    by_cases h5 : D 53 r = 5
    · rw [if_pos h5, if_pos h5]
      obtain ⟨l, hl, el⟩ := (hR r hr).2.2.1 h5
      have e : ix (D 54 r) = l := by rw [el, ix, nI_clamp (by omega)]
      rw [e, hk l (by omega) (by rw [lsR, if_pos h5, el]; show hasB (bitI l) (nI l) = true; rw [hasB_bit (by omega) (by omega)]; simp)]
    rw [if_neg h5, if_neg h5]
    by_cases h6 : D 53 r = 6
    · rw [if_pos h6, if_pos h6]
      obtain ⟨a, b, ha, hb, ea, eb⟩ := two (Or.inl h6)
      rw [lsR, if_neg h5, if_pos (Or.inl h6), ea, eb] at hk
      rw [ea, eb, evR_cong hR hL hn f a t (by omega) (by omega) (fun l hl q => hk l hl (by rw [hasB_or (by omega), q]; rfl)), evR_cong hR hL hn f b t (by omega) (by omega) (fun l hl q => hk l hl (by rw [hasB_or (by omega), q, Bool.or_true]))]
    rw [if_neg h6, if_neg h6]
    by_cases h7 : D 53 r = 7
    · rw [if_pos h7, if_pos h7]
      obtain ⟨a, b, ha, hb, ea, eb⟩ := two (Or.inr (Or.inl h7))
      rw [lsR, if_neg h5, if_pos (Or.inr h7), ea, eb] at hk
      rw [ea, eb, evR_cong hR hL hn f a t (by omega) (by omega) (fun l hl q => hk l hl (by rw [hasB_or (by omega), q]; rfl)), evR_cong hR hL hn f b t (by omega) (by omega) (fun l hl q => hk l hl (by rw [hasB_or (by omega), q, Bool.or_true]))]
    rw [if_neg h7, if_neg h7]
    have h8 : D 53 r = 8 := by
      obtain ⟨k, hk, ek⟩ := (hR r hr).1
      rcases (show k = 0 ∨ k = 1 ∨ k = 2 ∨ k = 3 ∨ k = 4 ∨ k = 5 ∨ k = 6 ∨ k = 7 ∨ k = 8 by omega) with rfl | rfl | rfl | rfl | rfl | rfl | rfl | rfl | rfl <;> first | (exact absurd ek h0) | (exact absurd ek h1) | (exact absurd ek h2) | (exact absurd ek h3) | (exact absurd ek h4) | (exact absurd ek h5) | (exact absurd ek h6) | (exact absurd ek h7) | exact ek
    obtain ⟨a, b, ha, hb, ea, eb⟩ := two (Or.inr (Or.inr h8))
    rw [lsR, if_neg h5, if_neg (n8 _ h8).2, if_pos h8, ea] at hk
    rw [ea, evR_cong hR hL hn f a t (by omega) (by omega) hk]
theorem mtD_cong {D : ZD} {K K' : Nat → Int32} (hR : wfR D) (hL : dL D ≤ 8) (hn : dR D ≤ 40) {r : Nat} (hr : r < dR D) (hk : ∀ l : Nat, l < 8 → hasB (lsD D r) (nI l) = true → K l = K' l) : mtD D K r = mtD D K' r :=
  sF_cong fun t _ => by rw [ev, ev, evR_cong hR hL hn 41 r t hr (by omega) hk]
/-- what stays as it is while lists are filled -/
def wfO (D : ZD) : Prop := ∀ l : Nat, l < dL D → ∃ r : Nat, r < dR D ∧ D 58 l = nI r
theorem wfO.lt {D : ZD} (h : wfO D) (hn : dR D ≤ 40) {l : Nat} (hl : l < dL D) : ix (D 58 l) < dR D := by
  obtain ⟨r, hr, e⟩ := h l hl
  rw [e, ix, nI_clamp (by omega)]; exact hr
theorem chD_cong {D : ZD} {K K' : Nat → Int32} (hR : wfR D) (hL : dL D ≤ 8) (hn : dR D ≤ 40) (hO : wfO D) {l : Nat} (hl : l < dL D) (hk : ∀ l2 : Nat, l2 < 8 → hasB (lsD D (ix (D 58 l))) (nI l2) = true → K l2 = K' l2) : chD D K l = chD D K' l := by
  simp only [chD, tkO]
  rw [mtD_cong hR hL hn (hO.lt hn hl) hk]
theorem tkL_sub {D : ZD} : ∀ {tk : Int32} {js : List Nat}, subD D tk → (∀ j ∈ js, j < 24 ∧ prD D j = true) → subD D (tkL tk js)
  | _, [], h, _ => h
  | tk, j :: js, h, hj => by
    refine tkL_sub (js := js) (fun i hi hb => ?_) (fun k hk => hj k (List.mem_cons_of_mem _ hk))
    rw [hasB_or hi, Bool.or_eq_true] at hb
    rcases hb with hb | hb
    · exact h i hi hb
    · have hj0 := hj j List.mem_cons_self
      rw [hasB_bit (by omega) hi] at hb
      have := of_decide_eq_true hb
      subst this; exact hj0
theorem chL_in {pr : Nat → Bool} {pl len : Nat → Int32} {lim : Int32} : ∀ {f : Nat} {left s : Int32} {j : Nat}, j ∈ chL pr pl len lim f left s → j < 24 ∧ pr j = true ∧ hasB left (nI j) = true
  | 0, _, _, _, h => by cases h
  | f + 1, left, s, j, h => by
    cases hf : fF pr pl left 24 with
    | none => rw [chL_none hf] at h; cases h
    | some i =>
      have hi := fF_lt hf
      by_cases hc : lim = 0 ∨ s + len i ≤ lim
      · rw [chL_yes hf hc] at h
        rcases List.mem_cons.mp h with rfl | h
        · exact ⟨hi.1, hi.2.1, hi.2.2⟩
        · have := chL_in h
          rw [hasB_out (by omega) (by omega), Bool.and_eq_true] at this
          exact ⟨this.1, this.2.1, this.2.2.1⟩
      · rw [chL_no hf hc] at h
        have := chL_in h
        rw [hasB_out (by omega) (by omega), Bool.and_eq_true] at this
        exact ⟨this.1, this.2.1, this.2.2.1⟩
theorem subD_0 (D : ZD) : subD D 0 := fun i hi h => by rw [hasB_0 hi] at h; cases h
theorem subD_ch (D : ZD) (K : Nat → Int32) (l : Nat) : subD D (chD D K l) := tkL_sub (subD_0 D) (fun _ hj => ⟨(chL_in hj).1, (chL_in hj).2.1⟩)
theorem subD_fixN (D : ZD) : ∀ (n l : Nat), subD D (fixN D n l)
  | 0, _ => subD_0 D
  | n + 1, l => by simp only [fixN]; split; exact subD_ch D _ l; exact subD_0 D
theorem subD_fix (D : ZD) (l : Nat) : subD D (fixD D l) := subD_fixN D 8 l
theorem fixN_stable {D : ZD} (hR : wfR D) (hL : dL D ≤ 8) (hn : dR D ≤ 40) (hO : wfO D) {rk : Nat → Nat} (hA : ∀ l l2 : Nat, l < dL D → l2 < 8 → hasB (lsD D (ix (D 58 l))) (nI l2) = true → l2 < dL D ∧ rk l2 < rk l) : ∀ (n m l : Nat), l < dL D → rk l < n → rk l < m → fixN D n l = fixN D m l
  | 0, _, l, _, h, _ => absurd h (Nat.not_lt_zero _)
  | _ + 1, 0, l, _, _, h => absurd h (Nat.not_lt_zero _)
  | n + 1, m + 1, l, hl, h1, h2 => by
    simp only [fixN, if_pos hl]
    refine chD_cong hR hL hn hO hl (fun l2 h8 hb => ?_)
    obtain ⟨h3, h4⟩ := hA l l2 hl h8 hb
    exact fixN_stable hR hL hn hO hA n m l2 h3 (by omega) (by omega)
theorem fixD_eq {D : ZD} (hR : wfR D) (hL : dL D ≤ 8) (hn : dR D ≤ 40) (hO : wfO D) (hA : acD D) {l : Nat} (hl : l < dL D) : fixD D l = chD D (fixD D) l := by
  obtain ⟨rk, h8, hA⟩ := hA
  have e : fixD D l = fixN D 9 l := fixN_stable hR hL hn hO hA 8 9 l hl (h8 l hl) (by have := h8 l hl; omega)
  rw [e]
  simp only [fixN, if_pos hl]
  rfl
/-- no other row is its own answer -/
theorem fixD_one {D : ZD} (hR : wfR D) (hL : dL D ≤ 8) (hn : dR D ≤ 40) (hO : wfO D) (hA : acD D) {K : Nat → Int32} (hK : ∀ l : Nat, l < dL D → K l = chD D K l) : ∀ l : Nat, l < dL D → K l = fixD D l := by
  have hA0 := hA
  obtain ⟨rk, h8, hA⟩ := hA
  have key : ∀ n l : Nat, rk l < n → l < dL D → K l = fixD D l := by
    intro n
    induction n with
    | zero => intro l h; exact absurd h (Nat.not_lt_zero _)
    | succ n ih =>
      intro l h hl
      rw [hK l hl, fixD_eq hR hL hn hO hA0 hl]
      refine chD_cong hR hL hn hO hl (fun l2 hl2 hb => ?_)
      obtain ⟨h3, h4⟩ := hA l l2 hl hl2 hb
      exact ih l2 (by omega) h3
  exact fun l hl => key (rk l + 1) l (by omega) hl
/-- the class's memory and the library's numbers, but for the kept row, the scalars and what undoing needs -/
def cX (D : ZD) (lk : ZL) (as : Nat → Nat) (S : ZM) (L : Nat → Nat) : Prop := cS S L ∧ rT D S L ∧ rG D lk S L ∧ rR D as S L ∧ rL D S L ∧ wfA D lk as ∧ mI S 36 (L 0) = D 40 0 ∧ (∀ t : Nat, 0 ≤ D 44 t ∧ ¬ D 45 t = -1) ∧ wfO D ∧ acD D
theorem rG_eR {D : ZD} {lk : ZL} {S : ZM} {L : Nat → Nat} {a : Nat} {f : Nat → Int32} (h : rG D lk S L) (ha : mK S a = 10) : rG D lk (eR S a f) L := by
  refine ⟨h.1, fun i hi => ?_⟩
  obtain ⟨b, nm, h1, h2, h3, h4, h5, h6, h7, h8, h9⟩ := h.2 i hi
  refine ⟨b, nm, h1, h2, h3, h4, h5, h6, h7, fun j hj hlt => ?_, h9⟩
  have hne : nm ≠ a := by rintro rfl; rw [ha] at h5; cases h5
  show up1 S.2.2.2.2.2.1 a f nm j = _
  rw [up1_ne hne]; exact h8 j hj hlt
theorem cX.eR {D : ZD} {lk : ZL} {as : Nat → Nat} {S : ZM} {L : Nat → Nat} (h : cX D lk as S L) {a : Nat} (ha : mK S a = 10) (f : Nat → Int32) : cX D lk as (eR S a f) L := by
  obtain ⟨h1, h2, h3, h4, h5, h6, h7, h8, h9, h10⟩ := h
  exact ⟨h1, h2, rG_eR h3 ha, h4, h5, h6, h7, h8, h9, h10⟩
theorem eR_self (S : ZM) (a : Nat) : S = eR S a (tI S a) := by
  have : up1 S.2.2.2.2.2.1 a (tI S a) = S.2.2.2.2.2.1 := by funext b; by_cases h : b = a; (subst h; exact up1_self); exact up1_ne h
  show S = (S.1, S.2.1, S.2.2.1, S.2.2.2.1, S.2.2.2.2.1, up1 S.2.2.2.2.2.1 a (tI S a), S.2.2.2.2.2.2)
  rw [this]
