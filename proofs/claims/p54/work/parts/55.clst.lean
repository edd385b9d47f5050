/-! the class: a list more -/
theorem cnF_lt {p : Nat → Bool} {t : Nat} (hp : p t = false) : ∀ n : Nat, t < n → cnF p n < n := by
  intro n
  induction n with
  | zero => intro h; exact absurd h (Nat.not_lt_zero t)
  | succ n ih =>
    intro h
    simp only [cnF]
    by_cases e : t = n
    · subst e; rw [hp]; have := cnF_le p t; simp only [Bool.false_eq_true, if_false]; omega
    · have := ih (by omega)
      split <;> omega
theorem cnF_mono {p q : Nat → Bool} (hpq : ∀ i : Nat, p i = true → q i = true) {t : Nat} (hp : p t = false) (hq : q t = true) : ∀ n : Nat, cnF p n ≤ cnF q n ∧ (t < n → cnF p n < cnF q n) := by
  intro n
  induction n with
  | zero => exact ⟨Nat.le_refl _, fun h => absurd h (Nat.not_lt_zero t)⟩
  | succ n ih =>
    obtain ⟨i1, i2⟩ := ih
    simp only [cnF]
    by_cases e : t = n
    · subst e
      rw [hp, hq]; simp only [Bool.false_eq_true, if_false, if_true]
      exact ⟨by omega, fun _ => by omega⟩
    · have hpn := hpq n
      cases hp' : p n with
      | false =>
        simp only [Bool.false_eq_true, if_false]
        refine ⟨?_, fun h => ?_⟩
        · split <;> omega
        · have := i2 (by omega)
          split <;> omega
      | true =>
        rw [hpn hp']; simp only [if_true]
        exact ⟨by omega, fun h => by have := i2 (by omega); omega⟩
/-- ranks below the number of lists -/
theorem rk_norm {D : ZD} {rk : Nat → Nat} (h2 : ∀ i j : Nat, i < dL D → j < 8 → hasB (lsD D (ix (D 58 i))) (nI j) = true → j < dL D ∧ rk j < rk i) : ∃ rk : Nat → Nat, (∀ i : Nat, i < dL D → rk i < dL D) ∧ ∀ i j : Nat, i < dL D → j < 8 → hasB (lsD D (ix (D 58 i))) (nI j) = true → j < dL D ∧ rk j < rk i := by
  refine ⟨fun i => cnF (fun x => decide (rk x < rk i)) (dL D), fun i hi => cnF_lt (t := i) (decide_eq_false (Nat.lt_irrefl _)) _ hi, fun i j hi hj hb => ?_⟩
  obtain ⟨k1, k2⟩ := h2 i j hi hj hb
  refine ⟨k1, (cnF_mono (p := fun x => decide (rk x < rk j)) (q := fun x => decide (rk x < rk i)) (t := j) (fun x hx => ?_) (decide_eq_false (Nat.lt_irrefl _)) (decide_eq_true k2) (dL D)).2 k1⟩
  exact decide_eq_true (Nat.lt_trans (of_decide_eq_true hx) k2)
theorem acD.norm {D : ZD} (h : acD D) : ∃ rk : Nat → Nat, (∀ i : Nat, i < dL D → rk i < dL D) ∧ ∀ i j : Nat, i < dL D → j < 8 → hasB (lsD D (ix (D 58 i))) (nI j) = true → j < dL D ∧ rk j < rk i := by
  obtain ⟨rk, -, h2⟩ := h
  exact rk_norm h2
/-- the state behind a list more, and behind fillKept() -/
def opLst (D : ZD) (x o y : Int32) : ZD := dS (dS (dS (dS D 58 (up1 (D 58) (dL D) x)) 59 (up1 (D 59) (dL D) o)) 60 (up1 (D 60) (dL D) y)) 57 (up1 (D 57) 0 (D 57 0 + 1))
def fllD (D : ZD) : ZD := dS D 61 (fKd D (D 61))
theorem acD_lst {D D1 : ZD} (h : acD D) (hR : wfR D) (h8 : dL D < 8) (h40 : dR D ≤ 40) (h53 : D1 53 = D 53) (h54 : D1 54 = D 54) (h55 : D1 55 = D 55) (hL : dL D1 = dL D + 1) {r : Nat} (hr : r < dR D) (hn : D1 58 (dL D) = nI r) (ho : ∀ i : Nat, i < dL D → D1 58 i = D 58 i) : acD D1 := by
  obtain ⟨rk, h1, h2⟩ := h.norm
  refine ⟨fun i => if i = dL D then dL D else rk i, fun i hi => ?_, fun i j hi hj hb => ?_⟩
  · rw [hL] at hi
    by_cases e : i = dL D
    · simp only [if_pos e]; omega
    · simp only [if_neg e]; have := h1 i (by omega); omega
  · rw [hL] at hi ⊢
    rw [lsD_eq h53 h54 h55] at hb
    by_cases e : i = dL D
    · subst e
      rw [hn, ix, nI_clamp (by omega)] at hb
      have hjd : j < dL D := lsR_8 hR (by omega) h40 41 r hr j (by omega) hb
      simp only [if_true, if_neg (show ¬ j = dL D by omega)]
      exact ⟨by omega, h1 j hjd⟩
    · rw [ho i (by omega)] at hb
      obtain ⟨k1, k2⟩ := h2 i j (by omega) hj hb
      simp only [if_neg e, if_neg (show ¬ j = dL D by omega)]
      exact ⟨by omega, k2⟩
/-- behind fillKept() all is kept -/
theorem cR.fll {D : ZD} {J : Nat → Int64} {lk : ZL} {as : Nat → Nat} {S : ZM} {L T : Nat → Nat} (h : cX D lk as S L) (hV : cV D S L) (hK : ∀ l : Nat, l < 8 → tI S (L 5) l = D 61 l) (h38 : mI S 38 (L 0) = D 66 0) (h0 : ∀ l : Nat, l < 8 → dL D ≤ l → D 61 l = 0) (hU : cU D S L T) (hQ : wfQ D J lk as) : cR (fllD D) J lk as (eR S (L 5) (fKd D (tI S (L 5)))) L T := by
  have e : core (fllD D) = core D := core_dS (by decide)
  refine ⟨(h.eR (a := L 5) h.1.kp.2.1 _).core e, ⟨hV.1, by rw [prD_of e]; exact hV.2.1, hV.2.2.1, hV.2.2.2.1, hV.2.2.2.2.1, by rw [scF_of e]; exact hV.2.2.2.2.2⟩, ⟨fun l hl => ?_, h38⟩, ?_, hQ, fun l hl => ?_, fun l hl hd => ?_⟩
  · show up1 S.2.2.2.2.2.1 (L 5) (fKd D (tI S (L 5))) (L 5) l = fKd D (D 61) l
    rw [up1_self]; exact fKd_cong (hK l hl)
  · obtain ⟨u1, u2, u3, u4, u5⟩ := hU
    refine ⟨u1, u2, u3, u4, fun k hk => ⟨(u5 k hk).1, (u5 k hk).2.1, fun t ht hp => ?_⟩⟩
    refine Eq.trans ?_ ((u5 k hk).2.2 t ht hp)
    show up1 S.2.2.2.2.2.1 (L 5) (fKd D (tI S (L 5))) (T (ix (D 69 k))) t = tI S (T (ix (D 69 k))) t
    rw [up1_ne (u2 _ 5 (u5 k hk).1 (by decide))]
  · rw [fixD_of e]; exact if_pos hl
  · exact (if_neg (by show ¬ l < dL D; have : dL D ≤ l := hd; omega)).trans (h0 l hl hd)
