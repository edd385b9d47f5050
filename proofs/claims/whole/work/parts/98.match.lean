/-! products; what changes the lists' rules -/
theorem lg_le {x y : Int64} : lg_cmp x y ≤ 0 ↔ ¬ y < x := by
  unfold lg_cmp
  by_cases h : x > y
  · rw [if_pos h]
    exact ⟨fun a => absurd a (by decide), fun a => absurd h a⟩
  · rw [if_neg h]
    refine ⟨fun _ => h, fun _ => ?_⟩
    split <;> decide
theorem lN_big {a : Nat} (h : a < 2 ^ 63) : lg_cmp (lN a) 2147483647 ≤ 0 ↔ a ≤ 2147483647 := by
  rw [lg_le, Int64.not_lt, Int64.le_iff_toInt_le, pk_lT h]
  have : (2147483647 : Int64).toInt = 2147483647 := by decide
  rw [this]
  omega
/-- what a track brings into a product -/
def gP (D : ZD) (t : Nat) : Nat := ix (D 44 t) + 1
def prN (p : Nat → Bool) (g : Nat → Nat) : Nat → Nat
  | 0 => 1
  | n + 1 => if p n = true then prN p g n * g n else prN p g n
def plN (g : Nat → Nat) : List Nat → Nat
  | [] => 1
  | j :: l => plN g l * g j
theorem prN_cong {p q : Nat → Bool} {g : Nat → Nat} : ∀ {n : Nat}, (∀ i : Nat, i < n → p i = q i) → prN p g n = prN q g n
  | 0, _ => rfl
  | n + 1, h => by
    simp only [prN]
    rw [h n (Nat.lt_succ_self n), prN_cong (fun i hi => h i (by omega))]
theorem prN_none (g : Nat → Nat) : ∀ n : Nat, prN (fun _ => false) g n = 1
  | 0 => rfl
  | n + 1 => by simp only [prN]; rw [prN_none g n]; rfl
theorem prN_out {p q : Nat → Bool} {g : Nat → Nat} {t : Nat} (h : ∀ i : Nat, i ≠ t → q i = p i) (hp : p t = true) (hq : q t = false) : ∀ n : Nat, prN p g n = prN q g n * (if t < n then g t else 1)
  | 0 => by simp [prN]
  | n + 1 => by
    have ih := prN_out (g := g) h hp hq n
    by_cases e : n = t
    · subst e
      simp [prN, hp, hq, ih]
    · have h1 := h n e
      by_cases hl : t < n
      · have hl2 : t < n + 1 := by omega
        rw [if_pos hl] at ih
        rw [if_pos hl2]
        cases hpn : p n with
        | true => rw [hpn] at h1; simp only [prN, hpn, h1, if_true, ih]; rw [Nat.mul_assoc, Nat.mul_assoc, Nat.mul_comm (g t)]
        | false => rw [hpn] at h1; simp only [prN, hpn, h1, ih, Bool.false_eq_true, if_false]
      · have hl2 : ¬ t < n + 1 := by omega
        rw [if_neg hl, Nat.mul_one] at ih
        rw [if_neg hl2, Nat.mul_one]
        simp only [prN, h1, ih]
theorem srt_prod {D : ZD} {pl : Nat → Int32} {g : Nat → Nat} : ∀ {tk : List Nat} {s : Int32}, srt (prD D) pl tk → memb s tk → prN (fun t => prD D t && hasB s (nI t)) g 24 = plN g tk
  | [], s, _, h => by
    rw [h.nil]
    exact (prN_cong (fun i hi => by rw [hasB_0 (by omega), Bool.and_false])).trans (prN_none g 24)
  | j :: l, s, hs, h => by
    obtain ⟨a, b, c, d, e⟩ := hs
    rw [plN, ← srt_prod e (h.out a c)]
    have := prN_out (p := fun t => prD D t && hasB s (nI t)) (q := fun t => prD D t && (hasB s (nI t) && !decide (j = t))) (g := g) (t := j) (fun i hi => by have : ¬ j = i := fun q => hi q.symm; simp [this]) (by simp [b, h.has a]) (by simp) 24
    rw [this, if_pos a]
    congr 1
    exact prN_cong (fun i hi => by rw [hasB_out (by omega) (by omega)])
theorem gP_f {D : ZD} {t : Nat} (h : ∃ n : Nat, D 44 t = nI n ∧ n ≤ 999) : (D 44 t + 1).toInt64 = lN (gP D t) ∧ 1 ≤ gP D t ∧ gP D t ≤ 1000 := by
  obtain ⟨n, e, hn⟩ := h
  unfold gP
  rw [e, nI_1, nI_l (by omega), ixn (by omega)]
  exact ⟨rfl, by omega, by omega⟩
theorem mxD_N {D : ZD} {s : Int32} (h : ∀ t : Nat, t < 24 → ∃ n : Nat, D 44 t = nI n ∧ n ≤ 999) : ∀ q : Nat, q ≤ 24 → mxD D s q = lN (prN (fun t => prD D t && hasB s (nI t)) (gP D) q)
  | 0, _ => rfl
  | q + 1, hq => by
    have ih := mxD_N (s := s) h q (by omega)
    simp only [mxD, prN]
    rw [ih, (gP_f (h q (by omega))).1, lN_mul]
    by_cases hc : prD D q = true ∧ hasB s (nI q) = true
    · rw [if_pos hc, if_pos (by rw [hc.1, hc.2]; rfl)]
    · rw [if_neg hc, if_neg (fun e => hc (by rwa [Bool.and_eq_true] at e))]
theorem prN_mono {p : Nat → Bool} {g : Nat → Nat} (h : ∀ t : Nat, t < 24 → 1 ≤ g t) : ∀ m n : Nat, n + m ≤ 24 → prN p g n ≤ prN p g (n + m)
  | 0, _, _ => Nat.le_refl _
  | m + 1, n, hn => by
    refine Nat.le_trans (prN_mono h m n (by omega)) ?_
    show prN p g (n + m) ≤ prN p g (n + m + 1)
    simp only [prN]
    split
    · exact Nat.le_mul_of_pos_right _ (h _ (by omega))
    · exact Nat.le_refl _
theorem prN_ok {p : Nat → Bool} {g : Nat → Nat} (h : ∀ t : Nat, t < 24 → g t ≤ 1000) (hq : ∀ q : Nat, q ≤ 24 → lg_cmp (lN (prN p g q)) 2147483647 ≤ 0) : ∀ q : Nat, q ≤ 24 → prN p g q ≤ 2147483647
  | 0, _ => by show 1 ≤ _; decide
  | q + 1, hl => by
    have ih := prN_ok h hq q (by omega)
    have b : prN p g (q + 1) ≤ 2147483647 * 1000 := by
      simp only [prN]
      split
      · exact Nat.mul_le_mul ih (h q (by omega))
      · omega
    exact (lN_big (by omega)).mp (hq (q + 1) hl)
theorem prP_N {D : ZD} {f : Nat → Int64} (hf : ∀ t : Nat, t < 24 → f t = lN (gP D t) ∧ 1 ≤ gP D t ∧ gP D t ≤ 1000) : ∀ (tk : List Nat) (a : Nat), (∀ j ∈ tk, j < 24) → 1 ≤ a → a ≤ 2147483647 * 1000 → (lg_cmp (prP f (lN a) tk) 2147483647 ≤ 0 ↔ a * plN (gP D) tk ≤ 2147483647) ∧ (a * plN (gP D) tk ≤ 2147483647 → prP f (lN a) tk = lN (a * plN (gP D) tk))
  | [], a, _, h1, h2 => by
    simp only [prP, plN, Nat.mul_one]
    exact ⟨lN_big (by omega), fun _ => trivial⟩
  | j :: l, a, hj, h1, h2 => by
    obtain ⟨e, g1, g2⟩ := hf j (hj j List.mem_cons_self)
    have hpl : ∀ l : List Nat, (∀ j ∈ l, j < 24) → 1 ≤ plN (gP D) l := by
      intro l
      induction l with
      | nil => intro _; exact Nat.le_refl 1
      | cons x l ih => intro hx; exact Nat.mul_pos (ih (fun y hy => hx y (List.mem_cons_of_mem _ hy))) (hf x (hx x List.mem_cons_self)).2.1
    have hl := hpl l (fun x hx => hj x (List.mem_cons_of_mem _ hx))
    have ea : a * plN (gP D) (j :: l) = a * gP D j * plN (gP D) l := by
      show a * (plN (gP D) l * gP D j) = _
      rw [Nat.mul_comm (plN (gP D) l), ← Nat.mul_assoc]
    rw [ea]
    by_cases hc : lg_cmp (lN a) 2147483647 ≤ 0
    · have ha := (lN_big (by omega)).mp hc
      have hm : a * gP D j ≤ 2147483647 * 1000 := Nat.mul_le_mul ha g2
      have := prP_N hf l (a * gP D j) (fun x hx => hj x (List.mem_cons_of_mem _ hx)) (Nat.mul_pos h1 g1) hm
      simp only [prP]
      rw [if_pos hc, e, lN_mul]
      exact this
    · have ha : ¬ a ≤ 2147483647 := fun q => hc ((lN_big (by omega)).mpr q)
      have hb : a ≤ a * gP D j * plN (gP D) l := Nat.le_trans (Nat.le_mul_of_pos_right _ g1) (Nat.le_mul_of_pos_right _ hl)
      simp only [prP]
      rw [if_neg hc]
      exact ⟨⟨fun q => absurd q hc, fun q => by omega⟩, fun q => by omega⟩
/-- the two products are one -/
theorem LI.mx {D : ZD} {J : Nat → Int64} {lk : ZL} {as : Nat → Nat} {S : ZM} {L T : Nat → Nat} (hI : LI D J lk as S L T) {i : Nat} (hi : i < dL D) : ((∀ q : Nat, q ≤ 24 → lg_cmp (mxD D (D 61 i) q) 2147483647 ≤ 0) ↔ lg_cmp (prP (fun j => (D 44 j + 1).toInt64) 1 (tkD D i)) 2147483647 ≤ 0) ∧ (lg_cmp (prP (fun j => (D 44 j + 1).toInt64) 1 (tkD D i)) 2147483647 ≤ 0 → prP (fun j => (D 44 j + 1).toInt64) 1 (tkD D i) = mxD D (D 61 i) 24) := by
  obtain ⟨a, b⟩ := hI.tk hi
  have h44 : ∀ t : Nat, t < 24 → ∃ n : Nat, D 44 t = nI n ∧ n ≤ 999 := fun t ht => by
    by_cases h : t < dT D
    · exact ((hI.1.q.1 t ht).1 h).2.2
    · exact ⟨0, ((hI.1.q.1 t ht).2 (by omega)).1, by decide⟩
  have hg := fun t ht => gP_f (h44 t ht)
  have hN := mxD_N (s := D 61 i) h44
  have hP := srt_prod (g := gP D) b a
  obtain ⟨p1, p2⟩ := prP_N (f := fun j => (D 44 j + 1).toInt64) hg (tkD D i) 1 (fun j hj => (chL_in hj).1) (Nat.le_refl 1) (by decide)
  rw [Nat.one_mul, ← hP] at p1 p2
  have e1 : lN 1 = (1 : Int64) := rfl
  rw [e1] at p1 p2
  refine ⟨⟨fun h => p1.mpr ?_, fun h q hq => ?_⟩, fun h => ?_⟩
  · exact prN_ok (fun t ht => (hg t ht).2.2) (fun q hq => by rw [← hN q hq]; exact h q hq) 24 (Nat.le_refl _)
  · have h24 := p1.mp h
    have hle : prN (fun t => prD D t && hasB (D 61 i) (nI t)) (gP D) q ≤ prN (fun t => prD D t && hasB (D 61 i) (nI t)) (gP D) 24 := by
      have := prN_mono (p := fun t => prD D t && hasB (D 61 i) (nI t)) (fun t ht => (hg t ht).2.1) (24 - q) q (by omega)
      rwa [show q + (24 - q) = 24 from by omega] at this
    rw [hN q hq]
    exact (lN_big (by omega)).mpr (Nat.le_trans hle h24)
  · rw [p2 (p1.mp h), hN 24 (Nat.le_refl _)]
theorem chg_row2 {X : ZD} {k : Nat} (h1 : ¬ k = 61) (h2 : ¬ k = 66) : chgD X k = X k := by
  unfold chgD dS
  rw [if_neg h2, if_neg h1]
theorem wC_chg {X : ZD} (h : wC (chgD X)) : wC X := by
  rwa [wC_of (core_eq fun k h1 h2 => chg_row2 (by omega) (by omega))] at h
theorem wC_fll {X : ZD} (h : wC (fllD X)) : wC X := by
  have e : core (fllD X) = core X := core_eq fun k h1 h2 => by
    unfold fllD dS
    rw [if_neg (by omega)]
  rwa [wC_of e] at h
theorem LI.ztidy {D : ZD} {J : Nat → Int64} {lk : ZL} {as : Nat → Nat} {S : ZM} {L T : Nat → Nat} (hI : LI D J lk as S L T) (t o : Nat) : wfZ (chgD (opTidy D t o)) := by
  have hu : dU (chgD (opTidy D t o)) = dU D + 1 := by
    show ix ((chgD (opTidy D t o)) 67 0) = dU D + 1
    rw [show (chgD (opTidy D t o)) 67 0 = nI (dU D + 1) from (congrFun (chg_row rfl) 0).trans rfl, ixn (by have := hI.u.2.1; omega)]
  intro k i hk hi hd
  rw [hu] at hk
  have hd' : dT D ≤ i := hd
  have e70 : (chgD (opTidy D t o)) 70 (24 * k + i) = (if 24 * dU D ≤ 24 * k + i ∧ 24 * k + i < 24 * dU D + 24 then D 46 (24 * k + i - 24 * dU D) else D 70 (24 * k + i)) := (congrFun (chg_row rfl) _).trans rfl
  rw [e70]
  by_cases e : k = dU D
  · subst e
    rw [if_pos ⟨by omega, by omega⟩, show 24 * dU D + i - 24 * dU D = i from by omega]
    exact hI.z46 i hi hd'
  · rw [if_neg (fun q => by omega)]
    exact hI.2.1 k i (by omega) hi hd'
theorem LI.zundo {D : ZD} {J : Nat → Int64} {lk : ZL} {as : Nat → Nat} {S : ZM} {L T : Nat → Nat} (hI : LI D J lk as S L T) : wfZ (chgD (opUndo D J)) := by
  have hu : dU (chgD (opUndo D J)) = dU D - 1 := by
    show ix ((chgD (opUndo D J)) 67 0) = dU D - 1
    rw [show (chgD (opUndo D J)) 67 0 = nI (dU D - 1) from (congrFun (chg_row rfl) 0).trans rfl, ixn (by have := hI.u.2.1; omega)]
  intro k i hk hi hd
  rw [hu] at hk
  have hd' : dT D ≤ i := hd
  have e70 : (chgD (opUndo D J)) 70 (24 * k + i) = D 70 (24 * k + i) := (congrFun (chg_row rfl) _).trans rfl
  rw [e70]
  exact hI.2.1 k i (by omega) hi hd'
set_option maxRecDepth 100000 in
theorem X_tidy {l : Launch} (hl0 : l.stackTraces = false) {D : ZD} {J : Nat → Int64} {lk : ZL} {as : Nat → Nat} {S : ZM} {L T : Nat → Nat} {Sm : ZM} {M : Nat} {r : Nat → Nat} (hI : LI D J lk as S L T) (hM : iM D J Sm M r) (p0 p1 : Int32) : Mt zi (zPo (fun v S' => ∃ t o : Nat, t < 16 ∧ t < dG D ∧ p0 = nI t ∧ D 51 t = 0 ∧ o < 16 ∧ o < dG D ∧ p1 = nI o ∧ D 51 o = 0 ∧ t ≠ o ∧ nI (lvD D t o) ≤ 1 ∧ v = some (zi (nI (cnF (fun j => prD D j && hasB (D 46 j) (nI o)) 24))) ∧ cR (chgD (opTidy D t o)) (up1 J (dU D) (jF D p1 (dR D))) ((o, t) :: lk) as S' L T) (fun E S' => cR D J lk as S' L T ∧ ((¬ (hasTg D p0 ∧ hasTg D p1) ∧ E = "java/util/NoSuchElementException") ∨ (∃ t o : Nat, t < 16 ∧ t < dG D ∧ p0 = nI t ∧ D 51 t = 0 ∧ o < 16 ∧ o < dG D ∧ p1 = nI o ∧ D 51 o = 0 ∧ t = o ∧ E = "java/lang/IllegalArgumentException") ∨ (∃ t o : Nat, t < 16 ∧ t < dG D ∧ p0 = nI t ∧ D 51 t = 0 ∧ o < 16 ∧ o < dG D ∧ p1 = nI o ∧ D 51 o = 0 ∧ t ≠ o ∧ ¬ nI (lvD D t o) ≤ 1 ∧ E = "java/lang/UnsupportedOperationException")))) [("java/util/NoSuchElementException", 1), ("java/lang/IllegalArgumentException", 2), ("java/lang/UnsupportedOperationException", 3)] D J lk as L T M r (fun PM => zMet l yX5_tidy (Cond.code yX5_tidy cX5_tidy 5 (some .int) :: LWm) ({ frames := 347, cells := 0, slots := 0, locals := 8868 } : Room) 0 0 [zr (some M), zi p0, zi p1] Sm PM) := by
  refine ⟨?_, ?_⟩
  · rintro v S1 ⟨t, o, h1, h2, h3, h4, h5, h6, h7, h8, h9, h10, rfl, hc⟩
    obtain rfl : t = ix p0 := by rw [h3, ixn (by omega)]
    have fp0 : hasTg D p0 := ⟨_, h1, h2, h3, h4⟩
    have xp0 := h3
    obtain rfl : o = ix p1 := by rw [h7, ixn (by omega)]
    have fp1 : hasTg D p1 := ⟨_, h5, h6, h7, h8⟩
    have xp1 := h7
    have n9 : ¬ p0 = p1 := fun e => h9 (by rw [e])
    refine ⟨_, rfl, _, _, _, _, _, hc, (hI.ztidy _ _), _, M_tidy hl0 hM hI.n39 hI.c hI.q3 hI.w hI.u hI.z46 p0 p1 (fun _ _ _ _ => wC_chg hc.wC), ?_, fun E S2 h => h⟩
    rintro v2 S2 (⟨c1, c2, c3, c4, rfl, m⟩ | ⟨c1, rfl, m⟩ | ⟨c1, c2, c3, rfl, m⟩ | ⟨c1, c2, c3, c4, rfl, m⟩)
    · exact ⟨rfl, flM.ok m⟩
    · exfalso; first | contradiction | (clear hI hM m hc h3 xp0 h7 xp1; simp_all; done)
    · exfalso; first | contradiction | (clear hI hM m hc h3 xp0 h7 xp1; simp_all; done)
    · exfalso; first | contradiction | (clear hI hM m hc h3 xp0 h7 xp1; simp_all; done)
  · rintro E S1 ⟨hcD, (⟨h1, rfl⟩ | ⟨t, o, h1, h2, h3, h4, h5, h6, h7, h8, h9, rfl⟩ | ⟨t, o, h1, h2, h3, h4, h5, h6, h7, h8, h9, h10, rfl⟩)⟩
    · obtain ⟨e1, e2, e3⟩ := esN (e := "java/util/NoSuchElementException") (k := 1) (l := [("java/util/NoSuchElementException", 1), ("java/lang/IllegalArgumentException", 2), ("java/lang/UnsupportedOperationException", 3)]) (List.mem_cons_self) (by decide) (by decide)
      refine ⟨1, e1, e2, e3, hcD, _, M_tidy hl0 hM hI.n39 hI.c hI.q3 hI.w hI.u hI.z46 p0 p1 (fun a b _ _ => absurd ⟨a, b⟩ h1), ?_, fun E S2 h => h⟩
      rintro v2 S2 (⟨c1, c2, c3, c4, rfl, m⟩ | ⟨c1, rfl, m⟩ | ⟨c1, c2, c3, rfl, m⟩ | ⟨c1, c2, c3, c4, rfl, m⟩)
      · exfalso; first | contradiction | (clear hI hM m e1 e2 e3 hcD; simp_all; done)
      · exact ⟨⟨_, rfl⟩, m⟩
      · exfalso; first | contradiction | (clear hI hM m e1 e2 e3 hcD; simp_all; done)
      · exfalso; first | contradiction | (clear hI hM m e1 e2 e3 hcD; simp_all; done)
    · obtain rfl : t = ix p0 := by rw [h3, ixn (by omega)]
      have fp0 : hasTg D p0 := ⟨_, h1, h2, h3, h4⟩
      have xp0 := h3
      obtain rfl : o = ix p1 := by rw [h7, ixn (by omega)]
      have fp1 : hasTg D p1 := ⟨_, h5, h6, h7, h8⟩
      have xp1 := h7
      have n9 : p0 = p1 := h3.trans ((congrArg nI h9).trans h7.symm)
      obtain ⟨e1, e2, e3⟩ := esN (e := "java/lang/IllegalArgumentException") (k := 2) (l := [("java/util/NoSuchElementException", 1), ("java/lang/IllegalArgumentException", 2), ("java/lang/UnsupportedOperationException", 3)]) (List.mem_cons_of_mem _ (List.mem_cons_self)) (by decide) (by decide)
      refine ⟨2, e1, e2, e3, hcD, _, M_tidy hl0 hM hI.n39 hI.c hI.q3 hI.w hI.u hI.z46 p0 p1 (fun _ _ c _ => absurd n9 c), ?_, fun E S2 h => h⟩
      rintro v2 S2 (⟨c1, c2, c3, c4, rfl, m⟩ | ⟨c1, rfl, m⟩ | ⟨c1, c2, c3, rfl, m⟩ | ⟨c1, c2, c3, c4, rfl, m⟩)
      · exfalso; first | contradiction | (clear hI hM m e1 e2 e3 hcD h3 xp0 h7 xp1; simp_all; done)
      · exfalso; first | contradiction | (clear hI hM m e1 e2 e3 hcD h3 xp0 h7 xp1; simp_all; done)
      · exact ⟨⟨_, rfl⟩, m⟩
      · exfalso; first | contradiction | (clear hI hM m e1 e2 e3 hcD h3 xp0 h7 xp1; simp_all; done)
    · obtain rfl : t = ix p0 := by rw [h3, ixn (by omega)]
      have fp0 : hasTg D p0 := ⟨_, h1, h2, h3, h4⟩
      have xp0 := h3
      obtain rfl : o = ix p1 := by rw [h7, ixn (by omega)]
      have fp1 : hasTg D p1 := ⟨_, h5, h6, h7, h8⟩
      have xp1 := h7
      have n9 : ¬ p0 = p1 := fun e => h9 (by rw [e])
      obtain ⟨e1, e2, e3⟩ := esN (e := "java/lang/UnsupportedOperationException") (k := 3) (l := [("java/util/NoSuchElementException", 1), ("java/lang/IllegalArgumentException", 2), ("java/lang/UnsupportedOperationException", 3)]) (List.mem_cons_of_mem _ (List.mem_cons_of_mem _ (List.mem_cons_self))) (by decide) (by decide)
      refine ⟨3, e1, e2, e3, hcD, _, M_tidy hl0 hM hI.n39 hI.c hI.q3 hI.w hI.u hI.z46 p0 p1 (fun _ _ _ d => absurd d h10), ?_, fun E S2 h => h⟩
      rintro v2 S2 (⟨c1, c2, c3, c4, rfl, m⟩ | ⟨c1, rfl, m⟩ | ⟨c1, c2, c3, rfl, m⟩ | ⟨c1, c2, c3, c4, rfl, m⟩)
      · exfalso; first | contradiction | (clear hI hM m e1 e2 e3 hcD h3 xp0 h7 xp1; simp_all; done)
      · exfalso; first | contradiction | (clear hI hM m e1 e2 e3 hcD h3 xp0 h7 xp1; simp_all; done)
      · exfalso; first | contradiction | (clear hI hM m e1 e2 e3 hcD h3 xp0 h7 xp1; simp_all; done)
      · exact ⟨⟨_, rfl⟩, m⟩
set_option maxRecDepth 100000 in
theorem X_undoTidy {l : Launch} (hl0 : l.stackTraces = false) {D : ZD} {J : Nat → Int64} {lk : ZL} {as : Nat → Nat} {S : ZM} {L T : Nat → Nat} {Sm : ZM} {M : Nat} {r : Nat → Nat} (hI : LI D J lk as S L T) (hM : iM D J Sm M r) : Mt zi (zPo (fun v S' => 0 < dU D ∧ v = some (zi (D 69 (dU D - 1))) ∧ cR (chgD (opUndo D J)) J lk.tail as S' L T) (fun E S' => S' = S ∧ dU D = 0 ∧ E = "java/lang/IllegalStateException")) [("java/lang/IllegalStateException", 1)] D J lk as L T M r (fun PM => zMet l yX5_undoTidy (Cond.code yX5_undoTidy cX5_undoTidy 3 (some .int) :: LWm) ({ frames := 347, cells := 0, slots := 0, locals := 8868 } : Room) 0 0 [zr (some M)] Sm PM) := by
  refine ⟨?_, ?_⟩
  · rintro v S1 ⟨h1, rfl, hc⟩
    refine ⟨_, rfl, _, _, _, _, _, hc, hI.zundo, _, M_undoTidy hl0 hM hI.n39 hI.c hI.u (fun _ => wC_chg hc.wC), ?_, fun E S2 h => h⟩
    rintro v2 S2 (⟨c1, rfl, m⟩ | ⟨c1, rfl, m⟩)
    · exact ⟨rfl, flM.ok m⟩
    · exfalso; first | contradiction | (clear hI hM m hc; simp_all; done)
  · rintro E S1 ⟨rfl, h1, rfl⟩
    obtain ⟨e1, e2, e3⟩ := esN (e := "java/lang/IllegalStateException") (k := 1) (l := [("java/lang/IllegalStateException", 1)]) (List.mem_cons_self) (by decide) (by decide)
    refine ⟨1, e1, e2, e3, hI.1, _, M_undoTidy hl0 hM hI.n39 hI.c hI.u (fun a => absurd h1 (Nat.pos_iff_ne_zero.mp a)), ?_, fun E S2 h => h⟩
    rintro v2 S2 (⟨c1, rfl, m⟩ | ⟨c1, rfl, m⟩)
    · exfalso; first | contradiction | (clear hI hM m e1 e2 e3; simp_all; done)
    · exact ⟨⟨_, rfl⟩, hI.fl m⟩
set_option maxRecDepth 100000 in
theorem X_addList {l : Launch} (hl0 : l.stackTraces = false) {D : ZD} {J : Nat → Int64} {lk : ZL} {as : Nat → Nat} {S : ZM} {L T : Nat → Nat} {Sm : ZM} {M : Nat} {r : Nat → Nat} (hI : LI D J lk as S L T) (hM : iM D J Sm M r) (p0 p1 p2 : Int32) : Mt zi (zPo (fun v S' => hasRl D p0 ∧ (p1 = 115 ∨ p1 = 114 ∨ p1 = 112 ∨ p1 = 110) ∧ 0 ≤ p2 ∧ p2 ≤ 9999 ∧ dL D < 8 ∧ v = some (zi (nI (dL D))) ∧ cR (fllD (opLst D p0 p1 p2)) J lk as S' L T) (fun E S' => S' = S ∧ ((¬ hasRl D p0 ∧ E = "java/util/NoSuchElementException") ∨ (hasRl D p0 ∧ ¬ ((p1 = 115 ∨ p1 = 114 ∨ p1 = 112 ∨ p1 = 110) ∧ 0 ≤ p2 ∧ p2 ≤ 9999) ∧ E = "java/lang/IllegalArgumentException") ∨ (hasRl D p0 ∧ (p1 = 115 ∨ p1 = 114 ∨ p1 = 112 ∨ p1 = 110) ∧ 0 ≤ p2 ∧ p2 ≤ 9999 ∧ ¬ D 57 0 < 8 ∧ E = "java/lang/IllegalStateException")))) [("java/util/NoSuchElementException", 1), ("java/lang/IllegalArgumentException", 2), ("java/lang/IllegalStateException", 3)] D J lk as L T M r (fun PM => zMet l yX5_addList (Cond.code yX5_addList cX5_addList 4 (some .int) :: LWm) ({ frames := 346, cells := 0, slots := 0, locals := 8847 } : Room) 0 0 [zr (some M), zi p0, zi p1, zi p2] Sm PM) := by
  refine ⟨?_, ?_⟩
  · rintro v S1 ⟨h1, h2, h3, h4, h5, rfl, hc⟩
    have n57 := hI.c57
    refine ⟨_, rfl, _, _, _, _, _, hc, (hI.2.1.of (rfl) (rfl) (rfl)), _, M_addList hl0 hM hI.n39 hI.c p0 p1 p2 (fun _ _ _ _ => wC_fll hc.wC), ?_, fun E S2 h => h⟩
    rintro v2 S2 (⟨c1, c2, c3, c4, rfl, m⟩ | ⟨c1, rfl, m⟩ | ⟨c1, c2, rfl, m⟩ | ⟨c1, c2, c3, c4, rfl, m⟩)
    · exact ⟨(by rw [← hI.c.1.2.2.2.1]), flM.ok m⟩
    · exfalso; first | contradiction | (clear hI hM m hc; simp_all; done)
    · exfalso; first | contradiction | (clear hI hM m hc; simp_all; done)
    · exfalso; first | contradiction | (clear hI hM m hc; simp_all; done)
  · rintro E S1 ⟨rfl, (⟨h1, rfl⟩ | ⟨h1, h2, rfl⟩ | ⟨h1, h2, h3, h4, h5, rfl⟩)⟩
    · have n57 := hI.c57
      obtain ⟨e1, e2, e3⟩ := esN (e := "java/util/NoSuchElementException") (k := 1) (l := [("java/util/NoSuchElementException", 1), ("java/lang/IllegalArgumentException", 2), ("java/lang/IllegalStateException", 3)]) (List.mem_cons_self) (by decide) (by decide)
      refine ⟨1, e1, e2, e3, hI.1, _, M_addList hl0 hM hI.n39 hI.c p0 p1 p2 (fun a _ _ _ => absurd a h1), ?_, fun E S2 h => h⟩
      rintro v2 S2 (⟨c1, c2, c3, c4, rfl, m⟩ | ⟨c1, rfl, m⟩ | ⟨c1, c2, rfl, m⟩ | ⟨c1, c2, c3, c4, rfl, m⟩)
      · exfalso; first | contradiction | (clear hI hM m e1 e2 e3; simp_all; done)
      · exact ⟨⟨_, rfl⟩, hI.fl m⟩
      · exfalso; first | contradiction | (clear hI hM m e1 e2 e3; simp_all; done)
      · exfalso; first | contradiction | (clear hI hM m e1 e2 e3; simp_all; done)
    · have n57 := hI.c57
      obtain ⟨e1, e2, e3⟩ := esN (e := "java/lang/IllegalArgumentException") (k := 2) (l := [("java/util/NoSuchElementException", 1), ("java/lang/IllegalArgumentException", 2), ("java/lang/IllegalStateException", 3)]) (List.mem_cons_of_mem _ (List.mem_cons_self)) (by decide) (by decide)
      refine ⟨2, e1, e2, e3, hI.1, _, M_addList hl0 hM hI.n39 hI.c p0 p1 p2 (fun _ b c _ => absurd ⟨b, c.1, c.2⟩ h2), ?_, fun E S2 h => h⟩
      rintro v2 S2 (⟨c1, c2, c3, c4, rfl, m⟩ | ⟨c1, rfl, m⟩ | ⟨c1, c2, rfl, m⟩ | ⟨c1, c2, c3, c4, rfl, m⟩)
      · exfalso; first | contradiction | (clear hI hM m e1 e2 e3; simp_all; done)
      · exfalso; first | contradiction | (clear hI hM m e1 e2 e3; simp_all; done)
      · exact ⟨⟨_, rfl⟩, hI.fl m⟩
      · exfalso; first | contradiction | (clear hI hM m e1 e2 e3; simp_all; done)
    · have n57 := hI.c57
      obtain ⟨e1, e2, e3⟩ := esN (e := "java/lang/IllegalStateException") (k := 3) (l := [("java/util/NoSuchElementException", 1), ("java/lang/IllegalArgumentException", 2), ("java/lang/IllegalStateException", 3)]) (List.mem_cons_of_mem _ (List.mem_cons_of_mem _ (List.mem_cons_self))) (by decide) (by decide)
      refine ⟨3, e1, e2, e3, hI.1, _, M_addList hl0 hM hI.n39 hI.c p0 p1 p2 (fun _ _ _ d => absurd (n57.1.mpr (n57.2.mp d)) h5), ?_, fun E S2 h => h⟩
      rintro v2 S2 (⟨c1, c2, c3, c4, rfl, m⟩ | ⟨c1, rfl, m⟩ | ⟨c1, c2, rfl, m⟩ | ⟨c1, c2, c3, c4, rfl, m⟩)
      · exfalso; first | contradiction | (clear hI hM m e1 e2 e3; simp_all; done)
      · exfalso; first | contradiction | (clear hI hM m e1 e2 e3; simp_all; done)
      · exfalso; first | contradiction | (clear hI hM m e1 e2 e3; simp_all; done)
      · exact ⟨⟨_, rfl⟩, hI.fl m⟩
set_option maxRecDepth 100000 in
theorem X_setRule {l : Launch} (hl0 : l.stackTraces = false) {D : ZD} {J : Nat → Int64} {lk : ZL} {as : Nat → Nat} {S : ZM} {L T : Nat → Nat} {Sm : ZM} {M : Nat} {r : Nat → Nat} (hI : LI D J lk as S L T) (hM : iM D J Sm M r) (p0 p1 : Int32) : Mt zi (zPo (fun v S' => ∃ i r : Nat, i < 8 ∧ i < dL D ∧ p0 = nI i ∧ r < 40 ∧ r < dR D ∧ p1 = nI r ∧ hasB (wlO (lsO D) 8 (lsD D r)) (nI i) = false ∧ v = some (zi (D 58 i)) ∧ cR (chgD (opSet D i p1)) J lk as S' L T) (fun E S' => S' = S ∧ ((¬ (hasLs D p0 ∧ hasRl D p1) ∧ E = "java/util/NoSuchElementException") ∨ (∃ i r : Nat, i < 8 ∧ i < dL D ∧ p0 = nI i ∧ r < 40 ∧ r < dR D ∧ p1 = nI r ∧ hasB (wlO (lsO D) 8 (lsD D r)) (nI i) = true ∧ E = "java/lang/UnsupportedOperationException")))) [("java/util/NoSuchElementException", 1), ("java/lang/UnsupportedOperationException", 2)] D J lk as L T M r (fun PM => zMet l yX5_setRule (Cond.code yX5_setRule cX5_setRule 4 (some .int) :: LWm) ({ frames := 369, cells := 0, slots := 0, locals := 8868 } : Room) 0 0 [zr (some M), zi p0, zi p1] Sm PM) := by
  refine ⟨?_, ?_⟩
  · rintro v S1 ⟨i, r, h1, h2, h3, h4, h5, h6, h7, rfl, hc⟩
    obtain rfl : i = ix p0 := by rw [h3, ixn (by omega)]
    have fp0 : hasLs D p0 := ⟨_, h1, h2, h3⟩
    have xp0 := h3
    obtain rfl : r = ix p1 := by rw [h6, ixn (by omega)]
    have fp1 : hasRl D p1 := ⟨_, h4, h5, h6⟩
    have xp1 := h6
    rw [← h3] at h7
    have h8 : hasB (wl8 D (lsD D (ix p1))) p0 = false := h7
    refine ⟨_, rfl, _, _, _, _, _, hc, (hI.2.1.of ((chg_row rfl).trans rfl) ((chg_row rfl).trans rfl) ((chg_row rfl).trans rfl)), _, M_setRule hl0 hM hI.n39 hI.c p0 p1 (fun _ _ _ => wC_chg hc.wC), ?_, fun E S2 h => h⟩
    rintro v2 S2 (⟨c1, c2, c3, rfl, m⟩ | ⟨c1, rfl, m⟩ | ⟨c1, c2, c3, rfl, m⟩)
    · exact ⟨rfl, flM.ok m⟩
    · exfalso; first | contradiction | (clear hI hM m hc h3 xp0 h6 xp1; simp_all; done)
    · exfalso; first | contradiction | (clear hI hM m hc h3 xp0 h6 xp1; simp_all; done)
  · rintro E S1 ⟨rfl, (⟨h1, rfl⟩ | ⟨i, r, h1, h2, h3, h4, h5, h6, h7, rfl⟩)⟩
    · obtain ⟨e1, e2, e3⟩ := esN (e := "java/util/NoSuchElementException") (k := 1) (l := [("java/util/NoSuchElementException", 1), ("java/lang/UnsupportedOperationException", 2)]) (List.mem_cons_self) (by decide) (by decide)
      refine ⟨1, e1, e2, e3, hI.1, _, M_setRule hl0 hM hI.n39 hI.c p0 p1 (fun a b _ => absurd ⟨a, b⟩ h1), ?_, fun E S2 h => h⟩
      rintro v2 S2 (⟨c1, c2, c3, rfl, m⟩ | ⟨c1, rfl, m⟩ | ⟨c1, c2, c3, rfl, m⟩)
      · exfalso; first | contradiction | (clear hI hM m e1 e2 e3; simp_all; done)
      · exact ⟨⟨_, rfl⟩, hI.fl m⟩
      · exfalso; first | contradiction | (clear hI hM m e1 e2 e3; simp_all; done)
    · obtain rfl : i = ix p0 := by rw [h3, ixn (by omega)]
      have fp0 : hasLs D p0 := ⟨_, h1, h2, h3⟩
      have xp0 := h3
      obtain rfl : r = ix p1 := by rw [h6, ixn (by omega)]
      have fp1 : hasRl D p1 := ⟨_, h4, h5, h6⟩
      have xp1 := h6
      rw [← h3] at h7
      have h8 : hasB (wl8 D (lsD D (ix p1))) p0 = true := h7
      obtain ⟨e1, e2, e3⟩ := esN (e := "java/lang/UnsupportedOperationException") (k := 2) (l := [("java/util/NoSuchElementException", 1), ("java/lang/UnsupportedOperationException", 2)]) (List.mem_cons_of_mem _ (List.mem_cons_self)) (by decide) (by decide)
      refine ⟨2, e1, e2, e3, hI.1, _, M_setRule hl0 hM hI.n39 hI.c p0 p1 (fun _ _ c => absurd (h8.symm.trans c) (by decide)), ?_, fun E S2 h => h⟩
      rintro v2 S2 (⟨c1, c2, c3, rfl, m⟩ | ⟨c1, rfl, m⟩ | ⟨c1, c2, c3, rfl, m⟩)
      · exfalso; first | contradiction | (clear hI hM m e1 e2 e3 h3 xp0 h6 xp1; simp_all; done)
      · exfalso; first | contradiction | (clear hI hM m e1 e2 e3 h3 xp0 h6 xp1; simp_all; done)
      · exact ⟨⟨_, rfl⟩, hI.fl m⟩
set_option maxRecDepth 100000 in
theorem X_mixes {l : Launch} (hl0 : l.stackTraces = false) {D : ZD} {J : Nat → Int64} {lk : ZL} {as : Nat → Nat} {S : ZM} {L T : Nat → Nat} {Sm : ZM} {M : Nat} {r : Nat → Nat} (hI : LI D J lk as S L T) (hM : iM D J Sm M r) (p0 : Int32) : Mt zi (zPo (fun v S' => ∃ i : Nat, i < 8 ∧ i < dL D ∧ p0 = nI i ∧ (∀ q : Nat, q ≤ 24 → lg_cmp (mxD D (D 61 i) q) 2147483647 ≤ 0) ∧ v = some (zi (mxD D (D 61 i) 24).toInt32) ∧ S' = S) (fun E S' => S' = S ∧ ((¬ hasLs D p0 ∧ E = "java/util/NoSuchElementException") ∨ (∃ i : Nat, i < 8 ∧ i < dL D ∧ p0 = nI i ∧ ∃ n : Nat, n ≤ 24 ∧ ¬ lg_cmp (mxD D (D 61 i) n) 2147483647 ≤ 0 ∧ E = "java/lang/ArithmeticException")))) [("java/util/NoSuchElementException", 1), ("java/lang/ArithmeticException", 2)] D J lk as L T M r (fun PM => zMet l yX5_mixes (Cond.code yX5_mixes cX5_mixes 5 (some .int) :: LWm) ({ frames := 2, cells := 0, slots := 0, locals := 43 } : Room) 0 0 [zr (some M), zi p0] Sm PM) := by
  refine Mt.mk1 (M_mixes hl0 hM hI.n39 hI.c hI.w p0) (fun E S2 h => h) ?_ ?_
  · rintro v S1 ⟨i, h1, h2, h3, h4, rfl, rfl⟩
    obtain rfl : i = ix p0 := by rw [h3, ixn (by omega)]
    have fp0 : hasLs D p0 := ⟨_, h1, h2, h3⟩
    have xp0 := h3
    obtain ⟨x1, x2⟩ := hI.mx h2
    have h5 := x1.mp h4
    refine ⟨_, rfl, D, J, lk, as, T, hI.1, hI.2.1, ?_⟩
    rintro v2 S2 (⟨c1, c2, rfl, m⟩ | ⟨c1, rfl, m⟩ | ⟨c1, c2, rfl, m⟩)
    · exact ⟨(by rw [x2 h5]), hI.id m⟩
    · exact absurd fp0 c1
    · exact absurd h5 c2
  · rintro E S1 ⟨rfl, (⟨h1, rfl⟩ | ⟨i, h1, h2, h3, n, h4, h5, rfl⟩)⟩
    · obtain ⟨e1, e2, e3⟩ := esN (e := "java/util/NoSuchElementException") (k := 1) (l := [("java/util/NoSuchElementException", 1), ("java/lang/ArithmeticException", 2)]) (List.mem_cons_self) (by decide) (by decide)
      refine ⟨1, e1, e2, e3, hI.1, ?_⟩
      rintro v2 S2 (⟨c1, c2, rfl, m⟩ | ⟨c1, rfl, m⟩ | ⟨c1, c2, rfl, m⟩)
      · exact absurd c1 h1
      · exact ⟨⟨_, rfl⟩, hI.fl m⟩
      · exact absurd c1 h1
    · obtain rfl : i = ix p0 := by rw [h3, ixn (by omega)]
      have fp0 : hasLs D p0 := ⟨_, h1, h2, h3⟩
      have xp0 := h3
      obtain ⟨x1, x2⟩ := hI.mx h2
      have h6 := fun q => h5 (x1.mpr q _ h4)
      obtain ⟨e1, e2, e3⟩ := esN (e := "java/lang/ArithmeticException") (k := 2) (l := [("java/util/NoSuchElementException", 1), ("java/lang/ArithmeticException", 2)]) (List.mem_cons_of_mem _ (List.mem_cons_self)) (by decide) (by decide)
      refine ⟨2, e1, e2, e3, hI.1, ?_⟩
      rintro v2 S2 (⟨c1, c2, rfl, m⟩ | ⟨c1, rfl, m⟩ | ⟨c1, c2, rfl, m⟩)
      · exact absurd c2 h6
      · exact absurd fp0 c1
      · exact ⟨⟨_, rfl⟩, hI.fl m⟩
