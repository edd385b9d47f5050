/-! the class's answers beside the reference's -/
theorem ixn {t : Nat} (h : t < 2 ^ 31) : ix (nI t) = t := nI_clamp h
/-- the two sides stand beside one another -/
def LI (D : ZD) (J : Nat → Int64) (lk : ZL) (as : Nat → Nat) (S : ZM) (L T : Nat → Nat) : Prop := cR D J lk as S L T ∧ wfZ D ∧ wfM D ∧ D 39 0 = 0
theorem wfL_in {G : Nat} : ∀ {lk : ZL} {o t : Nat}, wfL G lk → (o, t) ∈ lk → o < G
  | [], _, _, _, h => nomatch h
  | (o', t') :: l, o, t, hw, h => by
    rcases List.mem_cons.mp h with e | e
    · have := congrArg Prod.fst e
      simp only at this
      subst this
      exact hw.2.2.2.2.1
    · exact wfL_in hw.1 e
section LIs
variable {D D1 : ZD} {J J1 : Nat → Int64} {lk : ZL} {as : Nat → Nat} {S S1 : ZM} {L T : Nat → Nat} {M : Nat} {r : Nat → Nat}
theorem cR.wC (h : cR D J lk as S L T) : wC D := ⟨h.1.2.2.2.2.2.1.1, h.1.2.2.2.2.2.1.2.1, h.1.2.2.2.2.2.2.2.2.1, h.1.2.2.2.2.2.2.2.2.2⟩
theorem cR.q (h : cR D J lk as S L T) : wfQ D J lk as := h.2.2.2.2.1
theorem LI.c (h : LI D J lk as S L T) : wC D := h.1.wC
theorem LI.q3 (h : LI D J lk as S L T) : nmOk D := h.1.q.2.2.1
theorem LI.w (h : LI D J lk as S L T) : wfM D := h.2.2.1
theorem LI.n39 (h : LI D J lk as S L T) : D 39 0 = 0 := h.2.2.2
theorem LI.k (h : LI D J lk as S L T) : keD D := h.1.2.2.2.2.2.1
theorem LI.len (h : LI D J lk as S L T) : lk.length ≤ 15 := h.1.1.2.2.2.2.2.1.2.2.2.1
theorem LI.u (h : LI D J lk as S L T) : udOk D := by
  obtain ⟨h1, h2, h3⟩ := h.1.q.2.2.2.2.2.1
  refine ⟨h1, Nat.le_trans h2 h.len, fun k hk => ?_⟩
  obtain ⟨o, g, e1, e2, e3, e4⟩ := h.1.q.2.2.2.2.2.2 k hk
  have hg := h.c.1.2.1.2
  have := wfL_in h.1.1.2.2.2.2.2.1.2.2.1 (List.mem_of_getElem? e1)
  exact ⟨o, e2, by omega⟩
theorem LI.z46 (h : LI D J lk as S L T) : ∀ t : Nat, t < 24 → dT D ≤ t → D 46 t = 0 := fun t h1 h2 => ((h.1.q.1 t h1).2 h2).2.1
theorem LI.o9 (h : LI D J lk as S L T) : ∀ i : Nat, i < dL D → D 59 i = 115 ∨ D 59 i = 114 ∨ D 59 i = 112 ∨ D 59 i = 110 := h.1.q.2.2.2.2.2.1.2.2
/-- the class does not see the junk rows -/
theorem cR.j {E : ZD} (h : cR D J lk as S L T) (e : eqJ E D) : cR E J lk as S L T := by
  obtain ⟨⟨hS, hT, hG, hRR, hLL, hA, hday, hpl, hO, hAc⟩, hV, hK, hU, hQ, hF⟩ := h
  have q : ∀ k : Nat, jnk k = false → E k = D k := e
  refine ⟨⟨hS, ?_, ?_, ?_, ?_, ?_, ?_, ?_, ?_, ?_⟩, ?_, ?_, ?_, ?_, ?_⟩
  · intro i hi
    have := hT i hi
    simpa only [prD_eq (q 41 rfl) (q 47 rfl), lastD, q 42 rfl, q 43 rfl, q 44 rfl, q 45 rfl, q 46 rfl] using this
  · rw [rG_eq _ _ _ (q 48 rfl) (q 49 rfl) (q 50 rfl)]; exact hG
  · rw [rR_eq _ _ _ (q 52 rfl) (q 53 rfl) (q 54 rfl) (q 55 rfl) (q 56 rfl)]; exact hRR
  · rw [rL_eq _ _ (q 57 rfl) (q 58 rfl) (q 59 rfl) (q 60 rfl)]; exact hLL
  · rw [wfA_eq _ _ (q 41 rfl) (q 48 rfl) (q 52 rfl) (q 53 rfl) (q 54 rfl) (q 55 rfl) (q 57 rfl)]; exact hA
  · rw [q 40 rfl]; exact hday
  · intro t; rw [q 44 rfl, q 45 rfl]; exact hpl t
  · rw [wfO_eq (q 52 rfl) (q 57 rfl) (q 58 rfl)]; exact hO
  · rw [acD_eq (q 53 rfl) (q 54 rfl) (q 55 rfl) (q 57 rfl) (q 58 rfl)]; exact hAc
  · simpa only [cV, dT, prD_eq (q 41 rfl) (q 47 rfl), scF_eq (q 42 rfl) (q 44 rfl), q 41 rfl, q 48 rfl, q 52 rfl, q 57 rfl] using hV
  · simpa only [cK, q 61 rfl, q 66 rfl] using hK
  · rw [cU_eq _ _ _ (q 41 rfl) (q 47 rfl) (q 48 rfl) (q 67 rfl) (q 69 rfl) (q 70 rfl)]; exact hU
  · simpa only [wfQ, dT, dG, dR, dL, dU, q 40 rfl, q 41 rfl, q 42 rfl, q 43 rfl, q 44 rfl, q 46 rfl, q 47 rfl, q 48 rfl, q 49 rfl, q 50 rfl, q 51 rfl, q 52 rfl, q 53 rfl, q 56 rfl, q 57 rfl, q 59 rfl, q 67 rfl, q 68 rfl, q 69 rfl] using hQ
  · have ef := fixD_of (eqJ.core e)
    simpa only [wfK, dL, q 57 rfl, q 61 rfl, ef] using hF
theorem wfZ.j {E : ZD} (h : wfZ D) (e : eqJ E D) : wfZ E := by
  have q : ∀ k : Nat, jnk k = false → E k = D k := e
  simpa only [wfZ, dU, dT, q 67 rfl, q 41 rfl, q 70 rfl] using h
theorem wfZ.of (h : wfZ D) (h67 : D1 67 = D 67) (h70 : D1 70 = D 70) (h41 : D1 41 = D 41) : wfZ D1 := by simpa only [wfZ, dU, dT, h67, h70, h41] using h
theorem wfZ.chg (h : wfZ D) : wfZ (chgD D) := h
theorem wfZ.fll (h : wfZ D) : wfZ (fllD D) := h
/-- the one form of the reference's end -/
theorem flM.ok {X : ZD} (h : okM J S M r X) : flM J S M r X 0 := by
  obtain ⟨D', h1, h2, h3, h4⟩ := h
  refine ⟨D', ?_, h2, h3, h4⟩
  have : s39 D' 0 = D' := by
    funext k i
    unfold s39 dS up1
    by_cases hk : k = 39
    · subst hk
      rw [if_pos rfl]
      by_cases hi : i = 0
      · rw [if_pos hi, hi, h2]
      · rw [if_neg hi]
    · rw [if_neg hk]
  rw [this]; exact h1
theorem flM.same (h : mR D J S M r) (h39 : D 39 0 = 0) (hW : wfM D) : flM J S M r D 0 := flM.ok (okM.of h h39 hW)
theorem LI.fl (h : LI D J lk as S1 L T) {e : Int32} (hm : mR (s39 D e) J S M r) : flM J S M r D e := flM.of hm h.n39 h.w
theorem LI.id (h : LI D J lk as S1 L T) (hm : mR D J S M r) : flM J S M r D 0 := flM.same hm h.n39 h.w
end LIs
/-- one method of the two sides: what the class answers and the reference answers behind it -/
def Mt {α : Type} (mk : α → ZV) (PC : zP) (es : List (String × Int32)) (D : ZD) (J : Nat → Int64) (lk : ZL) (as : Nat → Nat) (L T : Nat → Nat) (M : Nat) (r : Nat → Nat) (MC : zP → Prop) : Prop :=
  (∀ (v : Option ZV) (S1 : ZM), PC (.inl v) S1 → ∃ z : α, v = some (mk z) ∧ ∃ (D1 : ZD) (J1 : Nat → Int64) (lk1 : ZL) (as1 T1 : Nat → Nat), cR D1 J1 lk1 as1 S1 L T1 ∧ wfZ D1 ∧ ∃ PM : zP, MC PM ∧ (∀ (v2 : Option ZV) (S2 : ZM), PM (.inl v2) S2 → v2 = some (mk z) ∧ flM J1 S2 M r D1 0) ∧ ∀ (E : String) (S2 : ZM), ¬ PM (.inr E) S2) ∧
  (∀ (E : String) (S1 : ZM), PC (.inr E) S1 → ∃ k : Int32, (∀ k' : Int32, (E, k') ∈ es → k' = k) ∧ (∃ k' : Int32, (E, k') ∈ es) ∧ ¬ k = 0 ∧ cR D J lk as S1 L T ∧ ∃ PM : zP, MC PM ∧ (∀ (v2 : Option ZV) (S2 : ZM), PM (.inl v2) S2 → (∃ z : α, v2 = some (mk z)) ∧ flM J S2 M r D k) ∧ ∀ (E : String) (S2 : ZM), ¬ PM (.inr E) S2)
theorem Mt.mk1 {α : Type} {mk : α → ZV} {PC PM : zP} {es : List (String × Int32)} {D : ZD} {J : Nat → Int64} {lk : ZL} {as L T : Nat → Nat} {M : Nat} {r : Nat → Nat} {MC : zP → Prop} (hMC : MC PM) (hno : ∀ (E : String) (S2 : ZM), ¬ PM (.inr E) S2)
    (hok : ∀ (v : Option ZV) (S1 : ZM), PC (.inl v) S1 → ∃ z : α, v = some (mk z) ∧ ∃ (D1 : ZD) (J1 : Nat → Int64) (lk1 : ZL) (as1 T1 : Nat → Nat), cR D1 J1 lk1 as1 S1 L T1 ∧ wfZ D1 ∧ ∀ (v2 : Option ZV) (S2 : ZM), PM (.inl v2) S2 → v2 = some (mk z) ∧ flM J1 S2 M r D1 0)
    (hex : ∀ (E : String) (S1 : ZM), PC (.inr E) S1 → ∃ k : Int32, (∀ k' : Int32, (E, k') ∈ es → k' = k) ∧ (∃ k' : Int32, (E, k') ∈ es) ∧ ¬ k = 0 ∧ cR D J lk as S1 L T ∧ ∀ (v2 : Option ZV) (S2 : ZM), PM (.inl v2) S2 → (∃ z : α, v2 = some (mk z)) ∧ flM J S2 M r D k) : Mt mk PC es D J lk as L T M r MC := by
  refine ⟨fun v S1 h => ?_, fun E S1 h => ?_⟩
  · obtain ⟨z, e, D1, J1, lk1, as1, T1, a, b, c⟩ := hok v S1 h
    exact ⟨z, e, D1, J1, lk1, as1, T1, a, b, PM, hMC, c, hno⟩
  · obtain ⟨k, a, b, c, d, e⟩ := hex E S1 h
    exact ⟨k, a, b, c, d, PM, hMC, e, hno⟩
/-- the number of an exception -/
theorem es1 {e : String} {k : Int32} {l : List (String × Int32)} (hk : ¬ k = 0) (h : ((e, k) :: l).all (fun q => decide (q.1 ≠ e) || decide (q.2 = k)) = true) : (∀ k' : Int32, (e, k') ∈ ((e, k) :: l) → k' = k) ∧ (∃ k' : Int32, (e, k') ∈ ((e, k) :: l)) ∧ ¬ k = 0 := by
  refine ⟨fun k' hm => ?_, ⟨k, List.mem_cons_self⟩, hk⟩
  have := List.all_eq_true.mp h _ hm
  simpa using this
theorem esN {e : String} {k : Int32} {l : List (String × Int32)} (hm : (e, k) ∈ l) (hk : ¬ k = 0) (h : l.all (fun q => decide (q.1 ≠ e) || decide (q.2 = k)) = true) : (∀ k' : Int32, (e, k') ∈ l → k' = k) ∧ (∃ k' : Int32, (e, k') ∈ l) ∧ ¬ k = 0 := by
  refine ⟨fun k' hm' => ?_, ⟨k, hm⟩, hk⟩
  have := List.all_eq_true.mp h _ hm'
  simpa using this
theorem chg_row {X : ZD} {k : Nat} (h : (Nat.beq k 61 || Nat.beq k 66) = false) : chgD X k = X k := by
  have h1 : ¬ k = 61 := fun e => by subst e; cases h
  have h2 : ¬ k = 66 := fun e => by subst e; cases h
  unfold chgD dS
  rw [if_neg h2, if_neg h1]
theorem wfZ.nil {D1 : ZD} (h : D1 67 0 = 0) : wfZ D1 := fun k t hk => absurd hk (by unfold dU; rw [h]; exact Nat.not_lt_zero k)
/-- lists that hang on what is as it was are ranked as they were -/
theorem wfM.alk {D D1 : ZD} (hM : wfM D) (hC : wC D) (h : alk D D1) (h61 : D1 61 = D 61) (h63 : D1 63 = D 63) (h64 : D1 64 = D 64) : wfM D1 := by
  obtain ⟨hN, hR, hO, -⟩ := hC
  have h40 := hN.2.2.1.2
  intro l hl
  rw [h.ll] at hl
  obtain ⟨g1, g2, g3⟩ := hM l hl
  have etk : tkD D1 l = tkD D l := by
    obtain ⟨q, hq, e⟩ := hO l hl
    obtain ⟨e8, e9, e0⟩ := h.2.2.2 l hl
    have e2 : ix (D 58 l) < dR D := by rw [e, ix, nI_clamp (by omega)]; exact hq
    have a := h.1
    have hpl : plD D1 = plD D := by funext o j; simp only [plD, a 42 (by decide) (by decide), a 43 (by decide) (by decide), a 44 (by decide) (by decide)]
    simp only [tkD, tkO]
    rw [h.fix hR h40 hO, e8, e9, e0, h.mt hR h40 _ e2, h.pr, hpl, a 42 (by decide) (by decide)]
  refine ⟨?_, ?_, fun j x hx => ?_⟩
  · rw [h61, h.fix hR h40 hO]; exact g1
  · rw [h64, etk]; exact g2
  · rw [h63]; exact g3 j x (by rw [← etk]; exact hx)
theorem alk_rule {D : ZD} (kd a b c : Int32) (hN : wfN D) : alk D (opRule D kd a b c) := by
  refine ⟨fun k h1 h2 => ?_, rfl, fun r hr => ?_, fun i hi => ⟨rfl, rfl, rfl⟩⟩
  · have : k = 40 ∨ k = 41 ∨ k = 42 ∨ k = 43 ∨ k = 44 ∨ k = 45 ∨ k = 46 ∨ k = 47 := by omega
    rcases this with rfl | rfl | rfl | rfl | rfl | rfl | rfl | rfl <;> rfl
  · have hne : ¬ r = dR D := by omega
    refine ⟨?_, ?_, ?_⟩
    · show up1 (D 53) (dR D) kd r = D 53 r; exact if_neg hne
    · show up1 (D 54) (dR D) a r = D 54 r; exact if_neg hne
    · show up1 (D 55) (dR D) b r = D 55 r; exact if_neg hne
theorem alk_tag (D : ZD) : alk D (opTag D) := by
  refine ⟨fun k h1 h2 => ?_, rfl, fun r hr => ⟨rfl, rfl, rfl⟩, fun i hi => ⟨rfl, rfl, rfl⟩⟩
  have : k = 40 ∨ k = 41 ∨ k = 42 ∨ k = 43 ∨ k = 44 ∨ k = 45 ∨ k = 46 ∨ k = 47 := by omega
  rcases this with rfl | rfl | rfl | rfl | rfl | rfl | rfl | rfl <;> rfl
theorem alk_let (D : ZD) (g : Nat) (c : Int32) : alk D (opLet D g c) := by
  refine ⟨fun k h1 h2 => ?_, rfl, fun r hr => ⟨rfl, rfl, rfl⟩, fun i hi => ⟨rfl, rfl, rfl⟩⟩
  have : k = 40 ∨ k = 41 ∨ k = 42 ∨ k = 43 ∨ k = 44 ∨ k = 45 ∨ k = 46 ∨ k = 47 := by omega
  rcases this with rfl | rfl | rfl | rfl | rfl | rfl | rfl | rfl <;> rfl
theorem LI.rule {D : ZD} {J : Nat → Int64} {lk : ZL} {as : Nat → Nat} {S S' : ZM} {L T : Nat → Nat} {M : Nat} {r : Nat → Nat} (hI : LI D J lk as S L T) {kd a b c : Int32} (m : mR (opRule D kd a b c) J S' M r) : flM J S' M r (opRule D kd a b c) 0 := flM.same m hI.n39 (hI.w.alk hI.c (alk_rule kd a b c hI.c.1) rfl rfl rfl)
theorem LI.tag {D : ZD} {J : Nat → Int64} {lk : ZL} {as : Nat → Nat} {S S' : ZM} {L T : Nat → Nat} {M : Nat} {r : Nat → Nat} (hI : LI D J lk as S L T) (m : mR (opTag D) J S' M r) : flM J S' M r (opTag D) 0 := flM.same m hI.n39 (hI.w.alk hI.c (alk_tag D) rfl rfl rfl)
theorem LI.letter {D : ZD} {J : Nat → Int64} {lk : ZL} {as : Nat → Nat} {S S' : ZM} {L T : Nat → Nat} {M : Nat} {r : Nat → Nat} (hI : LI D J lk as S L T) {g : Nat} {c : Int32} (m : mR (opLet D g c) J S' M r) : flM J S' M r (opLet D g c) 0 := flM.same m hI.n39 (hI.w.alk hI.c (alk_let D g c) rfl rfl rfl)
/-- a number below its bound, told both ways -/
theorem lt_ne {a : Int32} {n N : Nat} (ha : a = nI n) (h : n ≤ N) (hN : N < 2 ^ 31) : (a < nI N ↔ ¬ a = nI N) ∧ (n < N ↔ ¬ a = nI N) := by
  subst ha
  have e : nI n = nI N ↔ n = N := nI_eq (by omega) hN
  have l : nI n < nI N ↔ n < N := nI_ltI (by omega) hN
  rw [e, l]
  exact ⟨by omega, by omega⟩
theorem LI.c41 {D : ZD} {J : Nat → Int64} {lk : ZL} {as : Nat → Nat} {S : ZM} {L T : Nat → Nat} (hI : LI D J lk as S L T) : (D 41 0 < 24 ↔ ¬ D 41 0 = 24) ∧ (dT D < 24 ↔ ¬ D 41 0 = 24) := lt_ne hI.c.1.1.1 hI.c.1.1.2 (by decide)
theorem LI.c48 {D : ZD} {J : Nat → Int64} {lk : ZL} {as : Nat → Nat} {S : ZM} {L T : Nat → Nat} (hI : LI D J lk as S L T) : (D 48 0 < 16 ↔ ¬ D 48 0 = 16) ∧ (dG D < 16 ↔ ¬ D 48 0 = 16) := lt_ne hI.c.1.2.1.1 hI.c.1.2.1.2 (by decide)
theorem LI.c52 {D : ZD} {J : Nat → Int64} {lk : ZL} {as : Nat → Nat} {S : ZM} {L T : Nat → Nat} (hI : LI D J lk as S L T) : (D 52 0 < 40 ↔ ¬ D 52 0 = 40) ∧ (dR D < 40 ↔ ¬ D 52 0 = 40) := lt_ne hI.c.1.2.2.1.1 hI.c.1.2.2.1.2 (by decide)
theorem LI.c57 {D : ZD} {J : Nat → Int64} {lk : ZL} {as : Nat → Nat} {S : ZM} {L T : Nat → Nat} (hI : LI D J lk as S L T) : (D 57 0 < 8 ↔ ¬ D 57 0 = 8) ∧ (dL D < 8 ↔ ¬ D 57 0 = 8) := lt_ne hI.c.1.2.2.2.1 hI.c.1.2.2.2.2 (by decide)
theorem LI.c44 {D : ZD} {J : Nat → Int64} {lk : ZL} {as : Nat → Nat} {S : ZM} {L T : Nat → Nat} (hI : LI D J lk as S L T) {t : Nat} (h : t < 24) : D 44 t < 999 ↔ ¬ D 44 t = 999 := by
  by_cases ht : t < dT D
  · obtain ⟨n, e, hn⟩ := ((hI.1.q.1 t h).1 ht).2.2
    exact (lt_ne e hn (by decide)).1
  · have e : D 44 t = nI 0 := ((hI.1.q.1 t h).2 (by omega)).1
    exact (lt_ne e (N := 999) (by decide) (by decide)).1
theorem LI.c49 {D : ZD} {J : Nat → Int64} {lk : ZL} {as : Nat → Nat} {S : ZM} {L T : Nat → Nat} (hI : LI D J lk as S L T) {g : Nat} (h : g < 16) : D 49 g < 6 ↔ ¬ D 49 g = 6 := by
  obtain ⟨n, e, hn, -⟩ := hI.q3 g h
  exact (lt_ne e hn (by decide)).1
theorem i32_nlt {a b : Int32} : ¬ a < b ↔ b ≤ a := Int32.not_lt
theorem wfZ.trk {D D1 : ZD} (h : wfZ D) (h67 : D1 67 = D 67) (h70 : D1 70 = D 70) (h41 : dT D ≤ dT D1) : wfZ D1 := fun k t hk ht hd => by
  rw [h70]
  exact h k t (by simpa only [dU, h67] using hk) ht (Nat.le_trans h41 hd)
theorem pass_iff {y d : Int32} {n : Nat} (hd : d = nI n) (hn : n ≤ 9999) (h1 : 1 ≤ y) (h2 : y ≤ 365) : y ≤ 9999 - d ↔ ¬ 9999 < d + y := by
  obtain ⟨m, hm, rfl⟩ := nI_of2 (M := 365) (n := 365) (by decide) (Int32.not_lt.mpr (Int32.le_trans (by decide) h1)) h2
  subst hd
  have e9 : (9999 : Int32) = nI 9999 := by decide
  have e1 : (9999 : Int32) - nI n = nI (9999 - n) := by
    rw [e9, show nI 9999 = nI (9999 - n) + nI n from by rw [nI_add]; exact congrArg nI (by omega), Int32.add_sub_cancel]
  rw [e1, e9, nI_add, nI_leI (by omega) (by omega), nI_ltI (by omega) (by omega)]
  omega
theorem dT_trk {D : ZD} {x y : Int32} (hN : wfN D) (h : dT D < 24) : dT D ≤ dT (chgD (opTrk D x y)) := by
  show dT D ≤ ix (D 41 0 + 1)
  rw [hN.1.1, nI_1, ixn (by omega)]
  exact Nat.le_succ _
theorem rng_iff {y d : Int32} {n : Nat} (hd : d = nI n) (hn : n < 2 ^ 31) : (¬ y < 0 ∧ y < d) ↔ (0 ≤ y ∧ y ≤ d - 1) := by
  subst hd
  by_cases h : y < 0
  · exact ⟨fun a => absurd h a.1, fun a => absurd h (Int32.not_lt.mpr a.1)⟩
  · obtain ⟨j, hj, rfl⟩ := nI_of h
    cases n with
    | zero =>
      refine ⟨fun a => absurd a.2 (nI_nlt (Nat.zero_le _) hj), fun a => absurd (Int32.le_trans a.1 a.2) (by decide)⟩
    | succ m =>
      rw [nI_pred, nI_ltI hj hn, nI_leI hj (by omega)]
      exact ⟨fun a => ⟨nI_pos' hj, by omega⟩, fun a => ⟨h, by omega⟩⟩
theorem ix_lin {x y : Int32} {c : Nat} (hx : x = nI (ix x)) (hy : ¬ y < 0) (hb : c * ix x + ix y < 2 ^ 31) : ix (nI c * x + y) = c * ix x + ix y := by
  obtain ⟨j, hj, rfl⟩ := nI_of hy
  obtain ⟨a, ha⟩ : ∃ a : Nat, a = ix x := ⟨_, rfl⟩
  rw [← ha, ixn hj] at hb
  rw [← ha] at hx
  rw [← ha, ixn hj, hx, show nI c * nI a = nI (c * a) from (Int32.ofNat_mul c a).symm, nI_add, ixn hb]
theorem LI.nm {D : ZD} {J : Nat → Int64} {lk : ZL} {as : Nat → Nat} {S : ZM} {L T : Nat → Nat} (hI : LI D J lk as S L T) {g : Nat} (h : g < 16) (y : Int32) : (¬ y < 0 ∧ y < D 49 g) ↔ (0 ≤ y ∧ y ≤ D 49 g - 1) := by
  obtain ⟨n, e, hn, -⟩ := hI.q3 g h
  exact rng_iff e (by omega)
theorem LI.nj {D : ZD} {J : Nat → Int64} {lk : ZL} {as : Nat → Nat} {S : ZM} {L T : Nat → Nat} (hI : LI D J lk as S L T) {g : Nat} (h : g < 16) {y : Int32} (h1 : ¬ y < 0) (h2 : y < D 49 g) : ix y < 6 := by
  obtain ⟨n, e, hn, -⟩ := hI.q3 g h
  obtain ⟨j, hj, rfl⟩ := nI_of h1
  rw [e, nI_ltI hj (by omega)] at h2
  rw [ixn hj]; omega
set_option maxRecDepth 100000 in
theorem X_addTrack {l : Launch} (hl0 : l.stackTraces = false) {D : ZD} {J : Nat → Int64} {lk : ZL} {as : Nat → Nat} {S : ZM} {L T : Nat → Nat} {Sm : ZM} {M : Nat} {r : Nat → Nat} (hI : LI D J lk as S L T) (hM : iM D J Sm M r) (p0 p1 : Int32) : Mt zi (zPo (fun v S' => 1 ≤ p0 ∧ p0 ≤ 999 ∧ 0 ≤ p1 ∧ p1 ≤ 5 ∧ dT D < 24 ∧ v = some (zi (nI (dT D))) ∧ cR (chgD (opTrk D p0 p1)) J lk as S' L T) (fun E S' => S' = S ∧ ((¬ (1 ≤ p0 ∧ p0 ≤ 999 ∧ 0 ≤ p1 ∧ p1 ≤ 5) ∧ E = "java/lang/IllegalArgumentException") ∨ (1 ≤ p0 ∧ p0 ≤ 999 ∧ 0 ≤ p1 ∧ p1 ≤ 5 ∧ ¬ D 41 0 < 24 ∧ E = "java/lang/IllegalStateException")))) [("java/lang/IllegalArgumentException", 1), ("java/lang/IllegalStateException", 2)] D J lk as L T M r (fun PM => zMet l yX5_addTrack (Cond.code yX5_addTrack cX5_addTrack 3 (some .int) :: LWm) ({ frames := 347, cells := 0, slots := 0, locals := 8868 } : Room) 0 0 [zr (some M), zi p0, zi p1] Sm PM) := by
  refine Mt.mk1 (M_addTrack hl0 hM hI.n39 hI.c p0 p1) (fun E S2 h => h) ?_ ?_
  · rintro v S1 ⟨h1, h2, h3, h4, h5, rfl, hc⟩
    have n41 := hI.c41
    refine ⟨_, rfl, _, _, _, _, _, hc, (hI.2.1.trk rfl rfl (dT_trk hI.c.1 h5)), ?_⟩
    rintro v2 S2 (⟨c1, c2, c3, rfl, m⟩ | ⟨c1, rfl, m⟩ | ⟨c1, c2, c3, rfl, m⟩)
    · exact ⟨(by rw [← hI.c.1.1.1]), flM.ok m⟩
    · exfalso; first | contradiction | (clear hI hM m hc; simp_all; done)
    · exfalso; first | contradiction | (clear hI hM m hc; simp_all; done)
  · rintro E S1 ⟨rfl, (⟨h1, rfl⟩ | ⟨h1, h2, h3, h4, h5, rfl⟩)⟩
    · have n41 := hI.c41
      obtain ⟨e1, e2, e3⟩ := esN (e := "java/lang/IllegalArgumentException") (k := 1) (l := [("java/lang/IllegalArgumentException", 1), ("java/lang/IllegalStateException", 2)]) (List.mem_cons_self) (by decide) (by decide)
      refine ⟨1, e1, e2, e3, hI.1, ?_⟩
      rintro v2 S2 (⟨c1, c2, c3, rfl, m⟩ | ⟨c1, rfl, m⟩ | ⟨c1, c2, c3, rfl, m⟩)
      · exfalso; first | contradiction | (clear hI hM m e1 e2 e3; simp_all; done)
      · exact ⟨⟨_, rfl⟩, hI.fl m⟩
      · exfalso; first | contradiction | (clear hI hM m e1 e2 e3; simp_all; done)
    · have n41 := hI.c41
      obtain ⟨e1, e2, e3⟩ := esN (e := "java/lang/IllegalStateException") (k := 2) (l := [("java/lang/IllegalArgumentException", 1), ("java/lang/IllegalStateException", 2)]) (List.mem_cons_of_mem _ (List.mem_cons_self)) (by decide) (by decide)
      refine ⟨2, e1, e2, e3, hI.1, ?_⟩
      rintro v2 S2 (⟨c1, c2, c3, rfl, m⟩ | ⟨c1, rfl, m⟩ | ⟨c1, c2, c3, rfl, m⟩)
      · exfalso; first | contradiction | (clear hI hM m e1 e2 e3; simp_all; done)
      · exfalso; first | contradiction | (clear hI hM m e1 e2 e3; simp_all; done)
      · exact ⟨⟨_, rfl⟩, hI.fl m⟩
set_option maxRecDepth 100000 in
theorem X_removeTrack {l : Launch} (hl0 : l.stackTraces = false) {D : ZD} {J : Nat → Int64} {lk : ZL} {as : Nat → Nat} {S : ZM} {L T : Nat → Nat} {Sm : ZM} {M : Nat} {r : Nat → Nat} (hI : LI D J lk as S L T) (hM : iM D J Sm M r) (p0 : Int32) : Mt zi (zPo (fun v S' => ∃ t : Nat, t < 24 ∧ p0 = nI t ∧ prD D t = true ∧ v = some (zi (nI (cnF (prD (opRem D t)) 24))) ∧ cR (chgD (opRem D t)) J lk as S' L T) (fun E S' => S' = S ∧ ¬ hasTr D p0 ∧ E = "java/util/NoSuchElementException")) [("java/util/NoSuchElementException", 1)] D J lk as L T M r (fun PM => zMet l yX5_removeTrack (Cond.code yX5_removeTrack cX5_removeTrack 2 (some .int) :: LWm) ({ frames := 347, cells := 0, slots := 0, locals := 8868 } : Room) 0 0 [zr (some M), zi p0] Sm PM) := by
  refine Mt.mk1 (M_removeTrack hl0 hM hI.n39 hI.c p0) (fun E S2 h => h) ?_ ?_
  · rintro v S1 ⟨t, h1, h2, h3, rfl, hc⟩
    obtain rfl : t = ix p0 := by rw [h2, ixn (by omega)]
    have fp0 : hasTr D p0 := ⟨_, h1, h2, h3⟩
    have xp0 := h2
    refine ⟨_, rfl, _, _, _, _, _, hc, (hI.2.1.of ((chg_row rfl).trans rfl) ((chg_row rfl).trans rfl) ((chg_row rfl).trans rfl)), ?_⟩
    rintro v2 S2 (⟨c1, rfl, m⟩ | ⟨c1, rfl, m⟩)
    · exact ⟨rfl, flM.ok m⟩
    · exfalso; first | contradiction | (clear hI hM m hc h2 xp0; simp_all; done)
  · rintro E S1 ⟨rfl, h1, rfl⟩
    obtain ⟨e1, e2, e3⟩ := esN (e := "java/util/NoSuchElementException") (k := 1) (l := [("java/util/NoSuchElementException", 1)]) (List.mem_cons_self) (by decide) (by decide)
    refine ⟨1, e1, e2, e3, hI.1, ?_⟩
    rintro v2 S2 (⟨c1, rfl, m⟩ | ⟨c1, rfl, m⟩)
    · exfalso; first | contradiction | (clear hI hM m e1 e2 e3; simp_all; done)
    · exact ⟨⟨_, rfl⟩, hI.fl m⟩
set_option maxRecDepth 100000 in
theorem X_setRating {l : Launch} (hl0 : l.stackTraces = false) {D : ZD} {J : Nat → Int64} {lk : ZL} {as : Nat → Nat} {S : ZM} {L T : Nat → Nat} {Sm : ZM} {M : Nat} {r : Nat → Nat} (hI : LI D J lk as S L T) (hM : iM D J Sm M r) (p0 p1 : Int32) : Mt zi (zPo (fun v S' => ∃ t : Nat, t < 24 ∧ p0 = nI t ∧ prD D t = true ∧ 0 ≤ p1 ∧ p1 ≤ 5 ∧ v = some (zi (D 43 t)) ∧ cR (chgD (opRate D t p1)) J lk as S' L T) (fun E S' => S' = S ∧ ((¬ hasTr D p0 ∧ E = "java/util/NoSuchElementException") ∨ (hasTr D p0 ∧ ¬ (0 ≤ p1 ∧ p1 ≤ 5) ∧ E = "java/lang/IllegalArgumentException")))) [("java/util/NoSuchElementException", 1), ("java/lang/IllegalArgumentException", 2)] D J lk as L T M r (fun PM => zMet l yX5_setRating (Cond.code yX5_setRating cX5_setRating 4 (some .int) :: LWm) ({ frames := 347, cells := 0, slots := 0, locals := 8868 } : Room) 0 0 [zr (some M), zi p0, zi p1] Sm PM) := by
  refine Mt.mk1 (M_setRating hl0 hM hI.n39 hI.c p0 p1) (fun E S2 h => h) ?_ ?_
  · rintro v S1 ⟨t, h1, h2, h3, h4, h5, rfl, hc⟩
    obtain rfl : t = ix p0 := by rw [h2, ixn (by omega)]
    have fp0 : hasTr D p0 := ⟨_, h1, h2, h3⟩
    have xp0 := h2
    refine ⟨_, rfl, _, _, _, _, _, hc, (hI.2.1.of ((chg_row rfl).trans rfl) ((chg_row rfl).trans rfl) ((chg_row rfl).trans rfl)), ?_⟩
    rintro v2 S2 (⟨c1, c2, rfl, m⟩ | ⟨c1, rfl, m⟩ | ⟨c1, c2, rfl, m⟩)
    · exact ⟨rfl, flM.ok m⟩
    · exfalso; first | contradiction | (clear hI hM m hc h2 xp0; simp_all; done)
    · exfalso; first | contradiction | (clear hI hM m hc h2 xp0; simp_all; done)
  · rintro E S1 ⟨rfl, (⟨h1, rfl⟩ | ⟨h1, h2, rfl⟩)⟩
    · obtain ⟨e1, e2, e3⟩ := esN (e := "java/util/NoSuchElementException") (k := 1) (l := [("java/util/NoSuchElementException", 1), ("java/lang/IllegalArgumentException", 2)]) (List.mem_cons_self) (by decide) (by decide)
      refine ⟨1, e1, e2, e3, hI.1, ?_⟩
      rintro v2 S2 (⟨c1, c2, rfl, m⟩ | ⟨c1, rfl, m⟩ | ⟨c1, c2, rfl, m⟩)
      · exfalso; first | contradiction | (clear hI hM m e1 e2 e3; simp_all; done)
      · exact ⟨⟨_, rfl⟩, hI.fl m⟩
      · exfalso; first | contradiction | (clear hI hM m e1 e2 e3; simp_all; done)
    · obtain ⟨e1, e2, e3⟩ := esN (e := "java/lang/IllegalArgumentException") (k := 2) (l := [("java/util/NoSuchElementException", 1), ("java/lang/IllegalArgumentException", 2)]) (List.mem_cons_of_mem _ (List.mem_cons_self)) (by decide) (by decide)
      refine ⟨2, e1, e2, e3, hI.1, ?_⟩
      rintro v2 S2 (⟨c1, c2, rfl, m⟩ | ⟨c1, rfl, m⟩ | ⟨c1, c2, rfl, m⟩)
      · exfalso; first | contradiction | (clear hI hM m e1 e2 e3; simp_all; done)
      · exfalso; first | contradiction | (clear hI hM m e1 e2 e3; simp_all; done)
      · exact ⟨⟨_, rfl⟩, hI.fl m⟩
set_option maxRecDepth 100000 in
theorem X_play {l : Launch} (hl0 : l.stackTraces = false) {D : ZD} {J : Nat → Int64} {lk : ZL} {as : Nat → Nat} {S : ZM} {L T : Nat → Nat} {Sm : ZM} {M : Nat} {r : Nat → Nat} (hI : LI D J lk as S L T) (hM : iM D J Sm M r) (p0 : Int32) : Mt zi (zPo (fun v S' => ∃ t : Nat, t < 24 ∧ p0 = nI t ∧ prD D t = true ∧ D 44 t < 999 ∧ v = some (zi (D 44 t + 1)) ∧ cR (chgD (opPlay D t)) J lk as S' L T) (fun E S' => S' = S ∧ ((¬ hasTr D p0 ∧ E = "java/util/NoSuchElementException") ∨ (∃ t : Nat, t < 24 ∧ p0 = nI t ∧ prD D t = true ∧ ¬ D 44 t < 999 ∧ E = "java/lang/IllegalStateException")))) [("java/util/NoSuchElementException", 1), ("java/lang/IllegalStateException", 2)] D J lk as L T M r (fun PM => zMet l yX5_play (Cond.code yX5_play cX5_play 2 (some .int) :: LWm) ({ frames := 347, cells := 0, slots := 0, locals := 8868 } : Room) 0 0 [zr (some M), zi p0] Sm PM) := by
  refine Mt.mk1 (M_play hl0 hM hI.n39 hI.c p0) (fun E S2 h => h) ?_ ?_
  · rintro v S1 ⟨t, h1, h2, h3, h4, rfl, hc⟩
    obtain rfl : t = ix p0 := by rw [h2, ixn (by omega)]
    have fp0 : hasTr D p0 := ⟨_, h1, h2, h3⟩
    have xp0 := h2
    have n44 := hI.c44 h1
    refine ⟨_, rfl, _, _, _, _, _, hc, (hI.2.1.of ((chg_row rfl).trans rfl) ((chg_row rfl).trans rfl) ((chg_row rfl).trans rfl)), ?_⟩
    rintro v2 S2 (⟨c1, c2, rfl, m⟩ | ⟨c1, rfl, m⟩ | ⟨c1, c2, rfl, m⟩)
    · exact ⟨rfl, flM.ok m⟩
    · exfalso; first | contradiction | (clear hI hM m hc h2 xp0; simp_all; done)
    · exfalso; first | contradiction | (clear hI hM m hc h2 xp0; simp_all; done)
  · rintro E S1 ⟨rfl, (⟨h1, rfl⟩ | ⟨t, h1, h2, h3, h4, rfl⟩)⟩
    · obtain ⟨e1, e2, e3⟩ := esN (e := "java/util/NoSuchElementException") (k := 1) (l := [("java/util/NoSuchElementException", 1), ("java/lang/IllegalStateException", 2)]) (List.mem_cons_self) (by decide) (by decide)
      refine ⟨1, e1, e2, e3, hI.1, ?_⟩
      rintro v2 S2 (⟨c1, c2, rfl, m⟩ | ⟨c1, rfl, m⟩ | ⟨c1, c2, rfl, m⟩)
      · exfalso; first | contradiction | (clear hI hM m e1 e2 e3; simp_all; done)
      · exact ⟨⟨_, rfl⟩, hI.fl m⟩
      · exfalso; first | contradiction | (clear hI hM m e1 e2 e3; simp_all; done)
    · obtain rfl : t = ix p0 := by rw [h2, ixn (by omega)]
      have fp0 : hasTr D p0 := ⟨_, h1, h2, h3⟩
      have xp0 := h2
      have n44 := hI.c44 h1
      obtain ⟨e1, e2, e3⟩ := esN (e := "java/lang/IllegalStateException") (k := 2) (l := [("java/util/NoSuchElementException", 1), ("java/lang/IllegalStateException", 2)]) (List.mem_cons_of_mem _ (List.mem_cons_self)) (by decide) (by decide)
      refine ⟨2, e1, e2, e3, hI.1, ?_⟩
      rintro v2 S2 (⟨c1, c2, rfl, m⟩ | ⟨c1, rfl, m⟩ | ⟨c1, c2, rfl, m⟩)
      · exfalso; first | contradiction | (clear hI hM m e1 e2 e3 h2 xp0; simp_all; done)
      · exfalso; first | contradiction | (clear hI hM m e1 e2 e3 h2 xp0; simp_all; done)
      · exact ⟨⟨_, rfl⟩, hI.fl m⟩
set_option maxRecDepth 100000 in
theorem X_pass {l : Launch} (hl0 : l.stackTraces = false) {D : ZD} {J : Nat → Int64} {lk : ZL} {as : Nat → Nat} {S : ZM} {L T : Nat → Nat} {Sm : ZM} {M : Nat} {r : Nat → Nat} (hI : LI D J lk as S L T) (hM : iM D J Sm M r) (p0 : Int32) : Mt zi (zPo (fun v S' => 1 ≤ p0 ∧ p0 ≤ 365 ∧ p0 ≤ 9999 - D 40 0 ∧ v = some (zi (D 40 0 + p0)) ∧ cR (chgD (opPass D p0)) J lk as S' L T) (fun E S' => S' = S ∧ ((¬ (1 ≤ p0 ∧ p0 ≤ 365) ∧ E = "java/lang/IllegalArgumentException") ∨ (1 ≤ p0 ∧ p0 ≤ 365 ∧ ¬ p0 ≤ 9999 - D 40 0 ∧ E = "java/lang/IllegalStateException")))) [("java/lang/IllegalArgumentException", 1), ("java/lang/IllegalStateException", 2)] D J lk as L T M r (fun PM => zMet l yX5_pass (Cond.code yX5_pass cX5_pass 2 (some .int) :: LWm) ({ frames := 347, cells := 0, slots := 0, locals := 8868 } : Room) 0 0 [zr (some M), zi p0] Sm PM) := by
  refine Mt.mk1 (M_pass hl0 hM hI.n39 hI.c p0) (fun E S2 h => h) ?_ ?_
  · rintro v S1 ⟨h1, h2, h3, rfl, hc⟩
    have n40 := pass_iff hI.1.q.2.1.choose_spec.1 hI.1.q.2.1.choose_spec.2 h1 h2
    refine ⟨_, rfl, _, _, _, _, _, hc, (hI.2.1.of ((chg_row rfl).trans rfl) ((chg_row rfl).trans rfl) ((chg_row rfl).trans rfl)), ?_⟩
    rintro v2 S2 (⟨c1, c2, rfl, m⟩ | ⟨c1, rfl, m⟩ | ⟨c1, c2, rfl, m⟩)
    · exact ⟨rfl, flM.ok m⟩
    · exact absurd ⟨h1, h2⟩ c1
    · exact absurd c2 (n40.mp h3)
  · rintro E S1 ⟨rfl, (⟨h1, rfl⟩ | ⟨h1, h2, h3, rfl⟩)⟩
    · obtain ⟨e1, e2, e3⟩ := esN (e := "java/lang/IllegalArgumentException") (k := 1) (l := [("java/lang/IllegalArgumentException", 1), ("java/lang/IllegalStateException", 2)]) (List.mem_cons_self) (by decide) (by decide)
      refine ⟨1, e1, e2, e3, hI.1, ?_⟩
      rintro v2 S2 (⟨c1, c2, rfl, m⟩ | ⟨c1, rfl, m⟩ | ⟨c1, c2, rfl, m⟩)
      · exact absurd c1 h1
      · exact ⟨⟨_, rfl⟩, hI.fl m⟩
      · exact absurd c1 h1
    · have n40 := pass_iff hI.1.q.2.1.choose_spec.1 hI.1.q.2.1.choose_spec.2 h1 h2
      obtain ⟨e1, e2, e3⟩ := esN (e := "java/lang/IllegalStateException") (k := 2) (l := [("java/lang/IllegalArgumentException", 1), ("java/lang/IllegalStateException", 2)]) (List.mem_cons_of_mem _ (List.mem_cons_self)) (by decide) (by decide)
      refine ⟨2, e1, e2, e3, hI.1, ?_⟩
      rintro v2 S2 (⟨c1, c2, rfl, m⟩ | ⟨c1, rfl, m⟩ | ⟨c1, c2, rfl, m⟩)
      · exact absurd (n40.mpr c2) h3
      · exact absurd ⟨h1, h2⟩ c1
      · exact ⟨⟨_, rfl⟩, hI.fl m⟩
set_option maxRecDepth 100000 in
theorem X_addTag {l : Launch} (hl0 : l.stackTraces = false) {D : ZD} {J : Nat → Int64} {lk : ZL} {as : Nat → Nat} {S : ZM} {L T : Nat → Nat} {Sm : ZM} {M : Nat} {r : Nat → Nat} (hI : LI D J lk as S L T) (hM : iM D J Sm M r) : Mt zi (zPo (fun v S' => dG D < 16 ∧ v = some (zi (nI (dG D))) ∧ ∃ T1 : Nat → Nat, cR (opTag D) J lk as S' L T1) (fun E S' => S' = S ∧ ¬ D 48 0 < 16 ∧ E = "java/lang/IllegalStateException")) [("java/lang/IllegalStateException", 1)] D J lk as L T M r (fun PM => zMet l yX5_addTag (Cond.code yX5_addTag cX5_addTag 1 (some .int) :: LWm) ({ frames := 1, cells := 0, slots := 0, locals := 22 } : Room) 0 0 [zr (some M)] Sm PM) := by
  refine Mt.mk1 (M_addTag hl0 hM hI.n39 hI.c) (fun E S2 h => h) ?_ ?_
  · rintro v S1 ⟨h1, rfl, T1, hc⟩
    have n48 := hI.c48
    refine ⟨_, rfl, _, _, _, _, _, hc, (hI.2.1.of (rfl) (rfl) (rfl)), ?_⟩
    rintro v2 S2 (⟨c1, rfl, m⟩ | ⟨c1, rfl, m⟩)
    · exact ⟨(by rw [← hI.c.1.2.1.1]), hI.tag m⟩
    · exfalso; first | contradiction | (clear hI hM m hc; simp_all; done)
  · rintro E S1 ⟨rfl, h1, rfl⟩
    have n48 := hI.c48
    obtain ⟨e1, e2, e3⟩ := esN (e := "java/lang/IllegalStateException") (k := 1) (l := [("java/lang/IllegalStateException", 1)]) (List.mem_cons_self) (by decide) (by decide)
    refine ⟨1, e1, e2, e3, hI.1, ?_⟩
    rintro v2 S2 (⟨c1, rfl, m⟩ | ⟨c1, rfl, m⟩)
    · exfalso; first | contradiction | (clear hI hM m e1 e2 e3; simp_all; done)
    · exact ⟨⟨_, rfl⟩, hI.fl m⟩
set_option maxRecDepth 100000 in
theorem X_letter {l : Launch} (hl0 : l.stackTraces = false) {D : ZD} {J : Nat → Int64} {lk : ZL} {as : Nat → Nat} {S : ZM} {L T : Nat → Nat} {Sm : ZM} {M : Nat} {r : Nat → Nat} (hI : LI D J lk as S L T) (hM : iM D J Sm M r) (p0 p1 : Int32) : Mt zi (zPo (fun v S' => ∃ g : Nat, g < 16 ∧ g < dG D ∧ p0 = nI g ∧ D 51 g = 0 ∧ 97 ≤ p1 ∧ p1 ≤ 122 ∧ D 49 g < 6 ∧ v = some (zi (D 49 g + 1)) ∧ cR (opLet D g p1) J lk as S' L T) (fun E S' => S' = S ∧ ((¬ hasTg D p0 ∧ E = "java/util/NoSuchElementException") ∨ (hasTg D p0 ∧ ¬ (97 ≤ p1 ∧ p1 ≤ 122) ∧ E = "java/lang/IllegalArgumentException") ∨ (∃ g : Nat, g < 16 ∧ g < dG D ∧ p0 = nI g ∧ D 51 g = 0 ∧ 97 ≤ p1 ∧ p1 ≤ 122 ∧ ¬ D 49 g < 6 ∧ E = "java/lang/IllegalStateException")))) [("java/util/NoSuchElementException", 1), ("java/lang/IllegalArgumentException", 2), ("java/lang/IllegalStateException", 3)] D J lk as L T M r (fun PM => zMet l yX5_letter (Cond.code yX5_letter cX5_letter 3 (some .int) :: LWm) ({ frames := 2, cells := 0, slots := 0, locals := 43 } : Room) 0 0 [zr (some M), zi p0, zi p1] Sm PM) := by
  refine Mt.mk1 (M_letter hl0 hM hI.n39 hI.c hI.q3 p0 p1) (fun E S2 h => h) ?_ ?_
  · rintro v S1 ⟨g, h1, h2, h3, h4, h5, h6, h7, rfl, hc⟩
    obtain rfl : g = ix p0 := by rw [h3, ixn (by omega)]
    have fp0 : hasTg D p0 := ⟨_, h1, h2, h3, h4⟩
    have xp0 := h3
    have n49 := hI.c49 h1
    refine ⟨_, rfl, _, _, _, _, _, hc, (hI.2.1.of (rfl) (rfl) (rfl)), ?_⟩
    rintro v2 S2 (⟨c1, c2, c3, rfl, m⟩ | ⟨c1, rfl, m⟩ | ⟨c1, c2, rfl, m⟩ | ⟨c1, c2, c3, rfl, m⟩)
    · exact ⟨rfl, hI.letter m⟩
    · exfalso; first | contradiction | (clear hI hM m hc h3 xp0; simp_all; done)
    · exfalso; first | contradiction | (clear hI hM m hc h3 xp0; simp_all; done)
    · exfalso; first | contradiction | (clear hI hM m hc h3 xp0; simp_all; done)
  · rintro E S1 ⟨rfl, (⟨h1, rfl⟩ | ⟨h1, h2, rfl⟩ | ⟨g, h1, h2, h3, h4, h5, h6, h7, rfl⟩)⟩
    · obtain ⟨e1, e2, e3⟩ := esN (e := "java/util/NoSuchElementException") (k := 1) (l := [("java/util/NoSuchElementException", 1), ("java/lang/IllegalArgumentException", 2), ("java/lang/IllegalStateException", 3)]) (List.mem_cons_self) (by decide) (by decide)
      refine ⟨1, e1, e2, e3, hI.1, ?_⟩
      rintro v2 S2 (⟨c1, c2, c3, rfl, m⟩ | ⟨c1, rfl, m⟩ | ⟨c1, c2, rfl, m⟩ | ⟨c1, c2, c3, rfl, m⟩)
      · exfalso; first | contradiction | (clear hI hM m e1 e2 e3; simp_all; done)
      · exact ⟨⟨_, rfl⟩, hI.fl m⟩
      · exfalso; first | contradiction | (clear hI hM m e1 e2 e3; simp_all; done)
      · exfalso; first | contradiction | (clear hI hM m e1 e2 e3; simp_all; done)
    · obtain ⟨e1, e2, e3⟩ := esN (e := "java/lang/IllegalArgumentException") (k := 2) (l := [("java/util/NoSuchElementException", 1), ("java/lang/IllegalArgumentException", 2), ("java/lang/IllegalStateException", 3)]) (List.mem_cons_of_mem _ (List.mem_cons_self)) (by decide) (by decide)
      refine ⟨2, e1, e2, e3, hI.1, ?_⟩
      rintro v2 S2 (⟨c1, c2, c3, rfl, m⟩ | ⟨c1, rfl, m⟩ | ⟨c1, c2, rfl, m⟩ | ⟨c1, c2, c3, rfl, m⟩)
      · exfalso; first | contradiction | (clear hI hM m e1 e2 e3; simp_all; done)
      · exfalso; first | contradiction | (clear hI hM m e1 e2 e3; simp_all; done)
      · exact ⟨⟨_, rfl⟩, hI.fl m⟩
      · exfalso; first | contradiction | (clear hI hM m e1 e2 e3; simp_all; done)
    · obtain rfl : g = ix p0 := by rw [h3, ixn (by omega)]
      have fp0 : hasTg D p0 := ⟨_, h1, h2, h3, h4⟩
      have xp0 := h3
      have n49 := hI.c49 h1
      obtain ⟨e1, e2, e3⟩ := esN (e := "java/lang/IllegalStateException") (k := 3) (l := [("java/util/NoSuchElementException", 1), ("java/lang/IllegalArgumentException", 2), ("java/lang/IllegalStateException", 3)]) (List.mem_cons_of_mem _ (List.mem_cons_of_mem _ (List.mem_cons_self))) (by decide) (by decide)
      refine ⟨3, e1, e2, e3, hI.1, ?_⟩
      rintro v2 S2 (⟨c1, c2, c3, rfl, m⟩ | ⟨c1, rfl, m⟩ | ⟨c1, c2, rfl, m⟩ | ⟨c1, c2, c3, rfl, m⟩)
      · exfalso; first | contradiction | (clear hI hM m e1 e2 e3 h3 xp0; simp_all; done)
      · exfalso; first | contradiction | (clear hI hM m e1 e2 e3 h3 xp0; simp_all; done)
      · exfalso; first | contradiction | (clear hI hM m e1 e2 e3 h3 xp0; simp_all; done)
      · exact ⟨⟨_, rfl⟩, hI.fl m⟩
set_option maxRecDepth 100000 in
theorem X_tag {l : Launch} (hl0 : l.stackTraces = false) {D : ZD} {J : Nat → Int64} {lk : ZL} {as : Nat → Nat} {S : ZM} {L T : Nat → Nat} {Sm : ZM} {M : Nat} {r : Nat → Nat} (hI : LI D J lk as S L T) (hM : iM D J Sm M r) (p0 p1 : Int32) : Mt zi (zPo (fun v S' => ∃ t g : Nat, t < 24 ∧ p0 = nI t ∧ prD D t = true ∧ g < 16 ∧ g < dG D ∧ p1 = nI g ∧ D 51 g = 0 ∧ hasB (D 46 t) (nI g) = false ∧ v = some (zi (bcJ (D 46 t ||| bitI g))) ∧ cR (chgD (opTags D t (D 46 t ||| bitI g))) J lk as S' L T) (fun E S' => S' = S ∧ ((¬ (hasTr D p0 ∧ hasTg D p1) ∧ E = "java/util/NoSuchElementException") ∨ (∃ t g : Nat, t < 24 ∧ p0 = nI t ∧ prD D t = true ∧ g < 16 ∧ g < dG D ∧ p1 = nI g ∧ D 51 g = 0 ∧ hasB (D 46 t) (nI g) = true ∧ E = "java/lang/IllegalStateException")))) [("java/util/NoSuchElementException", 1), ("java/lang/IllegalStateException", 2)] D J lk as L T M r (fun PM => zMet l yX5_tag (Cond.code yX5_tag cX5_tag 3 (some .int) :: LWm) ({ frames := 347, cells := 0, slots := 0, locals := 8868 } : Room) 0 0 [zr (some M), zi p0, zi p1] Sm PM) := by
  refine Mt.mk1 (M_tag hl0 hM hI.n39 hI.c p0 p1) (fun E S2 h => h) ?_ ?_
  · rintro v S1 ⟨t, g, h1, h2, h3, h4, h5, h6, h7, h8, rfl, hc⟩
    obtain rfl : t = ix p0 := by rw [h2, ixn (by omega)]
    have fp0 : hasTr D p0 := ⟨_, h1, h2, h3⟩
    have xp0 := h2
    obtain rfl : g = ix p1 := by rw [h6, ixn (by omega)]
    have fp1 : hasTg D p1 := ⟨_, h4, h5, h6, h7⟩
    have xp1 := h6
    refine ⟨_, rfl, _, _, _, _, _, hc, (wfZ.nil ((congrFun (chg_row rfl) 0).trans rfl)), ?_⟩
    rintro v2 S2 (⟨c1, c2, c3, rfl, m⟩ | ⟨c1, rfl, m⟩ | ⟨c1, c2, c3, rfl, m⟩)
    · exact ⟨(by rw [ctF_bc]), flM.ok m⟩
    · exfalso; first | contradiction | (clear hI hM m hc h2 xp0 h6 xp1; simp_all; done)
    · exfalso; first | contradiction | (clear hI hM m hc h2 xp0 h6 xp1; simp_all; done)
  · rintro E S1 ⟨rfl, (⟨h1, rfl⟩ | ⟨t, g, h1, h2, h3, h4, h5, h6, h7, h8, rfl⟩)⟩
    · obtain ⟨e1, e2, e3⟩ := esN (e := "java/util/NoSuchElementException") (k := 1) (l := [("java/util/NoSuchElementException", 1), ("java/lang/IllegalStateException", 2)]) (List.mem_cons_self) (by decide) (by decide)
      refine ⟨1, e1, e2, e3, hI.1, ?_⟩
      rintro v2 S2 (⟨c1, c2, c3, rfl, m⟩ | ⟨c1, rfl, m⟩ | ⟨c1, c2, c3, rfl, m⟩)
      · exfalso; first | contradiction | (clear hI hM m e1 e2 e3; simp_all; done)
      · exact ⟨⟨_, rfl⟩, hI.fl m⟩
      · exfalso; first | contradiction | (clear hI hM m e1 e2 e3; simp_all; done)
    · obtain rfl : t = ix p0 := by rw [h2, ixn (by omega)]
      have fp0 : hasTr D p0 := ⟨_, h1, h2, h3⟩
      have xp0 := h2
      obtain rfl : g = ix p1 := by rw [h6, ixn (by omega)]
      have fp1 : hasTg D p1 := ⟨_, h4, h5, h6, h7⟩
      have xp1 := h6
      obtain ⟨e1, e2, e3⟩ := esN (e := "java/lang/IllegalStateException") (k := 2) (l := [("java/util/NoSuchElementException", 1), ("java/lang/IllegalStateException", 2)]) (List.mem_cons_of_mem _ (List.mem_cons_self)) (by decide) (by decide)
      refine ⟨2, e1, e2, e3, hI.1, ?_⟩
      rintro v2 S2 (⟨c1, c2, c3, rfl, m⟩ | ⟨c1, rfl, m⟩ | ⟨c1, c2, c3, rfl, m⟩)
      · exfalso; first | contradiction | (clear hI hM m e1 e2 e3 h2 xp0 h6 xp1; simp_all; done)
      · exfalso; first | contradiction | (clear hI hM m e1 e2 e3 h2 xp0 h6 xp1; simp_all; done)
      · exact ⟨⟨_, rfl⟩, hI.fl m⟩
set_option maxRecDepth 100000 in
theorem X_untag {l : Launch} (hl0 : l.stackTraces = false) {D : ZD} {J : Nat → Int64} {lk : ZL} {as : Nat → Nat} {S : ZM} {L T : Nat → Nat} {Sm : ZM} {M : Nat} {r : Nat → Nat} (hI : LI D J lk as S L T) (hM : iM D J Sm M r) (p0 p1 : Int32) : Mt zi (zPo (fun v S' => ∃ t g : Nat, t < 24 ∧ p0 = nI t ∧ prD D t = true ∧ g < 16 ∧ g < dG D ∧ p1 = nI g ∧ D 51 g = 0 ∧ hasB (D 46 t) (nI g) = true ∧ v = some (zi (bcJ (D 46 t &&& (bitI g ^^^ (-1))))) ∧ cR (chgD (opTags D t (D 46 t &&& (bitI g ^^^ (-1))))) J lk as S' L T) (fun E S' => S' = S ∧ ((¬ (hasTr D p0 ∧ hasTg D p1) ∧ E = "java/util/NoSuchElementException") ∨ (∃ t g : Nat, t < 24 ∧ p0 = nI t ∧ prD D t = true ∧ g < 16 ∧ g < dG D ∧ p1 = nI g ∧ D 51 g = 0 ∧ hasB (D 46 t) (nI g) = false ∧ E = "java/lang/IllegalStateException")))) [("java/util/NoSuchElementException", 1), ("java/lang/IllegalStateException", 2)] D J lk as L T M r (fun PM => zMet l yX5_untag (Cond.code yX5_untag cX5_untag 3 (some .int) :: LWm) ({ frames := 347, cells := 0, slots := 0, locals := 8868 } : Room) 0 0 [zr (some M), zi p0, zi p1] Sm PM) := by
  refine Mt.mk1 (M_untag hl0 hM hI.n39 hI.c p0 p1) (fun E S2 h => h) ?_ ?_
  · rintro v S1 ⟨t, g, h1, h2, h3, h4, h5, h6, h7, h8, rfl, hc⟩
    obtain rfl : t = ix p0 := by rw [h2, ixn (by omega)]
    have fp0 : hasTr D p0 := ⟨_, h1, h2, h3⟩
    have xp0 := h2
    obtain rfl : g = ix p1 := by rw [h6, ixn (by omega)]
    have fp1 : hasTg D p1 := ⟨_, h4, h5, h6, h7⟩
    have xp1 := h6
    refine ⟨_, rfl, _, _, _, _, _, hc, (wfZ.nil ((congrFun (chg_row rfl) 0).trans rfl)), ?_⟩
    rintro v2 S2 (⟨c1, c2, c3, rfl, m⟩ | ⟨c1, rfl, m⟩ | ⟨c1, c2, c3, rfl, m⟩)
    · exact ⟨(by rw [ctF_bc]), flM.ok m⟩
    · exfalso; first | contradiction | (clear hI hM m hc h2 xp0 h6 xp1; simp_all; done)
    · exfalso; first | contradiction | (clear hI hM m hc h2 xp0 h6 xp1; simp_all; done)
  · rintro E S1 ⟨rfl, (⟨h1, rfl⟩ | ⟨t, g, h1, h2, h3, h4, h5, h6, h7, h8, rfl⟩)⟩
    · obtain ⟨e1, e2, e3⟩ := esN (e := "java/util/NoSuchElementException") (k := 1) (l := [("java/util/NoSuchElementException", 1), ("java/lang/IllegalStateException", 2)]) (List.mem_cons_self) (by decide) (by decide)
      refine ⟨1, e1, e2, e3, hI.1, ?_⟩
      rintro v2 S2 (⟨c1, c2, c3, rfl, m⟩ | ⟨c1, rfl, m⟩ | ⟨c1, c2, c3, rfl, m⟩)
      · exfalso; first | contradiction | (clear hI hM m e1 e2 e3; simp_all; done)
      · exact ⟨⟨_, rfl⟩, hI.fl m⟩
      · exfalso; first | contradiction | (clear hI hM m e1 e2 e3; simp_all; done)
    · obtain rfl : t = ix p0 := by rw [h2, ixn (by omega)]
      have fp0 : hasTr D p0 := ⟨_, h1, h2, h3⟩
      have xp0 := h2
      obtain rfl : g = ix p1 := by rw [h6, ixn (by omega)]
      have fp1 : hasTg D p1 := ⟨_, h4, h5, h6, h7⟩
      have xp1 := h6
      obtain ⟨e1, e2, e3⟩ := esN (e := "java/lang/IllegalStateException") (k := 2) (l := [("java/util/NoSuchElementException", 1), ("java/lang/IllegalStateException", 2)]) (List.mem_cons_of_mem _ (List.mem_cons_self)) (by decide) (by decide)
      refine ⟨2, e1, e2, e3, hI.1, ?_⟩
      rintro v2 S2 (⟨c1, c2, c3, rfl, m⟩ | ⟨c1, rfl, m⟩ | ⟨c1, c2, c3, rfl, m⟩)
      · exfalso; first | contradiction | (clear hI hM m e1 e2 e3 h2 xp0 h6 xp1; simp_all; done)
      · exfalso; first | contradiction | (clear hI hM m e1 e2 e3 h2 xp0 h6 xp1; simp_all; done)
      · exact ⟨⟨_, rfl⟩, hI.fl m⟩
set_option maxRecDepth 100000 in
theorem X_hasTag {l : Launch} (hl0 : l.stackTraces = false) {D : ZD} {J : Nat → Int64} {lk : ZL} {as : Nat → Nat} {S : ZM} {L T : Nat → Nat} {Sm : ZM} {M : Nat} {r : Nat → Nat} (hI : LI D J lk as S L T) (hM : iM D J Sm M r) (p0 : Int32) : Mt zi (zPo (fun v S' => ∃ g : Nat, g < 16 ∧ g < dG D ∧ p0 = nI g ∧ D 51 g = 0 ∧ dR D < 40 ∧ v = some (zi (D 52 0)) ∧ cR (opRule D 0 (nI g) 0 1) J lk (opAs D as g) S' L T) (fun E S' => cR D J lk as S' L T ∧ ((¬ hasTg D p0 ∧ E = "java/util/NoSuchElementException") ∨ (hasTg D p0 ∧ ¬ D 52 0 < 40 ∧ E = "java/lang/IllegalStateException")))) [("java/util/NoSuchElementException", 1), ("java/lang/IllegalStateException", 2)] D J lk as L T M r (fun PM => zMet l yX5_hasTag (Cond.code yX5_hasTag cX5_hasTag 2 (some .int) :: LWm) ({ frames := 2, cells := 0, slots := 0, locals := 47 } : Room) 0 0 [zr (some M), zi p0] Sm PM) := by
  refine Mt.mk1 (M_hasTag hl0 hM hI.n39 hI.c p0) (fun E S2 h => h) ?_ ?_
  · rintro v S1 ⟨g, h1, h2, h3, h4, h5, rfl, hc⟩
    obtain rfl : g = ix p0 := by rw [h3, ixn (by omega)]
    have fp0 : hasTg D p0 := ⟨_, h1, h2, h3, h4⟩
    have xp0 := h3
    have n52 := hI.c52
    rw [← h3] at hc
    refine ⟨_, rfl, _, _, _, _, _, hc, (hI.2.1.of (rfl) (rfl) (rfl)), ?_⟩
    rintro v2 S2 (⟨c1, c2, rfl, m⟩ | ⟨c1, rfl, m⟩ | ⟨c1, c2, rfl, m⟩)
    · exact ⟨rfl, hI.rule m⟩
    · exfalso; first | contradiction | (clear hI hM m hc h3 xp0; simp_all; done)
    · exfalso; first | contradiction | (clear hI hM m hc h3 xp0; simp_all; done)
  · rintro E S1 ⟨hcD, (⟨h1, rfl⟩ | ⟨h1, h2, rfl⟩)⟩
    · obtain ⟨e1, e2, e3⟩ := esN (e := "java/util/NoSuchElementException") (k := 1) (l := [("java/util/NoSuchElementException", 1), ("java/lang/IllegalStateException", 2)]) (List.mem_cons_self) (by decide) (by decide)
      refine ⟨1, e1, e2, e3, hcD, ?_⟩
      rintro v2 S2 (⟨c1, c2, rfl, m⟩ | ⟨c1, rfl, m⟩ | ⟨c1, c2, rfl, m⟩)
      · exfalso; first | contradiction | (clear hI hM m e1 e2 e3 hcD; simp_all; done)
      · exact ⟨⟨_, rfl⟩, hI.fl m⟩
      · exfalso; first | contradiction | (clear hI hM m e1 e2 e3 hcD; simp_all; done)
    · have n52 := hI.c52
      obtain ⟨e1, e2, e3⟩ := esN (e := "java/lang/IllegalStateException") (k := 2) (l := [("java/util/NoSuchElementException", 1), ("java/lang/IllegalStateException", 2)]) (List.mem_cons_of_mem _ (List.mem_cons_self)) (by decide) (by decide)
      refine ⟨2, e1, e2, e3, hcD, ?_⟩
      rintro v2 S2 (⟨c1, c2, rfl, m⟩ | ⟨c1, rfl, m⟩ | ⟨c1, c2, rfl, m⟩)
      · exfalso; first | contradiction | (clear hI hM m e1 e2 e3 hcD; simp_all; done)
      · exfalso; first | contradiction | (clear hI hM m e1 e2 e3 hcD; simp_all; done)
      · exact ⟨⟨_, rfl⟩, hI.fl m⟩
set_option maxRecDepth 100000 in
theorem X_rated {l : Launch} (hl0 : l.stackTraces = false) {D : ZD} {J : Nat → Int64} {lk : ZL} {as : Nat → Nat} {S : ZM} {L T : Nat → Nat} {Sm : ZM} {M : Nat} {r : Nat → Nat} (hI : LI D J lk as S L T) (hM : iM D J Sm M r) (p0 : Int32) : Mt zi (zPo (fun v S' => 0 ≤ p0 ∧ p0 ≤ 5 ∧ dR D < 40 ∧ v = some (zi (D 52 0)) ∧ cR (opRule D 1 p0 0 1) J lk (opAs D as 0) S' L T) (fun E S' => cR D J lk as S' L T ∧ ((¬ (0 ≤ p0 ∧ p0 ≤ 5) ∧ E = "java/lang/IllegalArgumentException") ∨ (0 ≤ p0 ∧ p0 ≤ 5 ∧ ¬ D 52 0 < 40 ∧ E = "java/lang/IllegalStateException")))) [("java/lang/IllegalArgumentException", 1), ("java/lang/IllegalStateException", 2)] D J lk as L T M r (fun PM => zMet l yX5_rated (Cond.code yX5_rated cX5_rated 2 (some .int) :: LWm) ({ frames := 2, cells := 0, slots := 0, locals := 47 } : Room) 0 0 [zr (some M), zi p0] Sm PM) := by
  refine Mt.mk1 (M_rated hl0 hM hI.n39 hI.c p0) (fun E S2 h => h) ?_ ?_
  · rintro v S1 ⟨h1, h2, h3, rfl, hc⟩
    have n52 := hI.c52
    refine ⟨_, rfl, _, _, _, _, _, hc, (hI.2.1.of (rfl) (rfl) (rfl)), ?_⟩
    rintro v2 S2 (⟨c1, c2, rfl, m⟩ | ⟨c1, rfl, m⟩ | ⟨c1, c2, rfl, m⟩)
    · exact ⟨rfl, hI.rule m⟩
    · exfalso; first | contradiction | (clear hI hM m hc; simp_all; done)
    · exfalso; first | contradiction | (clear hI hM m hc; simp_all; done)
  · rintro E S1 ⟨hcD, (⟨h1, rfl⟩ | ⟨h1, h2, h3, rfl⟩)⟩
    · obtain ⟨e1, e2, e3⟩ := esN (e := "java/lang/IllegalArgumentException") (k := 1) (l := [("java/lang/IllegalArgumentException", 1), ("java/lang/IllegalStateException", 2)]) (List.mem_cons_self) (by decide) (by decide)
      refine ⟨1, e1, e2, e3, hcD, ?_⟩
      rintro v2 S2 (⟨c1, c2, rfl, m⟩ | ⟨c1, rfl, m⟩ | ⟨c1, c2, rfl, m⟩)
      · exfalso; first | contradiction | (clear hI hM m e1 e2 e3 hcD; simp_all; done)
      · exact ⟨⟨_, rfl⟩, hI.fl m⟩
      · exfalso; first | contradiction | (clear hI hM m e1 e2 e3 hcD; simp_all; done)
    · have n52 := hI.c52
      obtain ⟨e1, e2, e3⟩ := esN (e := "java/lang/IllegalStateException") (k := 2) (l := [("java/lang/IllegalArgumentException", 1), ("java/lang/IllegalStateException", 2)]) (List.mem_cons_of_mem _ (List.mem_cons_self)) (by decide) (by decide)
      refine ⟨2, e1, e2, e3, hcD, ?_⟩
      rintro v2 S2 (⟨c1, c2, rfl, m⟩ | ⟨c1, rfl, m⟩ | ⟨c1, c2, rfl, m⟩)
      · exfalso; first | contradiction | (clear hI hM m e1 e2 e3 hcD; simp_all; done)
      · exfalso; first | contradiction | (clear hI hM m e1 e2 e3 hcD; simp_all; done)
      · exact ⟨⟨_, rfl⟩, hI.fl m⟩
set_option maxRecDepth 100000 in
theorem X_playedAtMost {l : Launch} (hl0 : l.stackTraces = false) {D : ZD} {J : Nat → Int64} {lk : ZL} {as : Nat → Nat} {S : ZM} {L T : Nat → Nat} {Sm : ZM} {M : Nat} {r : Nat → Nat} (hI : LI D J lk as S L T) (hM : iM D J Sm M r) (p0 : Int32) : Mt zi (zPo (fun v S' => 0 ≤ p0 ∧ p0 ≤ 999 ∧ dR D < 40 ∧ v = some (zi (D 52 0)) ∧ cR (opRule D 2 p0 0 1) J lk (opAs D as 0) S' L T) (fun E S' => cR D J lk as S' L T ∧ ((¬ (0 ≤ p0 ∧ p0 ≤ 999) ∧ E = "java/lang/IllegalArgumentException") ∨ (0 ≤ p0 ∧ p0 ≤ 999 ∧ ¬ D 52 0 < 40 ∧ E = "java/lang/IllegalStateException")))) [("java/lang/IllegalArgumentException", 1), ("java/lang/IllegalStateException", 2)] D J lk as L T M r (fun PM => zMet l yX5_playedAtMost (Cond.code yX5_playedAtMost cX5_playedAtMost 2 (some .int) :: LWm) ({ frames := 2, cells := 0, slots := 0, locals := 47 } : Room) 0 0 [zr (some M), zi p0] Sm PM) := by
  refine Mt.mk1 (M_playedAtMost hl0 hM hI.n39 hI.c p0) (fun E S2 h => h) ?_ ?_
  · rintro v S1 ⟨h1, h2, h3, rfl, hc⟩
    have n52 := hI.c52
    refine ⟨_, rfl, _, _, _, _, _, hc, (hI.2.1.of (rfl) (rfl) (rfl)), ?_⟩
    rintro v2 S2 (⟨c1, c2, rfl, m⟩ | ⟨c1, rfl, m⟩ | ⟨c1, c2, rfl, m⟩)
    · exact ⟨rfl, hI.rule m⟩
    · exfalso; first | contradiction | (clear hI hM m hc; simp_all; done)
    · exfalso; first | contradiction | (clear hI hM m hc; simp_all; done)
  · rintro E S1 ⟨hcD, (⟨h1, rfl⟩ | ⟨h1, h2, h3, rfl⟩)⟩
    · obtain ⟨e1, e2, e3⟩ := esN (e := "java/lang/IllegalArgumentException") (k := 1) (l := [("java/lang/IllegalArgumentException", 1), ("java/lang/IllegalStateException", 2)]) (List.mem_cons_self) (by decide) (by decide)
      refine ⟨1, e1, e2, e3, hcD, ?_⟩
      rintro v2 S2 (⟨c1, c2, rfl, m⟩ | ⟨c1, rfl, m⟩ | ⟨c1, c2, rfl, m⟩)
      · exfalso; first | contradiction | (clear hI hM m e1 e2 e3 hcD; simp_all; done)
      · exact ⟨⟨_, rfl⟩, hI.fl m⟩
      · exfalso; first | contradiction | (clear hI hM m e1 e2 e3 hcD; simp_all; done)
    · have n52 := hI.c52
      obtain ⟨e1, e2, e3⟩ := esN (e := "java/lang/IllegalStateException") (k := 2) (l := [("java/lang/IllegalArgumentException", 1), ("java/lang/IllegalStateException", 2)]) (List.mem_cons_of_mem _ (List.mem_cons_self)) (by decide) (by decide)
      refine ⟨2, e1, e2, e3, hcD, ?_⟩
      rintro v2 S2 (⟨c1, c2, rfl, m⟩ | ⟨c1, rfl, m⟩ | ⟨c1, c2, rfl, m⟩)
      · exfalso; first | contradiction | (clear hI hM m e1 e2 e3 hcD; simp_all; done)
      · exfalso; first | contradiction | (clear hI hM m e1 e2 e3 hcD; simp_all; done)
      · exact ⟨⟨_, rfl⟩, hI.fl m⟩
set_option maxRecDepth 100000 in
theorem X_asLongAs {l : Launch} (hl0 : l.stackTraces = false) {D : ZD} {J : Nat → Int64} {lk : ZL} {as : Nat → Nat} {S : ZM} {L T : Nat → Nat} {Sm : ZM} {M : Nat} {r : Nat → Nat} (hI : LI D J lk as S L T) (hM : iM D J Sm M r) (p0 : Int32) : Mt zi (zPo (fun v S' => 1 ≤ p0 ∧ p0 ≤ 999 ∧ dR D < 40 ∧ v = some (zi (D 52 0)) ∧ cR (opRule D 3 p0 0 1) J lk (opAs D as 0) S' L T) (fun E S' => cR D J lk as S' L T ∧ ((¬ (1 ≤ p0 ∧ p0 ≤ 999) ∧ E = "java/lang/IllegalArgumentException") ∨ (1 ≤ p0 ∧ p0 ≤ 999 ∧ ¬ D 52 0 < 40 ∧ E = "java/lang/IllegalStateException")))) [("java/lang/IllegalArgumentException", 1), ("java/lang/IllegalStateException", 2)] D J lk as L T M r (fun PM => zMet l yX5_asLongAs (Cond.code yX5_asLongAs cX5_asLongAs 2 (some .int) :: LWm) ({ frames := 2, cells := 0, slots := 0, locals := 47 } : Room) 0 0 [zr (some M), zi p0] Sm PM) := by
  refine Mt.mk1 (M_asLongAs hl0 hM hI.n39 hI.c p0) (fun E S2 h => h) ?_ ?_
  · rintro v S1 ⟨h1, h2, h3, rfl, hc⟩
    have n52 := hI.c52
    refine ⟨_, rfl, _, _, _, _, _, hc, (hI.2.1.of (rfl) (rfl) (rfl)), ?_⟩
    rintro v2 S2 (⟨c1, c2, rfl, m⟩ | ⟨c1, rfl, m⟩ | ⟨c1, c2, rfl, m⟩)
    · exact ⟨rfl, hI.rule m⟩
    · exfalso; first | contradiction | (clear hI hM m hc; simp_all; done)
    · exfalso; first | contradiction | (clear hI hM m hc; simp_all; done)
  · rintro E S1 ⟨hcD, (⟨h1, rfl⟩ | ⟨h1, h2, h3, rfl⟩)⟩
    · obtain ⟨e1, e2, e3⟩ := esN (e := "java/lang/IllegalArgumentException") (k := 1) (l := [("java/lang/IllegalArgumentException", 1), ("java/lang/IllegalStateException", 2)]) (List.mem_cons_self) (by decide) (by decide)
      refine ⟨1, e1, e2, e3, hcD, ?_⟩
      rintro v2 S2 (⟨c1, c2, rfl, m⟩ | ⟨c1, rfl, m⟩ | ⟨c1, c2, rfl, m⟩)
      · exfalso; first | contradiction | (clear hI hM m e1 e2 e3 hcD; simp_all; done)
      · exact ⟨⟨_, rfl⟩, hI.fl m⟩
      · exfalso; first | contradiction | (clear hI hM m e1 e2 e3 hcD; simp_all; done)
    · have n52 := hI.c52
      obtain ⟨e1, e2, e3⟩ := esN (e := "java/lang/IllegalStateException") (k := 2) (l := [("java/lang/IllegalArgumentException", 1), ("java/lang/IllegalStateException", 2)]) (List.mem_cons_of_mem _ (List.mem_cons_self)) (by decide) (by decide)
      refine ⟨2, e1, e2, e3, hcD, ?_⟩
      rintro v2 S2 (⟨c1, c2, rfl, m⟩ | ⟨c1, rfl, m⟩ | ⟨c1, c2, rfl, m⟩)
      · exfalso; first | contradiction | (clear hI hM m e1 e2 e3 hcD; simp_all; done)
      · exfalso; first | contradiction | (clear hI hM m e1 e2 e3 hcD; simp_all; done)
      · exact ⟨⟨_, rfl⟩, hI.fl m⟩
set_option maxRecDepth 100000 in
theorem X_playedWithin {l : Launch} (hl0 : l.stackTraces = false) {D : ZD} {J : Nat → Int64} {lk : ZL} {as : Nat → Nat} {S : ZM} {L T : Nat → Nat} {Sm : ZM} {M : Nat} {r : Nat → Nat} (hI : LI D J lk as S L T) (hM : iM D J Sm M r) (p0 : Int32) : Mt zi (zPo (fun v S' => 0 ≤ p0 ∧ p0 ≤ 999 ∧ dR D < 40 ∧ v = some (zi (D 52 0)) ∧ cR (opRule D 4 p0 0 1) J lk (opAs D as 0) S' L T) (fun E S' => cR D J lk as S' L T ∧ ((¬ (0 ≤ p0 ∧ p0 ≤ 999) ∧ E = "java/lang/IllegalArgumentException") ∨ (0 ≤ p0 ∧ p0 ≤ 999 ∧ ¬ D 52 0 < 40 ∧ E = "java/lang/IllegalStateException")))) [("java/lang/IllegalArgumentException", 1), ("java/lang/IllegalStateException", 2)] D J lk as L T M r (fun PM => zMet l yX5_playedWithin (Cond.code yX5_playedWithin cX5_playedWithin 2 (some .int) :: LWm) ({ frames := 2, cells := 0, slots := 0, locals := 47 } : Room) 0 0 [zr (some M), zi p0] Sm PM) := by
  refine Mt.mk1 (M_playedWithin hl0 hM hI.n39 hI.c p0) (fun E S2 h => h) ?_ ?_
  · rintro v S1 ⟨h1, h2, h3, rfl, hc⟩
    have n52 := hI.c52
    refine ⟨_, rfl, _, _, _, _, _, hc, (hI.2.1.of (rfl) (rfl) (rfl)), ?_⟩
    rintro v2 S2 (⟨c1, c2, rfl, m⟩ | ⟨c1, rfl, m⟩ | ⟨c1, c2, rfl, m⟩)
    · exact ⟨rfl, hI.rule m⟩
    · exfalso; first | contradiction | (clear hI hM m hc; simp_all; done)
    · exfalso; first | contradiction | (clear hI hM m hc; simp_all; done)
  · rintro E S1 ⟨hcD, (⟨h1, rfl⟩ | ⟨h1, h2, h3, rfl⟩)⟩
    · obtain ⟨e1, e2, e3⟩ := esN (e := "java/lang/IllegalArgumentException") (k := 1) (l := [("java/lang/IllegalArgumentException", 1), ("java/lang/IllegalStateException", 2)]) (List.mem_cons_self) (by decide) (by decide)
      refine ⟨1, e1, e2, e3, hcD, ?_⟩
      rintro v2 S2 (⟨c1, c2, rfl, m⟩ | ⟨c1, rfl, m⟩ | ⟨c1, c2, rfl, m⟩)
      · exfalso; first | contradiction | (clear hI hM m e1 e2 e3 hcD; simp_all; done)
      · exact ⟨⟨_, rfl⟩, hI.fl m⟩
      · exfalso; first | contradiction | (clear hI hM m e1 e2 e3 hcD; simp_all; done)
    · have n52 := hI.c52
      obtain ⟨e1, e2, e3⟩ := esN (e := "java/lang/IllegalStateException") (k := 2) (l := [("java/lang/IllegalArgumentException", 1), ("java/lang/IllegalStateException", 2)]) (List.mem_cons_of_mem _ (List.mem_cons_self)) (by decide) (by decide)
      refine ⟨2, e1, e2, e3, hcD, ?_⟩
      rintro v2 S2 (⟨c1, c2, rfl, m⟩ | ⟨c1, rfl, m⟩ | ⟨c1, c2, rfl, m⟩)
      · exfalso; first | contradiction | (clear hI hM m e1 e2 e3 hcD; simp_all; done)
      · exfalso; first | contradiction | (clear hI hM m e1 e2 e3 hcD; simp_all; done)
      · exact ⟨⟨_, rfl⟩, hI.fl m⟩
set_option maxRecDepth 100000 in
theorem X_inList {l : Launch} (hl0 : l.stackTraces = false) {D : ZD} {J : Nat → Int64} {lk : ZL} {as : Nat → Nat} {S : ZM} {L T : Nat → Nat} {Sm : ZM} {M : Nat} {r : Nat → Nat} (hI : LI D J lk as S L T) (hM : iM D J Sm M r) (p0 : Int32) : Mt zi (zPo (fun v S' => hasLs D p0 ∧ dR D < 40 ∧ v = some (zi (D 52 0)) ∧ cR (opRule D 5 p0 0 1) J lk (opAs D as 0) S' L T) (fun E S' => cR D J lk as S' L T ∧ ((¬ hasLs D p0 ∧ E = "java/util/NoSuchElementException") ∨ (hasLs D p0 ∧ ¬ D 52 0 < 40 ∧ E = "java/lang/IllegalStateException")))) [("java/util/NoSuchElementException", 1), ("java/lang/IllegalStateException", 2)] D J lk as L T M r (fun PM => zMet l yX5_inList (Cond.code yX5_inList cX5_inList 2 (some .int) :: LWm) ({ frames := 2, cells := 0, slots := 0, locals := 47 } : Room) 0 0 [zr (some M), zi p0] Sm PM) := by
  refine Mt.mk1 (M_inList hl0 hM hI.n39 hI.c p0) (fun E S2 h => h) ?_ ?_
  · rintro v S1 ⟨h1, h2, rfl, hc⟩
    have n52 := hI.c52
    refine ⟨_, rfl, _, _, _, _, _, hc, (hI.2.1.of (rfl) (rfl) (rfl)), ?_⟩
    rintro v2 S2 (⟨c1, c2, rfl, m⟩ | ⟨c1, rfl, m⟩ | ⟨c1, c2, rfl, m⟩)
    · exact ⟨rfl, hI.rule m⟩
    · exfalso; first | contradiction | (clear hI hM m hc; simp_all; done)
    · exfalso; first | contradiction | (clear hI hM m hc; simp_all; done)
  · rintro E S1 ⟨hcD, (⟨h1, rfl⟩ | ⟨h1, h2, rfl⟩)⟩
    · obtain ⟨e1, e2, e3⟩ := esN (e := "java/util/NoSuchElementException") (k := 1) (l := [("java/util/NoSuchElementException", 1), ("java/lang/IllegalStateException", 2)]) (List.mem_cons_self) (by decide) (by decide)
      refine ⟨1, e1, e2, e3, hcD, ?_⟩
      rintro v2 S2 (⟨c1, c2, rfl, m⟩ | ⟨c1, rfl, m⟩ | ⟨c1, c2, rfl, m⟩)
      · exfalso; first | contradiction | (clear hI hM m e1 e2 e3 hcD; simp_all; done)
      · exact ⟨⟨_, rfl⟩, hI.fl m⟩
      · exfalso; first | contradiction | (clear hI hM m e1 e2 e3 hcD; simp_all; done)
    · have n52 := hI.c52
      obtain ⟨e1, e2, e3⟩ := esN (e := "java/lang/IllegalStateException") (k := 2) (l := [("java/util/NoSuchElementException", 1), ("java/lang/IllegalStateException", 2)]) (List.mem_cons_of_mem _ (List.mem_cons_self)) (by decide) (by decide)
      refine ⟨2, e1, e2, e3, hcD, ?_⟩
      rintro v2 S2 (⟨c1, c2, rfl, m⟩ | ⟨c1, rfl, m⟩ | ⟨c1, c2, rfl, m⟩)
      · exfalso; first | contradiction | (clear hI hM m e1 e2 e3 hcD; simp_all; done)
      · exfalso; first | contradiction | (clear hI hM m e1 e2 e3 hcD; simp_all; done)
      · exact ⟨⟨_, rfl⟩, hI.fl m⟩
set_option maxRecDepth 100000 in
theorem X_both {l : Launch} (hl0 : l.stackTraces = false) {D : ZD} {J : Nat → Int64} {lk : ZL} {as : Nat → Nat} {S : ZM} {L T : Nat → Nat} {Sm : ZM} {M : Nat} {r : Nat → Nat} (hI : LI D J lk as S L T) (hM : iM D J Sm M r) (p0 p1 : Int32) : Mt zi (zPo (fun v S' => ∃ r s : Nat, r < 40 ∧ r < dR D ∧ p0 = nI r ∧ s < 40 ∧ s < dR D ∧ p1 = nI s ∧ 1 + D 56 r + D 56 s ≤ 15 ∧ dR D < 40 ∧ v = some (zi (D 52 0)) ∧ cR (opRule D 6 (nI r) (nI s) (1 + D 56 r + D 56 s)) J lk (opAs D as 0) S' L T) (fun E S' => cR D J lk as S' L T ∧ ((¬ (hasRl D p0 ∧ hasRl D p1) ∧ E = "java/util/NoSuchElementException") ∨ (∃ r s : Nat, r < 40 ∧ r < dR D ∧ p0 = nI r ∧ s < 40 ∧ s < dR D ∧ p1 = nI s ∧ ((¬ 1 + D 56 r + D 56 s ≤ 15 ∧ E = "java/lang/UnsupportedOperationException") ∨ (1 + D 56 r + D 56 s ≤ 15 ∧ ¬ D 52 0 < 40 ∧ E = "java/lang/IllegalStateException")))))) [("java/util/NoSuchElementException", 1), ("java/lang/UnsupportedOperationException", 2), ("java/lang/IllegalStateException", 3)] D J lk as L T M r (fun PM => zMet l yX5_both (Cond.code yX5_both cX5_both 3 (some .int) :: LWm) ({ frames := 3, cells := 0, slots := 0, locals := 68 } : Room) 0 0 [zr (some M), zi p0, zi p1] Sm PM) := by
  refine Mt.mk1 (M_both hl0 hM hI.n39 hI.c p0 p1) (fun E S2 h => h) ?_ ?_
  · rintro v S1 ⟨r, s, h1, h2, h3, h4, h5, h6, h7, h8, rfl, hc⟩
    obtain rfl : r = ix p0 := by rw [h3, ixn (by omega)]
    have fp0 : hasRl D p0 := ⟨_, h1, h2, h3⟩
    have xp0 := h3
    obtain rfl : s = ix p1 := by rw [h6, ixn (by omega)]
    have fp1 : hasRl D p1 := ⟨_, h4, h5, h6⟩
    have xp1 := h6
    have n52 := hI.c52
    rw [← i32_nlt] at h7
    rw [← h3, ← h6] at hc
    refine ⟨_, rfl, _, _, _, _, _, hc, (hI.2.1.of (rfl) (rfl) (rfl)), ?_⟩
    rintro v2 S2 (⟨c1, c2, c3, c4, rfl, m⟩ | ⟨c1, rfl, m⟩ | ⟨c1, c2, c3, rfl, m⟩ | ⟨c1, c2, c3, c4, rfl, m⟩)
    · exact ⟨rfl, hI.rule m⟩
    · exfalso; first | contradiction | (clear hI hM m hc h3 xp0 h6 xp1; simp_all; done)
    · exfalso; first | contradiction | (clear hI hM m hc h3 xp0 h6 xp1; simp_all; done)
    · exfalso; first | contradiction | (clear hI hM m hc h3 xp0 h6 xp1; simp_all; done)
  · rintro E S1 ⟨hcD, (⟨h1, rfl⟩ | ⟨r, s, h1, h2, h3, h4, h5, h6, (⟨h7, rfl⟩ | ⟨h7, h8, rfl⟩)⟩)⟩
    · obtain ⟨e1, e2, e3⟩ := esN (e := "java/util/NoSuchElementException") (k := 1) (l := [("java/util/NoSuchElementException", 1), ("java/lang/UnsupportedOperationException", 2), ("java/lang/IllegalStateException", 3)]) (List.mem_cons_self) (by decide) (by decide)
      refine ⟨1, e1, e2, e3, hcD, ?_⟩
      rintro v2 S2 (⟨c1, c2, c3, c4, rfl, m⟩ | ⟨c1, rfl, m⟩ | ⟨c1, c2, c3, rfl, m⟩ | ⟨c1, c2, c3, c4, rfl, m⟩)
      · exfalso; first | contradiction | (clear hI hM m e1 e2 e3 hcD; simp_all; done)
      · exact ⟨⟨_, rfl⟩, hI.fl m⟩
      · exfalso; first | contradiction | (clear hI hM m e1 e2 e3 hcD; simp_all; done)
      · exfalso; first | contradiction | (clear hI hM m e1 e2 e3 hcD; simp_all; done)
    · obtain rfl : r = ix p0 := by rw [h3, ixn (by omega)]
      have fp0 : hasRl D p0 := ⟨_, h1, h2, h3⟩
      have xp0 := h3
      obtain rfl : s = ix p1 := by rw [h6, ixn (by omega)]
      have fp1 : hasRl D p1 := ⟨_, h4, h5, h6⟩
      have xp1 := h6
      rw [← i32_nlt] at h7
      obtain ⟨e1, e2, e3⟩ := esN (e := "java/lang/UnsupportedOperationException") (k := 2) (l := [("java/util/NoSuchElementException", 1), ("java/lang/UnsupportedOperationException", 2), ("java/lang/IllegalStateException", 3)]) (List.mem_cons_of_mem _ (List.mem_cons_self)) (by decide) (by decide)
      refine ⟨2, e1, e2, e3, hcD, ?_⟩
      rintro v2 S2 (⟨c1, c2, c3, c4, rfl, m⟩ | ⟨c1, rfl, m⟩ | ⟨c1, c2, c3, rfl, m⟩ | ⟨c1, c2, c3, c4, rfl, m⟩)
      · exfalso; first | contradiction | (clear hI hM m e1 e2 e3 hcD h3 xp0 h6 xp1; simp_all; done)
      · exfalso; first | contradiction | (clear hI hM m e1 e2 e3 hcD h3 xp0 h6 xp1; simp_all; done)
      · exact ⟨⟨_, rfl⟩, hI.fl m⟩
      · exfalso; first | contradiction | (clear hI hM m e1 e2 e3 hcD h3 xp0 h6 xp1; simp_all; done)
    · obtain rfl : r = ix p0 := by rw [h3, ixn (by omega)]
      have fp0 : hasRl D p0 := ⟨_, h1, h2, h3⟩
      have xp0 := h3
      obtain rfl : s = ix p1 := by rw [h6, ixn (by omega)]
      have fp1 : hasRl D p1 := ⟨_, h4, h5, h6⟩
      have xp1 := h6
      have n52 := hI.c52
      rw [← i32_nlt] at h7
      obtain ⟨e1, e2, e3⟩ := esN (e := "java/lang/IllegalStateException") (k := 3) (l := [("java/util/NoSuchElementException", 1), ("java/lang/UnsupportedOperationException", 2), ("java/lang/IllegalStateException", 3)]) (List.mem_cons_of_mem _ (List.mem_cons_of_mem _ (List.mem_cons_self))) (by decide) (by decide)
      refine ⟨3, e1, e2, e3, hcD, ?_⟩
      rintro v2 S2 (⟨c1, c2, c3, c4, rfl, m⟩ | ⟨c1, rfl, m⟩ | ⟨c1, c2, c3, rfl, m⟩ | ⟨c1, c2, c3, c4, rfl, m⟩)
      · exfalso; first | contradiction | (clear hI hM m e1 e2 e3 hcD h3 xp0 h6 xp1; simp_all; done)
      · exfalso; first | contradiction | (clear hI hM m e1 e2 e3 hcD h3 xp0 h6 xp1; simp_all; done)
      · exfalso; first | contradiction | (clear hI hM m e1 e2 e3 hcD h3 xp0 h6 xp1; simp_all; done)
      · exact ⟨⟨_, rfl⟩, hI.fl m⟩
set_option maxRecDepth 100000 in
theorem X_either {l : Launch} (hl0 : l.stackTraces = false) {D : ZD} {J : Nat → Int64} {lk : ZL} {as : Nat → Nat} {S : ZM} {L T : Nat → Nat} {Sm : ZM} {M : Nat} {r : Nat → Nat} (hI : LI D J lk as S L T) (hM : iM D J Sm M r) (p0 p1 : Int32) : Mt zi (zPo (fun v S' => ∃ r s : Nat, r < 40 ∧ r < dR D ∧ p0 = nI r ∧ s < 40 ∧ s < dR D ∧ p1 = nI s ∧ 1 + D 56 r + D 56 s ≤ 15 ∧ dR D < 40 ∧ v = some (zi (D 52 0)) ∧ cR (opRule D 7 (nI r) (nI s) (1 + D 56 r + D 56 s)) J lk (opAs D as 0) S' L T) (fun E S' => cR D J lk as S' L T ∧ ((¬ (hasRl D p0 ∧ hasRl D p1) ∧ E = "java/util/NoSuchElementException") ∨ (∃ r s : Nat, r < 40 ∧ r < dR D ∧ p0 = nI r ∧ s < 40 ∧ s < dR D ∧ p1 = nI s ∧ ((¬ 1 + D 56 r + D 56 s ≤ 15 ∧ E = "java/lang/UnsupportedOperationException") ∨ (1 + D 56 r + D 56 s ≤ 15 ∧ ¬ D 52 0 < 40 ∧ E = "java/lang/IllegalStateException")))))) [("java/util/NoSuchElementException", 1), ("java/lang/UnsupportedOperationException", 2), ("java/lang/IllegalStateException", 3)] D J lk as L T M r (fun PM => zMet l yX5_either (Cond.code yX5_either cX5_either 3 (some .int) :: LWm) ({ frames := 3, cells := 0, slots := 0, locals := 68 } : Room) 0 0 [zr (some M), zi p0, zi p1] Sm PM) := by
  refine Mt.mk1 (M_either hl0 hM hI.n39 hI.c p0 p1) (fun E S2 h => h) ?_ ?_
  · rintro v S1 ⟨r, s, h1, h2, h3, h4, h5, h6, h7, h8, rfl, hc⟩
    obtain rfl : r = ix p0 := by rw [h3, ixn (by omega)]
    have fp0 : hasRl D p0 := ⟨_, h1, h2, h3⟩
    have xp0 := h3
    obtain rfl : s = ix p1 := by rw [h6, ixn (by omega)]
    have fp1 : hasRl D p1 := ⟨_, h4, h5, h6⟩
    have xp1 := h6
    have n52 := hI.c52
    rw [← i32_nlt] at h7
    rw [← h3, ← h6] at hc
    refine ⟨_, rfl, _, _, _, _, _, hc, (hI.2.1.of (rfl) (rfl) (rfl)), ?_⟩
    rintro v2 S2 (⟨c1, c2, c3, c4, rfl, m⟩ | ⟨c1, rfl, m⟩ | ⟨c1, c2, c3, rfl, m⟩ | ⟨c1, c2, c3, c4, rfl, m⟩)
    · exact ⟨rfl, hI.rule m⟩
    · exfalso; first | contradiction | (clear hI hM m hc h3 xp0 h6 xp1; simp_all; done)
    · exfalso; first | contradiction | (clear hI hM m hc h3 xp0 h6 xp1; simp_all; done)
    · exfalso; first | contradiction | (clear hI hM m hc h3 xp0 h6 xp1; simp_all; done)
  · rintro E S1 ⟨hcD, (⟨h1, rfl⟩ | ⟨r, s, h1, h2, h3, h4, h5, h6, (⟨h7, rfl⟩ | ⟨h7, h8, rfl⟩)⟩)⟩
    · obtain ⟨e1, e2, e3⟩ := esN (e := "java/util/NoSuchElementException") (k := 1) (l := [("java/util/NoSuchElementException", 1), ("java/lang/UnsupportedOperationException", 2), ("java/lang/IllegalStateException", 3)]) (List.mem_cons_self) (by decide) (by decide)
      refine ⟨1, e1, e2, e3, hcD, ?_⟩
      rintro v2 S2 (⟨c1, c2, c3, c4, rfl, m⟩ | ⟨c1, rfl, m⟩ | ⟨c1, c2, c3, rfl, m⟩ | ⟨c1, c2, c3, c4, rfl, m⟩)
      · exfalso; first | contradiction | (clear hI hM m e1 e2 e3 hcD; simp_all; done)
      · exact ⟨⟨_, rfl⟩, hI.fl m⟩
      · exfalso; first | contradiction | (clear hI hM m e1 e2 e3 hcD; simp_all; done)
      · exfalso; first | contradiction | (clear hI hM m e1 e2 e3 hcD; simp_all; done)
    · obtain rfl : r = ix p0 := by rw [h3, ixn (by omega)]
      have fp0 : hasRl D p0 := ⟨_, h1, h2, h3⟩
      have xp0 := h3
      obtain rfl : s = ix p1 := by rw [h6, ixn (by omega)]
      have fp1 : hasRl D p1 := ⟨_, h4, h5, h6⟩
      have xp1 := h6
      rw [← i32_nlt] at h7
      obtain ⟨e1, e2, e3⟩ := esN (e := "java/lang/UnsupportedOperationException") (k := 2) (l := [("java/util/NoSuchElementException", 1), ("java/lang/UnsupportedOperationException", 2), ("java/lang/IllegalStateException", 3)]) (List.mem_cons_of_mem _ (List.mem_cons_self)) (by decide) (by decide)
      refine ⟨2, e1, e2, e3, hcD, ?_⟩
      rintro v2 S2 (⟨c1, c2, c3, c4, rfl, m⟩ | ⟨c1, rfl, m⟩ | ⟨c1, c2, c3, rfl, m⟩ | ⟨c1, c2, c3, c4, rfl, m⟩)
      · exfalso; first | contradiction | (clear hI hM m e1 e2 e3 hcD h3 xp0 h6 xp1; simp_all; done)
      · exfalso; first | contradiction | (clear hI hM m e1 e2 e3 hcD h3 xp0 h6 xp1; simp_all; done)
      · exact ⟨⟨_, rfl⟩, hI.fl m⟩
      · exfalso; first | contradiction | (clear hI hM m e1 e2 e3 hcD h3 xp0 h6 xp1; simp_all; done)
    · obtain rfl : r = ix p0 := by rw [h3, ixn (by omega)]
      have fp0 : hasRl D p0 := ⟨_, h1, h2, h3⟩
      have xp0 := h3
      obtain rfl : s = ix p1 := by rw [h6, ixn (by omega)]
      have fp1 : hasRl D p1 := ⟨_, h4, h5, h6⟩
      have xp1 := h6
      have n52 := hI.c52
      rw [← i32_nlt] at h7
      obtain ⟨e1, e2, e3⟩ := esN (e := "java/lang/IllegalStateException") (k := 3) (l := [("java/util/NoSuchElementException", 1), ("java/lang/UnsupportedOperationException", 2), ("java/lang/IllegalStateException", 3)]) (List.mem_cons_of_mem _ (List.mem_cons_of_mem _ (List.mem_cons_self))) (by decide) (by decide)
      refine ⟨3, e1, e2, e3, hcD, ?_⟩
      rintro v2 S2 (⟨c1, c2, c3, c4, rfl, m⟩ | ⟨c1, rfl, m⟩ | ⟨c1, c2, c3, rfl, m⟩ | ⟨c1, c2, c3, c4, rfl, m⟩)
      · exfalso; first | contradiction | (clear hI hM m e1 e2 e3 hcD h3 xp0 h6 xp1; simp_all; done)
      · exfalso; first | contradiction | (clear hI hM m e1 e2 e3 hcD h3 xp0 h6 xp1; simp_all; done)
      · exfalso; first | contradiction | (clear hI hM m e1 e2 e3 hcD h3 xp0 h6 xp1; simp_all; done)
      · exact ⟨⟨_, rfl⟩, hI.fl m⟩
set_option maxRecDepth 100000 in
theorem X_not {l : Launch} (hl0 : l.stackTraces = false) {D : ZD} {J : Nat → Int64} {lk : ZL} {as : Nat → Nat} {S : ZM} {L T : Nat → Nat} {Sm : ZM} {M : Nat} {r : Nat → Nat} (hI : LI D J lk as S L T) (hM : iM D J Sm M r) (p0 : Int32) : Mt zi (zPo (fun v S' => ∃ r : Nat, r < 40 ∧ r < dR D ∧ p0 = nI r ∧ 1 + D 56 r ≤ 15 ∧ dR D < 40 ∧ v = some (zi (D 52 0)) ∧ cR (opRule D 8 (nI r) (nI r) (1 + D 56 r)) J lk (opAs D as 0) S' L T) (fun E S' => cR D J lk as S' L T ∧ ((¬ hasRl D p0 ∧ E = "java/util/NoSuchElementException") ∨ (∃ r : Nat, r < 40 ∧ r < dR D ∧ p0 = nI r ∧ ((¬ 1 + D 56 r ≤ 15 ∧ E = "java/lang/UnsupportedOperationException") ∨ (1 + D 56 r ≤ 15 ∧ ¬ D 52 0 < 40 ∧ E = "java/lang/IllegalStateException")))))) [("java/util/NoSuchElementException", 1), ("java/lang/UnsupportedOperationException", 2), ("java/lang/IllegalStateException", 3)] D J lk as L T M r (fun PM => zMet l yX5_not (Cond.code yX5_not cX5_not 2 (some .int) :: LWm) ({ frames := 3, cells := 0, slots := 0, locals := 68 } : Room) 0 0 [zr (some M), zi p0] Sm PM) := by
  refine Mt.mk1 (M_not hl0 hM hI.n39 hI.c p0) (fun E S2 h => h) ?_ ?_
  · rintro v S1 ⟨r, h1, h2, h3, h4, h5, rfl, hc⟩
    obtain rfl : r = ix p0 := by rw [h3, ixn (by omega)]
    have fp0 : hasRl D p0 := ⟨_, h1, h2, h3⟩
    have xp0 := h3
    have n52 := hI.c52
    rw [← i32_nlt] at h4
    rw [← h3] at hc
    refine ⟨_, rfl, _, _, _, _, _, hc, (hI.2.1.of (rfl) (rfl) (rfl)), ?_⟩
    rintro v2 S2 (⟨c1, c2, c3, c4, rfl, m⟩ | ⟨c1, rfl, m⟩ | ⟨c1, c2, c3, rfl, m⟩ | ⟨c1, c2, c3, c4, rfl, m⟩)
    · exact ⟨rfl, hI.rule m⟩
    · exfalso; first | contradiction | (clear hI hM m hc h3 xp0; simp_all; done)
    · exfalso; first | contradiction | (clear hI hM m hc h3 xp0; simp_all; done)
    · exfalso; first | contradiction | (clear hI hM m hc h3 xp0; simp_all; done)
  · rintro E S1 ⟨hcD, (⟨h1, rfl⟩ | ⟨r, h1, h2, h3, (⟨h4, rfl⟩ | ⟨h4, h5, rfl⟩)⟩)⟩
    · obtain ⟨e1, e2, e3⟩ := esN (e := "java/util/NoSuchElementException") (k := 1) (l := [("java/util/NoSuchElementException", 1), ("java/lang/UnsupportedOperationException", 2), ("java/lang/IllegalStateException", 3)]) (List.mem_cons_self) (by decide) (by decide)
      refine ⟨1, e1, e2, e3, hcD, ?_⟩
      rintro v2 S2 (⟨c1, c2, c3, c4, rfl, m⟩ | ⟨c1, rfl, m⟩ | ⟨c1, c2, c3, rfl, m⟩ | ⟨c1, c2, c3, c4, rfl, m⟩)
      · exfalso; first | contradiction | (clear hI hM m e1 e2 e3 hcD; simp_all; done)
      · exact ⟨⟨_, rfl⟩, hI.fl m⟩
      · exfalso; first | contradiction | (clear hI hM m e1 e2 e3 hcD; simp_all; done)
      · exfalso; first | contradiction | (clear hI hM m e1 e2 e3 hcD; simp_all; done)
    · obtain rfl : r = ix p0 := by rw [h3, ixn (by omega)]
      have fp0 : hasRl D p0 := ⟨_, h1, h2, h3⟩
      have xp0 := h3
      rw [← i32_nlt] at h4
      obtain ⟨e1, e2, e3⟩ := esN (e := "java/lang/UnsupportedOperationException") (k := 2) (l := [("java/util/NoSuchElementException", 1), ("java/lang/UnsupportedOperationException", 2), ("java/lang/IllegalStateException", 3)]) (List.mem_cons_of_mem _ (List.mem_cons_self)) (by decide) (by decide)
      refine ⟨2, e1, e2, e3, hcD, ?_⟩
      rintro v2 S2 (⟨c1, c2, c3, c4, rfl, m⟩ | ⟨c1, rfl, m⟩ | ⟨c1, c2, c3, rfl, m⟩ | ⟨c1, c2, c3, c4, rfl, m⟩)
      · exfalso; first | contradiction | (clear hI hM m e1 e2 e3 hcD h3 xp0; simp_all; done)
      · exfalso; first | contradiction | (clear hI hM m e1 e2 e3 hcD h3 xp0; simp_all; done)
      · exact ⟨⟨_, rfl⟩, hI.fl m⟩
      · exfalso; first | contradiction | (clear hI hM m e1 e2 e3 hcD h3 xp0; simp_all; done)
    · obtain rfl : r = ix p0 := by rw [h3, ixn (by omega)]
      have fp0 : hasRl D p0 := ⟨_, h1, h2, h3⟩
      have xp0 := h3
      have n52 := hI.c52
      rw [← i32_nlt] at h4
      obtain ⟨e1, e2, e3⟩ := esN (e := "java/lang/IllegalStateException") (k := 3) (l := [("java/util/NoSuchElementException", 1), ("java/lang/UnsupportedOperationException", 2), ("java/lang/IllegalStateException", 3)]) (List.mem_cons_of_mem _ (List.mem_cons_of_mem _ (List.mem_cons_self))) (by decide) (by decide)
      refine ⟨3, e1, e2, e3, hcD, ?_⟩
      rintro v2 S2 (⟨c1, c2, c3, c4, rfl, m⟩ | ⟨c1, rfl, m⟩ | ⟨c1, c2, c3, rfl, m⟩ | ⟨c1, c2, c3, c4, rfl, m⟩)
      · exfalso; first | contradiction | (clear hI hM m e1 e2 e3 hcD h3 xp0; simp_all; done)
      · exfalso; first | contradiction | (clear hI hM m e1 e2 e3 hcD h3 xp0; simp_all; done)
      · exfalso; first | contradiction | (clear hI hM m e1 e2 e3 hcD h3 xp0; simp_all; done)
      · exact ⟨⟨_, rfl⟩, hI.fl m⟩
set_option maxRecDepth 100000 in
theorem X_setOrder {l : Launch} (hl0 : l.stackTraces = false) {D : ZD} {J : Nat → Int64} {lk : ZL} {as : Nat → Nat} {S : ZM} {L T : Nat → Nat} {Sm : ZM} {M : Nat} {r : Nat → Nat} (hI : LI D J lk as S L T) (hM : iM D J Sm M r) (p0 p1 : Int32) : Mt zi (zPo (fun v S' => ∃ i : Nat, i < 8 ∧ i < dL D ∧ p0 = nI i ∧ (p1 = 115 ∨ p1 = 114 ∨ p1 = 112 ∨ p1 = 110) ∧ v = some (zi (D 59 i)) ∧ cR (chgD (opOrd D i p1)) J lk as S' L T) (fun E S' => S' = S ∧ ((¬ hasLs D p0 ∧ E = "java/util/NoSuchElementException") ∨ (hasLs D p0 ∧ ¬ (p1 = 115 ∨ p1 = 114 ∨ p1 = 112 ∨ p1 = 110) ∧ E = "java/lang/IllegalArgumentException")))) [("java/util/NoSuchElementException", 1), ("java/lang/IllegalArgumentException", 2)] D J lk as L T M r (fun PM => zMet l yX5_setOrder (Cond.code yX5_setOrder cX5_setOrder 4 (some .char) :: LWm) ({ frames := 347, cells := 0, slots := 0, locals := 8868 } : Room) 0 0 [zr (some M), zi p0, zi p1] Sm PM) := by
  refine Mt.mk1 (M_setOrder hl0 hM hI.n39 hI.c hI.o9 p0 p1) (fun E S2 h => h) ?_ ?_
  · rintro v S1 ⟨i, h1, h2, h3, h4, rfl, hc⟩
    obtain rfl : i = ix p0 := by rw [h3, ixn (by omega)]
    have fp0 : hasLs D p0 := ⟨_, h1, h2, h3⟩
    have xp0 := h3
    refine ⟨_, rfl, _, _, _, _, _, hc, (hI.2.1.of ((chg_row rfl).trans rfl) ((chg_row rfl).trans rfl) ((chg_row rfl).trans rfl)), ?_⟩
    rintro v2 S2 (⟨c1, c2, rfl, m⟩ | ⟨c1, rfl, m⟩ | ⟨c1, c2, rfl, m⟩)
    · exact ⟨rfl, flM.ok m⟩
    · exfalso; first | contradiction | (clear hI hM m hc h3 xp0; simp_all; done)
    · exfalso; first | contradiction | (clear hI hM m hc h3 xp0; simp_all; done)
  · rintro E S1 ⟨rfl, (⟨h1, rfl⟩ | ⟨h1, h2, rfl⟩)⟩
    · obtain ⟨e1, e2, e3⟩ := esN (e := "java/util/NoSuchElementException") (k := 1) (l := [("java/util/NoSuchElementException", 1), ("java/lang/IllegalArgumentException", 2)]) (List.mem_cons_self) (by decide) (by decide)
      refine ⟨1, e1, e2, e3, hI.1, ?_⟩
      rintro v2 S2 (⟨c1, c2, rfl, m⟩ | ⟨c1, rfl, m⟩ | ⟨c1, c2, rfl, m⟩)
      · exfalso; first | contradiction | (clear hI hM m e1 e2 e3; simp_all; done)
      · exact ⟨⟨_, rfl⟩, hI.fl m⟩
      · exfalso; first | contradiction | (clear hI hM m e1 e2 e3; simp_all; done)
    · obtain ⟨e1, e2, e3⟩ := esN (e := "java/lang/IllegalArgumentException") (k := 2) (l := [("java/util/NoSuchElementException", 1), ("java/lang/IllegalArgumentException", 2)]) (List.mem_cons_of_mem _ (List.mem_cons_self)) (by decide) (by decide)
      refine ⟨2, e1, e2, e3, hI.1, ?_⟩
      rintro v2 S2 (⟨c1, c2, rfl, m⟩ | ⟨c1, rfl, m⟩ | ⟨c1, c2, rfl, m⟩)
      · exfalso; first | contradiction | (clear hI hM m e1 e2 e3; simp_all; done)
      · exfalso; first | contradiction | (clear hI hM m e1 e2 e3; simp_all; done)
      · exact ⟨⟨_, rfl⟩, hI.fl m⟩
set_option maxRecDepth 100000 in
theorem X_setLimit {l : Launch} (hl0 : l.stackTraces = false) {D : ZD} {J : Nat → Int64} {lk : ZL} {as : Nat → Nat} {S : ZM} {L T : Nat → Nat} {Sm : ZM} {M : Nat} {r : Nat → Nat} (hI : LI D J lk as S L T) (hM : iM D J Sm M r) (p0 p1 : Int32) : Mt zi (zPo (fun v S' => ∃ i : Nat, i < 8 ∧ i < dL D ∧ p0 = nI i ∧ 0 ≤ p1 ∧ p1 ≤ 9999 ∧ v = some (zi (D 60 i)) ∧ cR (chgD (opLim D i p1)) J lk as S' L T) (fun E S' => S' = S ∧ ((¬ hasLs D p0 ∧ E = "java/util/NoSuchElementException") ∨ (hasLs D p0 ∧ ¬ (0 ≤ p1 ∧ p1 ≤ 9999) ∧ E = "java/lang/IllegalArgumentException")))) [("java/util/NoSuchElementException", 1), ("java/lang/IllegalArgumentException", 2)] D J lk as L T M r (fun PM => zMet l yX5_setLimit (Cond.code yX5_setLimit cX5_setLimit 4 (some .int) :: LWm) ({ frames := 347, cells := 0, slots := 0, locals := 8868 } : Room) 0 0 [zr (some M), zi p0, zi p1] Sm PM) := by
  refine Mt.mk1 (M_setLimit hl0 hM hI.n39 hI.c p0 p1) (fun E S2 h => h) ?_ ?_
  · rintro v S1 ⟨i, h1, h2, h3, h4, h5, rfl, hc⟩
    obtain rfl : i = ix p0 := by rw [h3, ixn (by omega)]
    have fp0 : hasLs D p0 := ⟨_, h1, h2, h3⟩
    have xp0 := h3
    refine ⟨_, rfl, _, _, _, _, _, hc, (hI.2.1.of ((chg_row rfl).trans rfl) ((chg_row rfl).trans rfl) ((chg_row rfl).trans rfl)), ?_⟩
    rintro v2 S2 (⟨c1, c2, rfl, m⟩ | ⟨c1, rfl, m⟩ | ⟨c1, c2, rfl, m⟩)
    · exact ⟨rfl, flM.ok m⟩
    · exfalso; first | contradiction | (clear hI hM m hc h3 xp0; simp_all; done)
    · exfalso; first | contradiction | (clear hI hM m hc h3 xp0; simp_all; done)
  · rintro E S1 ⟨rfl, (⟨h1, rfl⟩ | ⟨h1, h2, rfl⟩)⟩
    · obtain ⟨e1, e2, e3⟩ := esN (e := "java/util/NoSuchElementException") (k := 1) (l := [("java/util/NoSuchElementException", 1), ("java/lang/IllegalArgumentException", 2)]) (List.mem_cons_self) (by decide) (by decide)
      refine ⟨1, e1, e2, e3, hI.1, ?_⟩
      rintro v2 S2 (⟨c1, c2, rfl, m⟩ | ⟨c1, rfl, m⟩ | ⟨c1, c2, rfl, m⟩)
      · exfalso; first | contradiction | (clear hI hM m e1 e2 e3; simp_all; done)
      · exact ⟨⟨_, rfl⟩, hI.fl m⟩
      · exfalso; first | contradiction | (clear hI hM m e1 e2 e3; simp_all; done)
    · obtain ⟨e1, e2, e3⟩ := esN (e := "java/lang/IllegalArgumentException") (k := 2) (l := [("java/util/NoSuchElementException", 1), ("java/lang/IllegalArgumentException", 2)]) (List.mem_cons_of_mem _ (List.mem_cons_self)) (by decide) (by decide)
      refine ⟨2, e1, e2, e3, hI.1, ?_⟩
      rintro v2 S2 (⟨c1, c2, rfl, m⟩ | ⟨c1, rfl, m⟩ | ⟨c1, c2, rfl, m⟩)
      · exfalso; first | contradiction | (clear hI hM m e1 e2 e3; simp_all; done)
      · exfalso; first | contradiction | (clear hI hM m e1 e2 e3; simp_all; done)
      · exact ⟨⟨_, rfl⟩, hI.fl m⟩
set_option maxRecDepth 100000 in
theorem X_lengthOf {l : Launch} (hl0 : l.stackTraces = false) {D : ZD} {J : Nat → Int64} {lk : ZL} {as : Nat → Nat} {S : ZM} {L T : Nat → Nat} {Sm : ZM} {M : Nat} {r : Nat → Nat} (hI : LI D J lk as S L T) (hM : iM D J Sm M r) (p0 : Int32) : Mt zi (zPo (fun v S' => ∃ t : Nat, t < 24 ∧ p0 = nI t ∧ prD D t = true ∧ v = some (zi (D 42 t)) ∧ S' = S) (fun E S' => S' = S ∧ ¬ hasTr D p0 ∧ E = "java/util/NoSuchElementException")) [("java/util/NoSuchElementException", 1)] D J lk as L T M r (fun PM => zMet l yX5_lengthOf (Cond.code yX5_lengthOf cX5_lengthOf 2 (some .int) :: LWm) ({ frames := 2, cells := 0, slots := 0, locals := 43 } : Room) 0 0 [zr (some M), zi p0] Sm PM) := by
  refine Mt.mk1 (M_lengthOf hl0 hM hI.n39 hI.c p0) (fun E S2 h => h) ?_ ?_
  · rintro v S1 ⟨t, h1, h2, h3, rfl, rfl⟩
    obtain rfl : t = ix p0 := by rw [h2, ixn (by omega)]
    have fp0 : hasTr D p0 := ⟨_, h1, h2, h3⟩
    have xp0 := h2
    refine ⟨_, rfl, D, J, lk, as, T, hI.1, hI.2.1, ?_⟩
    rintro v2 S2 (⟨c1, rfl, m⟩ | ⟨c1, rfl, m⟩)
    · exact ⟨rfl, hI.id m⟩
    · exfalso; first | contradiction | (clear hI hM m h2 xp0; simp_all; done)
  · rintro E S1 ⟨rfl, h1, rfl⟩
    obtain ⟨e1, e2, e3⟩ := esN (e := "java/util/NoSuchElementException") (k := 1) (l := [("java/util/NoSuchElementException", 1)]) (List.mem_cons_self) (by decide) (by decide)
    refine ⟨1, e1, e2, e3, hI.1, ?_⟩
    rintro v2 S2 (⟨c1, rfl, m⟩ | ⟨c1, rfl, m⟩)
    · exfalso; first | contradiction | (clear hI hM m e1 e2 e3; simp_all; done)
    · exact ⟨⟨_, rfl⟩, hI.fl m⟩
set_option maxRecDepth 100000 in
theorem X_ratingOf {l : Launch} (hl0 : l.stackTraces = false) {D : ZD} {J : Nat → Int64} {lk : ZL} {as : Nat → Nat} {S : ZM} {L T : Nat → Nat} {Sm : ZM} {M : Nat} {r : Nat → Nat} (hI : LI D J lk as S L T) (hM : iM D J Sm M r) (p0 : Int32) : Mt zi (zPo (fun v S' => ∃ t : Nat, t < 24 ∧ p0 = nI t ∧ prD D t = true ∧ v = some (zi (D 43 t)) ∧ S' = S) (fun E S' => S' = S ∧ ¬ hasTr D p0 ∧ E = "java/util/NoSuchElementException")) [("java/util/NoSuchElementException", 1)] D J lk as L T M r (fun PM => zMet l yX5_ratingOf (Cond.code yX5_ratingOf cX5_ratingOf 2 (some .int) :: LWm) ({ frames := 2, cells := 0, slots := 0, locals := 43 } : Room) 0 0 [zr (some M), zi p0] Sm PM) := by
  refine Mt.mk1 (M_ratingOf hl0 hM hI.n39 hI.c p0) (fun E S2 h => h) ?_ ?_
  · rintro v S1 ⟨t, h1, h2, h3, rfl, rfl⟩
    obtain rfl : t = ix p0 := by rw [h2, ixn (by omega)]
    have fp0 : hasTr D p0 := ⟨_, h1, h2, h3⟩
    have xp0 := h2
    refine ⟨_, rfl, D, J, lk, as, T, hI.1, hI.2.1, ?_⟩
    rintro v2 S2 (⟨c1, rfl, m⟩ | ⟨c1, rfl, m⟩)
    · exact ⟨rfl, hI.id m⟩
    · exfalso; first | contradiction | (clear hI hM m h2 xp0; simp_all; done)
  · rintro E S1 ⟨rfl, h1, rfl⟩
    obtain ⟨e1, e2, e3⟩ := esN (e := "java/util/NoSuchElementException") (k := 1) (l := [("java/util/NoSuchElementException", 1)]) (List.mem_cons_self) (by decide) (by decide)
    refine ⟨1, e1, e2, e3, hI.1, ?_⟩
    rintro v2 S2 (⟨c1, rfl, m⟩ | ⟨c1, rfl, m⟩)
    · exfalso; first | contradiction | (clear hI hM m e1 e2 e3; simp_all; done)
    · exact ⟨⟨_, rfl⟩, hI.fl m⟩
set_option maxRecDepth 100000 in
theorem X_playsOf {l : Launch} (hl0 : l.stackTraces = false) {D : ZD} {J : Nat → Int64} {lk : ZL} {as : Nat → Nat} {S : ZM} {L T : Nat → Nat} {Sm : ZM} {M : Nat} {r : Nat → Nat} (hI : LI D J lk as S L T) (hM : iM D J Sm M r) (p0 : Int32) : Mt zi (zPo (fun v S' => ∃ t : Nat, t < 24 ∧ p0 = nI t ∧ prD D t = true ∧ v = some (zi (D 44 t)) ∧ S' = S) (fun E S' => S' = S ∧ ¬ hasTr D p0 ∧ E = "java/util/NoSuchElementException")) [("java/util/NoSuchElementException", 1)] D J lk as L T M r (fun PM => zMet l yX5_playsOf (Cond.code yX5_playsOf cX5_playsOf 2 (some .int) :: LWm) ({ frames := 2, cells := 0, slots := 0, locals := 43 } : Room) 0 0 [zr (some M), zi p0] Sm PM) := by
  refine Mt.mk1 (M_playsOf hl0 hM hI.n39 hI.c p0) (fun E S2 h => h) ?_ ?_
  · rintro v S1 ⟨t, h1, h2, h3, rfl, rfl⟩
    obtain rfl : t = ix p0 := by rw [h2, ixn (by omega)]
    have fp0 : hasTr D p0 := ⟨_, h1, h2, h3⟩
    have xp0 := h2
    refine ⟨_, rfl, D, J, lk, as, T, hI.1, hI.2.1, ?_⟩
    rintro v2 S2 (⟨c1, rfl, m⟩ | ⟨c1, rfl, m⟩)
    · exact ⟨rfl, hI.id m⟩
    · exfalso; first | contradiction | (clear hI hM m h2 xp0; simp_all; done)
  · rintro E S1 ⟨rfl, h1, rfl⟩
    obtain ⟨e1, e2, e3⟩ := esN (e := "java/util/NoSuchElementException") (k := 1) (l := [("java/util/NoSuchElementException", 1)]) (List.mem_cons_self) (by decide) (by decide)
    refine ⟨1, e1, e2, e3, hI.1, ?_⟩
    rintro v2 S2 (⟨c1, rfl, m⟩ | ⟨c1, rfl, m⟩)
    · exfalso; first | contradiction | (clear hI hM m e1 e2 e3; simp_all; done)
    · exact ⟨⟨_, rfl⟩, hI.fl m⟩
set_option maxRecDepth 100000 in
theorem X_playedLast {l : Launch} (hl0 : l.stackTraces = false) {D : ZD} {J : Nat → Int64} {lk : ZL} {as : Nat → Nat} {S : ZM} {L T : Nat → Nat} {Sm : ZM} {M : Nat} {r : Nat → Nat} (hI : LI D J lk as S L T) (hM : iM D J Sm M r) (p0 : Int32) : Mt zi (zPo (fun v S' => ∃ t : Nat, t < 24 ∧ p0 = nI t ∧ prD D t = true ∧ ¬ D 44 t = 0 ∧ v = some (zi (D 45 t)) ∧ S' = S) (fun E S' => S' = S ∧ ((¬ hasTr D p0 ∧ E = "java/util/NoSuchElementException") ∨ ∃ t : Nat, t < 24 ∧ p0 = nI t ∧ prD D t = true ∧ D 44 t = 0 ∧ E = "java/lang/IllegalStateException"))) [("java/util/NoSuchElementException", 1), ("java/lang/IllegalStateException", 2)] D J lk as L T M r (fun PM => zMet l yX5_playedLast (Cond.code yX5_playedLast cX5_playedLast 2 (some .int) :: LWm) ({ frames := 2, cells := 0, slots := 0, locals := 43 } : Room) 0 0 [zr (some M), zi p0] Sm PM) := by
  refine Mt.mk1 (M_playedLast hl0 hM hI.n39 hI.c p0) (fun E S2 h => h) ?_ ?_
  · rintro v S1 ⟨t, h1, h2, h3, h4, rfl, rfl⟩
    obtain rfl : t = ix p0 := by rw [h2, ixn (by omega)]
    have fp0 : hasTr D p0 := ⟨_, h1, h2, h3⟩
    have xp0 := h2
    refine ⟨_, rfl, D, J, lk, as, T, hI.1, hI.2.1, ?_⟩
    rintro v2 S2 (⟨c1, c2, rfl, m⟩ | ⟨c1, rfl, m⟩ | ⟨c1, c2, rfl, m⟩)
    · exact ⟨rfl, hI.id m⟩
    · exfalso; first | contradiction | (clear hI hM m h2 xp0; simp_all; done)
    · exfalso; first | contradiction | (clear hI hM m h2 xp0; simp_all; done)
  · rintro E S1 ⟨rfl, (⟨h1, rfl⟩ | ⟨t, h1, h2, h3, h4, rfl⟩)⟩
    · obtain ⟨e1, e2, e3⟩ := esN (e := "java/util/NoSuchElementException") (k := 1) (l := [("java/util/NoSuchElementException", 1), ("java/lang/IllegalStateException", 2)]) (List.mem_cons_self) (by decide) (by decide)
      refine ⟨1, e1, e2, e3, hI.1, ?_⟩
      rintro v2 S2 (⟨c1, c2, rfl, m⟩ | ⟨c1, rfl, m⟩ | ⟨c1, c2, rfl, m⟩)
      · exfalso; first | contradiction | (clear hI hM m e1 e2 e3; simp_all; done)
      · exact ⟨⟨_, rfl⟩, hI.fl m⟩
      · exfalso; first | contradiction | (clear hI hM m e1 e2 e3; simp_all; done)
    · obtain rfl : t = ix p0 := by rw [h2, ixn (by omega)]
      have fp0 : hasTr D p0 := ⟨_, h1, h2, h3⟩
      have xp0 := h2
      obtain ⟨e1, e2, e3⟩ := esN (e := "java/lang/IllegalStateException") (k := 2) (l := [("java/util/NoSuchElementException", 1), ("java/lang/IllegalStateException", 2)]) (List.mem_cons_of_mem _ (List.mem_cons_self)) (by decide) (by decide)
      refine ⟨2, e1, e2, e3, hI.1, ?_⟩
      rintro v2 S2 (⟨c1, c2, rfl, m⟩ | ⟨c1, rfl, m⟩ | ⟨c1, c2, rfl, m⟩)
      · exfalso; first | contradiction | (clear hI hM m e1 e2 e3 h2 xp0; simp_all; done)
      · exfalso; first | contradiction | (clear hI hM m e1 e2 e3 h2 xp0; simp_all; done)
      · exact ⟨⟨_, rfl⟩, hI.fl m⟩
set_option maxRecDepth 100000 in
theorem X_tagBits {l : Launch} (hl0 : l.stackTraces = false) {D : ZD} {J : Nat → Int64} {lk : ZL} {as : Nat → Nat} {S : ZM} {L T : Nat → Nat} {Sm : ZM} {M : Nat} {r : Nat → Nat} (hI : LI D J lk as S L T) (hM : iM D J Sm M r) (p0 : Int32) : Mt zi (zPo (fun v S' => ∃ t : Nat, t < 24 ∧ p0 = nI t ∧ prD D t = true ∧ v = some (zi (D 46 t)) ∧ S' = S) (fun E S' => S' = S ∧ ¬ hasTr D p0 ∧ E = "java/util/NoSuchElementException")) [("java/util/NoSuchElementException", 1)] D J lk as L T M r (fun PM => zMet l yX5_tagBits (Cond.code yX5_tagBits cX5_tagBits 2 (some .int) :: LWm) ({ frames := 2, cells := 0, slots := 0, locals := 43 } : Room) 0 0 [zr (some M), zi p0] Sm PM) := by
  refine Mt.mk1 (M_tagBits hl0 hM hI.n39 hI.c p0) (fun E S2 h => h) ?_ ?_
  · rintro v S1 ⟨t, h1, h2, h3, rfl, rfl⟩
    obtain rfl : t = ix p0 := by rw [h2, ixn (by omega)]
    have fp0 : hasTr D p0 := ⟨_, h1, h2, h3⟩
    have xp0 := h2
    refine ⟨_, rfl, D, J, lk, as, T, hI.1, hI.2.1, ?_⟩
    rintro v2 S2 (⟨c1, rfl, m⟩ | ⟨c1, rfl, m⟩)
    · exact ⟨rfl, hI.id m⟩
    · exfalso; first | contradiction | (clear hI hM m h2 xp0; simp_all; done)
  · rintro E S1 ⟨rfl, h1, rfl⟩
    obtain ⟨e1, e2, e3⟩ := esN (e := "java/util/NoSuchElementException") (k := 1) (l := [("java/util/NoSuchElementException", 1)]) (List.mem_cons_self) (by decide) (by decide)
    refine ⟨1, e1, e2, e3, hI.1, ?_⟩
    rintro v2 S2 (⟨c1, rfl, m⟩ | ⟨c1, rfl, m⟩)
    · exfalso; first | contradiction | (clear hI hM m e1 e2 e3; simp_all; done)
    · exact ⟨⟨_, rfl⟩, hI.fl m⟩
set_option maxRecDepth 100000 in
theorem X_nameLength {l : Launch} (hl0 : l.stackTraces = false) {D : ZD} {J : Nat → Int64} {lk : ZL} {as : Nat → Nat} {S : ZM} {L T : Nat → Nat} {Sm : ZM} {M : Nat} {r : Nat → Nat} (hI : LI D J lk as S L T) (hM : iM D J Sm M r) (p0 : Int32) : Mt zi (zPo (fun v S' => ∃ g : Nat, g < 16 ∧ g < dG D ∧ p0 = nI g ∧ D 51 g = 0 ∧ v = some (zi (D 49 g)) ∧ S' = S) (fun E S' => S' = S ∧ ¬ hasTg D p0 ∧ E = "java/util/NoSuchElementException")) [("java/util/NoSuchElementException", 1)] D J lk as L T M r (fun PM => zMet l yX5_nameLength (Cond.code yX5_nameLength cX5_nameLength 2 (some .int) :: LWm) ({ frames := 2, cells := 0, slots := 0, locals := 43 } : Room) 0 0 [zr (some M), zi p0] Sm PM) := by
  refine Mt.mk1 (M_nameLength hl0 hM hI.n39 hI.c p0) (fun E S2 h => h) ?_ ?_
  · rintro v S1 ⟨g, h1, h2, h3, h4, rfl, rfl⟩
    obtain rfl : g = ix p0 := by rw [h3, ixn (by omega)]
    have fp0 : hasTg D p0 := ⟨_, h1, h2, h3, h4⟩
    have xp0 := h3
    refine ⟨_, rfl, D, J, lk, as, T, hI.1, hI.2.1, ?_⟩
    rintro v2 S2 (⟨c1, rfl, m⟩ | ⟨c1, rfl, m⟩)
    · exact ⟨rfl, hI.id m⟩
    · exfalso; first | contradiction | (clear hI hM m h3 xp0; simp_all; done)
  · rintro E S1 ⟨rfl, h1, rfl⟩
    obtain ⟨e1, e2, e3⟩ := esN (e := "java/util/NoSuchElementException") (k := 1) (l := [("java/util/NoSuchElementException", 1)]) (List.mem_cons_self) (by decide) (by decide)
    refine ⟨1, e1, e2, e3, hI.1, ?_⟩
    rintro v2 S2 (⟨c1, rfl, m⟩ | ⟨c1, rfl, m⟩)
    · exfalso; first | contradiction | (clear hI hM m e1 e2 e3; simp_all; done)
    · exact ⟨⟨_, rfl⟩, hI.fl m⟩
set_option maxRecDepth 100000 in
theorem X_nameAt {l : Launch} (hl0 : l.stackTraces = false) {D : ZD} {J : Nat → Int64} {lk : ZL} {as : Nat → Nat} {S : ZM} {L T : Nat → Nat} {Sm : ZM} {M : Nat} {r : Nat → Nat} (hI : LI D J lk as S L T) (hM : iM D J Sm M r) (p0 p1 : Int32) : Mt zi (zPo (fun v S' => ∃ g : Nat, g < 16 ∧ g < dG D ∧ p0 = nI g ∧ D 51 g = 0 ∧ ¬ p1 < 0 ∧ p1 < D 49 g ∧ v = some (zi (D 50 (6 * g + ix p1))) ∧ S' = S) (fun E S' => S' = S ∧ ((¬ hasTg D p0 ∧ E = "java/util/NoSuchElementException") ∨ (∃ g : Nat, g < 16 ∧ g < dG D ∧ p0 = nI g ∧ D 51 g = 0 ∧ ¬ (¬ p1 < 0 ∧ p1 < D 49 g) ∧ E = "java/lang/IndexOutOfBoundsException")))) [("java/util/NoSuchElementException", 1), ("java/lang/IndexOutOfBoundsException", 2)] D J lk as L T M r (fun PM => zMet l yX5_nameAt (Cond.code yX5_nameAt cX5_nameAt 3 (some .char) :: LWm) ({ frames := 2, cells := 0, slots := 0, locals := 43 } : Room) 0 0 [zr (some M), zi p0, zi p1] Sm PM) := by
  refine Mt.mk1 (M_nameAt hl0 hM hI.n39 hI.c hI.q3 p0 p1) (fun E S2 h => h) ?_ ?_
  · rintro v S1 ⟨g, h1, h2, h3, h4, h5, h6, rfl, rfl⟩
    obtain rfl : g = ix p0 := by rw [h3, ixn (by omega)]
    have fp0 : hasTg D p0 := ⟨_, h1, h2, h3, h4⟩
    have xp0 := h3
    have n49 := hI.nm h1 p1
    have nj := hI.nj h1 h5 h6
    have e6 : ix (6 * p0 + p1) = 6 * ix p0 + ix p1 := ix_lin (c := 6) h3 h5 (by omega)
    refine ⟨_, rfl, D, J, lk, as, T, hI.1, hI.2.1, ?_⟩
    rintro v2 S2 (⟨c1, c2, rfl, m⟩ | ⟨c1, rfl, m⟩ | ⟨c1, c2, rfl, m⟩)
    · exact ⟨(by rw [e6]), hI.id m⟩
    · exfalso; first | contradiction | exact c1 fp0 | exact h1 c1 | exact c2 (n49.mp ⟨h5, h6⟩) | exact h5 (n49.mpr c2)
    · exfalso; first | contradiction | exact c1 fp0 | exact h1 c1 | exact c2 (n49.mp ⟨h5, h6⟩) | exact h5 (n49.mpr c2)
  · rintro E S1 ⟨rfl, (⟨h1, rfl⟩ | ⟨g, h1, h2, h3, h4, h5, rfl⟩)⟩
    · obtain ⟨e1, e2, e3⟩ := esN (e := "java/util/NoSuchElementException") (k := 1) (l := [("java/util/NoSuchElementException", 1), ("java/lang/IndexOutOfBoundsException", 2)]) (List.mem_cons_self) (by decide) (by decide)
      refine ⟨1, e1, e2, e3, hI.1, ?_⟩
      rintro v2 S2 (⟨c1, c2, rfl, m⟩ | ⟨c1, rfl, m⟩ | ⟨c1, c2, rfl, m⟩)
      · exfalso; first | contradiction | exact c1 fp0 | exact h1 c1 | exact c2 (n49.mp ⟨h5, h6⟩) | exact h5 (n49.mpr c2)
      · exact ⟨⟨_, rfl⟩, hI.fl m⟩
      · exfalso; first | contradiction | exact c1 fp0 | exact h1 c1 | exact c2 (n49.mp ⟨h5, h6⟩) | exact h5 (n49.mpr c2)
    · obtain rfl : g = ix p0 := by rw [h3, ixn (by omega)]
      have fp0 : hasTg D p0 := ⟨_, h1, h2, h3, h4⟩
      have xp0 := h3
      have n49 := hI.nm h1 p1
      obtain ⟨e1, e2, e3⟩ := esN (e := "java/lang/IndexOutOfBoundsException") (k := 2) (l := [("java/util/NoSuchElementException", 1), ("java/lang/IndexOutOfBoundsException", 2)]) (List.mem_cons_of_mem _ (List.mem_cons_self)) (by decide) (by decide)
      refine ⟨2, e1, e2, e3, hI.1, ?_⟩
      rintro v2 S2 (⟨c1, c2, rfl, m⟩ | ⟨c1, rfl, m⟩ | ⟨c1, c2, rfl, m⟩)
      · exfalso; first | contradiction | exact c1 fp0 | exact h1 c1 | exact c2 (n49.mp ⟨h5, h6⟩) | exact h5 (n49.mpr c2)
      · exfalso; first | contradiction | exact c1 fp0 | exact h1 c1 | exact c2 (n49.mp ⟨h5, h6⟩) | exact h5 (n49.mpr c2)
      · exact ⟨⟨_, rfl⟩, hI.fl m⟩
set_option maxRecDepth 100000 in
theorem X_distance {l : Launch} (hl0 : l.stackTraces = false) {D : ZD} {J : Nat → Int64} {lk : ZL} {as : Nat → Nat} {S : ZM} {L T : Nat → Nat} {Sm : ZM} {M : Nat} {r : Nat → Nat} (hI : LI D J lk as S L T) (hM : iM D J Sm M r) (p0 p1 : Int32) : Mt zi (zPo (fun v S' => ∃ g h : Nat, g < 16 ∧ g < dG D ∧ p0 = nI g ∧ D 51 g = 0 ∧ h < 16 ∧ h < dG D ∧ p1 = nI h ∧ D 51 h = 0 ∧ v = some (zi (nI (lvD D g h))) ∧ cR D J lk as S' L T) (fun E S' => S' = S ∧ ¬ (hasTg D p0 ∧ hasTg D p1) ∧ E = "java/util/NoSuchElementException")) [("java/util/NoSuchElementException", 1)] D J lk as L T M r (fun PM => zMet l yX5_distance (Cond.code yX5_distance cX5_distance 3 (some .int) :: LWm) ({ frames := 2, cells := 0, slots := 0, locals := 47 } : Room) 0 0 [zr (some M), zi p0, zi p1] Sm PM) := by
  refine Mt.mk1 (M_distance hl0 hM hI.n39 hI.c hI.q3 hI.w p0 p1) (fun E S2 h => h) ?_ ?_
  · rintro v S1 ⟨g, h, h1, h2, h3, h4, h5, h6, h7, h8, rfl, hc⟩
    obtain rfl : g = ix p0 := by rw [h3, ixn (by omega)]
    have fp0 : hasTg D p0 := ⟨_, h1, h2, h3, h4⟩
    have xp0 := h3
    obtain rfl : h = ix p1 := by rw [h7, ixn (by omega)]
    have fp1 : hasTg D p1 := ⟨_, h5, h6, h7, h8⟩
    have xp1 := h7
    refine ⟨_, rfl, _, _, _, _, _, hc, hI.2.1, ?_⟩
    rintro v2 S2 (⟨c1, c2, rfl, m⟩ | ⟨c1, rfl, m⟩)
    · exact ⟨rfl, flM.ok m⟩
    · exfalso; first | contradiction | (clear hI hM m hc h3 xp0 h7 xp1; simp_all; done)
  · rintro E S1 ⟨rfl, h1, rfl⟩
    obtain ⟨e1, e2, e3⟩ := esN (e := "java/util/NoSuchElementException") (k := 1) (l := [("java/util/NoSuchElementException", 1)]) (List.mem_cons_self) (by decide) (by decide)
    refine ⟨1, e1, e2, e3, hI.1, ?_⟩
    rintro v2 S2 (⟨c1, c2, rfl, m⟩ | ⟨c1, rfl, m⟩)
    · exfalso; first | contradiction | (clear hI hM m e1 e2 e3; simp_all; done)
    · exact ⟨⟨_, rfl⟩, hI.fl m⟩
set_option maxRecDepth 100000 in
theorem X_distanceByTrying {l : Launch} (hl0 : l.stackTraces = false) {D : ZD} {J : Nat → Int64} {lk : ZL} {as : Nat → Nat} {S : ZM} {L T : Nat → Nat} {Sm : ZM} {M : Nat} {r : Nat → Nat} (hI : LI D J lk as S L T) (hM : iM D J Sm M r) (p0 p1 : Int32) : Mt zi (zPo (fun v S' => ∃ g h : Nat, g < 16 ∧ g < dG D ∧ p0 = nI g ∧ D 51 g = 0 ∧ h < 16 ∧ h < dG D ∧ p1 = nI h ∧ D 51 h = 0 ∧ v = some (zi (nI (lvD D g h))) ∧ S' = S) (fun E S' => S' = S ∧ ¬ (hasTg D p0 ∧ hasTg D p1) ∧ E = "java/util/NoSuchElementException")) [("java/util/NoSuchElementException", 1)] D J lk as L T M r (fun PM => zMet l yX5_distanceByTrying (Cond.code yX5_distanceByTrying cX5_distanceByTrying 3 (some .int) :: LWm) ({ frames := 3, cells := 0, slots := 0, locals := 69 } : Room) 0 0 [zr (some M), zi p0, zi p1] Sm PM) := by
  refine Mt.mk1 (M_distanceByTrying hl0 hM hI.n39 hI.c hI.q3 hI.w p0 p1) (fun E S2 h => h) ?_ ?_
  · rintro v S1 ⟨g, h, h1, h2, h3, h4, h5, h6, h7, h8, rfl, rfl⟩
    obtain rfl : g = ix p0 := by rw [h3, ixn (by omega)]
    have fp0 : hasTg D p0 := ⟨_, h1, h2, h3, h4⟩
    have xp0 := h3
    obtain rfl : h = ix p1 := by rw [h7, ixn (by omega)]
    have fp1 : hasTg D p1 := ⟨_, h5, h6, h7, h8⟩
    have xp1 := h7
    refine ⟨_, rfl, D, J, lk, as, T, hI.1, hI.2.1, ?_⟩
    rintro v2 S2 (⟨c1, c2, rfl, m⟩ | ⟨c1, rfl, m⟩)
    · exact ⟨rfl, flM.ok m⟩
    · exfalso; first | contradiction | (clear hI hM m h3 xp0 h7 xp1; simp_all; done)
  · rintro E S1 ⟨rfl, h1, rfl⟩
    obtain ⟨e1, e2, e3⟩ := esN (e := "java/util/NoSuchElementException") (k := 1) (l := [("java/util/NoSuchElementException", 1)]) (List.mem_cons_self) (by decide) (by decide)
    refine ⟨1, e1, e2, e3, hI.1, ?_⟩
    rintro v2 S2 (⟨c1, c2, rfl, m⟩ | ⟨c1, rfl, m⟩)
    · exfalso; first | contradiction | (clear hI hM m e1 e2 e3; simp_all; done)
    · exact ⟨⟨_, rfl⟩, hI.fl m⟩
set_option maxRecDepth 100000 in
theorem X_nearest {l : Launch} (hl0 : l.stackTraces = false) {D : ZD} {J : Nat → Int64} {lk : ZL} {as : Nat → Nat} {S : ZM} {L T : Nat → Nat} {Sm : ZM} {M : Nat} {r : Nat → Nat} (hI : LI D J lk as S L T) (hM : iM D J Sm M r) (p0 : Int32) : Mt zi (zPo (fun v S' => ∃ g b : Nat, g < 16 ∧ g < dG D ∧ p0 = nI g ∧ D 51 g = 0 ∧ nrD D g 16 = some b ∧ v = some (zi (nI b)) ∧ cR D J lk as S' L T) (fun E S' => cR D J lk as S' L T ∧ ((¬ hasTg D p0 ∧ E = "java/util/NoSuchElementException") ∨ (∃ g : Nat, g < 16 ∧ g < dG D ∧ p0 = nI g ∧ D 51 g = 0 ∧ nrD D g 16 = none ∧ E = "java/lang/IllegalStateException")))) [("java/util/NoSuchElementException", 1), ("java/lang/IllegalStateException", 2)] D J lk as L T M r (fun PM => zMet l yX5_nearest (Cond.code yX5_nearest cX5_nearest 5 (some .int) :: LWm) ({ frames := 2, cells := 0, slots := 0, locals := 47 } : Room) 0 0 [zr (some M), zi p0] Sm PM) := by
  refine Mt.mk1 (M_nearest hl0 hM hI.n39 hI.c hI.q3 hI.w p0) (fun E S2 h => h) ?_ ?_
  · rintro v S1 ⟨g, b, h1, h2, h3, h4, h5, rfl, hc⟩
    obtain rfl : g = ix p0 := by rw [h3, ixn (by omega)]
    have fp0 : hasTg D p0 := ⟨_, h1, h2, h3, h4⟩
    have xp0 := h3
    refine ⟨_, rfl, _, _, _, _, _, hc, hI.2.1, ?_⟩
    rintro v2 S2 (⟨c1, b9, c2, rfl, m⟩ | ⟨c1, rfl, m⟩ | ⟨c1, c2, rfl, m⟩)
    · have eb := Option.some.inj (c2.symm.trans h5); subst eb; exact ⟨rfl, flM.ok m⟩
    · exfalso; first | contradiction | (clear hI hM m hc h3 xp0; simp_all; done)
    · exfalso; first | contradiction | (clear hI hM m hc h3 xp0; simp_all; done)
  · rintro E S1 ⟨hcD, (⟨h1, rfl⟩ | ⟨g, h1, h2, h3, h4, h5, rfl⟩)⟩
    · obtain ⟨e1, e2, e3⟩ := esN (e := "java/util/NoSuchElementException") (k := 1) (l := [("java/util/NoSuchElementException", 1), ("java/lang/IllegalStateException", 2)]) (List.mem_cons_self) (by decide) (by decide)
      refine ⟨1, e1, e2, e3, hcD, ?_⟩
      rintro v2 S2 (⟨c1, b9, c2, rfl, m⟩ | ⟨c1, rfl, m⟩ | ⟨c1, c2, rfl, m⟩)
      · exfalso; first | contradiction | (clear hI hM m e1 e2 e3 hcD; simp_all; done)
      · exact ⟨⟨_, rfl⟩, m⟩
      · exfalso; first | contradiction | (clear hI hM m e1 e2 e3 hcD; simp_all; done)
    · obtain rfl : g = ix p0 := by rw [h3, ixn (by omega)]
      have fp0 : hasTg D p0 := ⟨_, h1, h2, h3, h4⟩
      have xp0 := h3
      obtain ⟨e1, e2, e3⟩ := esN (e := "java/lang/IllegalStateException") (k := 2) (l := [("java/util/NoSuchElementException", 1), ("java/lang/IllegalStateException", 2)]) (List.mem_cons_of_mem _ (List.mem_cons_self)) (by decide) (by decide)
      refine ⟨2, e1, e2, e3, hcD, ?_⟩
      rintro v2 S2 (⟨c1, b9, c2, rfl, m⟩ | ⟨c1, rfl, m⟩ | ⟨c1, c2, rfl, m⟩)
      · exfalso; first | contradiction | (clear hI hM m e1 e2 e3 hcD h3 xp0; simp_all; done)
      · exfalso; first | contradiction | (clear hI hM m e1 e2 e3 hcD h3 xp0; simp_all; done)
      · exact ⟨⟨_, rfl⟩, m⟩
set_option maxRecDepth 100000 in
theorem X_sizeOf {l : Launch} (hl0 : l.stackTraces = false) {D : ZD} {J : Nat → Int64} {lk : ZL} {as : Nat → Nat} {S : ZM} {L T : Nat → Nat} {Sm : ZM} {M : Nat} {r : Nat → Nat} (hI : LI D J lk as S L T) (hM : iM D J Sm M r) (p0 : Int32) : Mt zi (zPo (fun v S' => ∃ r : Nat, r < 40 ∧ r < dR D ∧ p0 = nI r ∧ v = some (zi (D 56 r)) ∧ S' = S) (fun E S' => S' = S ∧ ¬ hasRl D p0 ∧ E = "java/util/NoSuchElementException")) [("java/util/NoSuchElementException", 1)] D J lk as L T M r (fun PM => zMet l yX5_sizeOf (Cond.code yX5_sizeOf cX5_sizeOf 2 (some .int) :: LWm) ({ frames := 2, cells := 0, slots := 0, locals := 43 } : Room) 0 0 [zr (some M), zi p0] Sm PM) := by
  refine Mt.mk1 (M_sizeOf hl0 hM hI.n39 hI.c p0) (fun E S2 h => h) ?_ ?_
  · rintro v S1 ⟨r, h1, h2, h3, rfl, rfl⟩
    obtain rfl : r = ix p0 := by rw [h3, ixn (by omega)]
    have fp0 : hasRl D p0 := ⟨_, h1, h2, h3⟩
    have xp0 := h3
    refine ⟨_, rfl, D, J, lk, as, T, hI.1, hI.2.1, ?_⟩
    rintro v2 S2 (⟨c1, rfl, m⟩ | ⟨c1, rfl, m⟩)
    · exact ⟨rfl, hI.id m⟩
    · exfalso; first | contradiction | (clear hI hM m h3 xp0; simp_all; done)
  · rintro E S1 ⟨rfl, h1, rfl⟩
    obtain ⟨e1, e2, e3⟩ := esN (e := "java/util/NoSuchElementException") (k := 1) (l := [("java/util/NoSuchElementException", 1)]) (List.mem_cons_self) (by decide) (by decide)
    refine ⟨1, e1, e2, e3, hI.1, ?_⟩
    rintro v2 S2 (⟨c1, rfl, m⟩ | ⟨c1, rfl, m⟩)
    · exfalso; first | contradiction | (clear hI hM m e1 e2 e3; simp_all; done)
    · exact ⟨⟨_, rfl⟩, hI.fl m⟩
set_option maxRecDepth 100000 in
theorem X_contains {l : Launch} (hl0 : l.stackTraces = false) {D : ZD} {J : Nat → Int64} {lk : ZL} {as : Nat → Nat} {S : ZM} {L T : Nat → Nat} {Sm : ZM} {M : Nat} {r : Nat → Nat} (hI : LI D J lk as S L T) (hM : iM D J Sm M r) (p0 p1 : Int32) : Mt zi (zPo (fun v S' => ∃ i t : Nat, i < 8 ∧ i < dL D ∧ p0 = nI i ∧ t < 24 ∧ p1 = nI t ∧ prD D t = true ∧ v = some (zi (bI (hasB (D 61 i) p1))) ∧ S' = S) (fun E S' => S' = S ∧ ¬ (hasLs D p0 ∧ hasTr D p1) ∧ E = "java/util/NoSuchElementException")) [("java/util/NoSuchElementException", 1)] D J lk as L T M r (fun PM => zMet l yX5_contains (Cond.code yX5_contains cX5_contains 3 (some .boolean) :: LWm) ({ frames := 2, cells := 0, slots := 0, locals := 43 } : Room) 0 0 [zr (some M), zi p0, zi p1] Sm PM) := by
  refine Mt.mk1 (M_contains hl0 hM hI.n39 hI.c p0 p1) (fun E S2 h => h) ?_ ?_
  · rintro v S1 ⟨i, t, h1, h2, h3, h4, h5, h6, rfl, rfl⟩
    obtain rfl : i = ix p0 := by rw [h3, ixn (by omega)]
    have fp0 : hasLs D p0 := ⟨_, h1, h2, h3⟩
    have xp0 := h3
    obtain rfl : t = ix p1 := by rw [h5, ixn (by omega)]
    have fp1 : hasTr D p1 := ⟨_, h4, h5, h6⟩
    have xp1 := h5
    refine ⟨_, rfl, D, J, lk, as, T, hI.1, hI.2.1, ?_⟩
    rintro v2 S2 (⟨c1, c2, rfl, m⟩ | ⟨c1, rfl, m⟩)
    · exact ⟨rfl, hI.id m⟩
    · exfalso; first | contradiction | (clear hI hM m h3 xp0 h5 xp1; simp_all; done)
  · rintro E S1 ⟨rfl, h1, rfl⟩
    obtain ⟨e1, e2, e3⟩ := esN (e := "java/util/NoSuchElementException") (k := 1) (l := [("java/util/NoSuchElementException", 1)]) (List.mem_cons_self) (by decide) (by decide)
    refine ⟨1, e1, e2, e3, hI.1, ?_⟩
    rintro v2 S2 (⟨c1, c2, rfl, m⟩ | ⟨c1, rfl, m⟩)
    · exfalso; first | contradiction | (clear hI hM m e1 e2 e3; simp_all; done)
    · exact ⟨⟨_, rfl⟩, hI.fl m⟩
set_option maxRecDepth 100000 in
theorem X_containsByRounds {l : Launch} (hl0 : l.stackTraces = false) {D : ZD} {J : Nat → Int64} {lk : ZL} {as : Nat → Nat} {S : ZM} {L T : Nat → Nat} {Sm : ZM} {M : Nat} {r : Nat → Nat} (hI : LI D J lk as S L T) (hM : iM D J Sm M r) (p0 p1 : Int32) : Mt zi (zPo (fun v S' => ∃ i t : Nat, i < 8 ∧ i < dL D ∧ p0 = nI i ∧ t < 24 ∧ p1 = nI t ∧ prD D t = true ∧ v = some (zi (bI (hasB (D 61 i) p1))) ∧ cR D J lk as S' L T) (fun E S' => S' = S ∧ ¬ (hasLs D p0 ∧ hasTr D p1) ∧ E = "java/util/NoSuchElementException")) [("java/util/NoSuchElementException", 1)] D J lk as L T M r (fun PM => zMet l yX5_containsByRounds (Cond.code yX5_containsByRounds cX5_containsByRounds 3 (some .boolean) :: LWm) ({ frames := 3, cells := 0, slots := 0, locals := 65 } : Room) 0 0 [zr (some M), zi p0, zi p1] Sm PM) := by
  refine Mt.mk1 (M_containsByRounds hl0 hM hI.n39 hI.c p0 p1) (fun E S2 h => h) ?_ ?_
  · rintro v S1 ⟨i, t, h1, h2, h3, h4, h5, h6, rfl, hc⟩
    obtain rfl : i = ix p0 := by rw [h3, ixn (by omega)]
    have fp0 : hasLs D p0 := ⟨_, h1, h2, h3⟩
    have xp0 := h3
    obtain rfl : t = ix p1 := by rw [h5, ixn (by omega)]
    have fp1 : hasTr D p1 := ⟨_, h4, h5, h6⟩
    have xp1 := h5
    refine ⟨_, rfl, _, _, _, _, _, hc, hI.2.1, ?_⟩
    rintro v2 S2 (⟨c1, c2, rfl, m⟩ | ⟨c1, rfl, m⟩)
    · exact ⟨rfl, hI.id m⟩
    · exfalso; first | contradiction | (clear hI hM m hc h3 xp0 h5 xp1; simp_all; done)
  · rintro E S1 ⟨rfl, h1, rfl⟩
    obtain ⟨e1, e2, e3⟩ := esN (e := "java/util/NoSuchElementException") (k := 1) (l := [("java/util/NoSuchElementException", 1)]) (List.mem_cons_self) (by decide) (by decide)
    refine ⟨1, e1, e2, e3, hI.1, ?_⟩
    rintro v2 S2 (⟨c1, c2, rfl, m⟩ | ⟨c1, rfl, m⟩)
    · exfalso; first | contradiction | (clear hI hM m e1 e2 e3; simp_all; done)
    · exact ⟨⟨_, rfl⟩, hI.fl m⟩
set_option maxRecDepth 100000 in
theorem X_common {l : Launch} (hl0 : l.stackTraces = false) {D : ZD} {J : Nat → Int64} {lk : ZL} {as : Nat → Nat} {S : ZM} {L T : Nat → Nat} {Sm : ZM} {M : Nat} {r : Nat → Nat} (hI : LI D J lk as S L T) (hM : iM D J Sm M r) (p0 p1 : Int32) : Mt zi (zPo (fun v S' => ∃ i j : Nat, i < 8 ∧ i < dL D ∧ p0 = nI i ∧ j < 8 ∧ j < dL D ∧ p1 = nI j ∧ v = some (zi (bcJ (D 61 i &&& D 61 j))) ∧ S' = S) (fun E S' => S' = S ∧ ¬ (hasLs D p0 ∧ hasLs D p1) ∧ E = "java/util/NoSuchElementException")) [("java/util/NoSuchElementException", 1)] D J lk as L T M r (fun PM => zMet l yX5_common (Cond.code yX5_common cX5_common 3 (some .int) :: LWm) ({ frames := 2, cells := 0, slots := 0, locals := 43 } : Room) 0 0 [zr (some M), zi p0, zi p1] Sm PM) := by
  refine Mt.mk1 (M_common hl0 hM hI.n39 hI.c p0 p1) (fun E S2 h => h) ?_ ?_
  · rintro v S1 ⟨i, j, h1, h2, h3, h4, h5, h6, rfl, rfl⟩
    obtain rfl : i = ix p0 := by rw [h3, ixn (by omega)]
    have fp0 : hasLs D p0 := ⟨_, h1, h2, h3⟩
    have xp0 := h3
    obtain rfl : j = ix p1 := by rw [h6, ixn (by omega)]
    have fp1 : hasLs D p1 := ⟨_, h4, h5, h6⟩
    have xp1 := h6
    refine ⟨_, rfl, D, J, lk, as, T, hI.1, hI.2.1, ?_⟩
    rintro v2 S2 (⟨c1, c2, rfl, m⟩ | ⟨c1, rfl, m⟩)
    · exact ⟨(by rw [ctF_bc]), hI.id m⟩
    · exfalso; first | contradiction | (clear hI hM m h3 xp0 h6 xp1; simp_all; done)
  · rintro E S1 ⟨rfl, h1, rfl⟩
    obtain ⟨e1, e2, e3⟩ := esN (e := "java/util/NoSuchElementException") (k := 1) (l := [("java/util/NoSuchElementException", 1)]) (List.mem_cons_self) (by decide) (by decide)
    refine ⟨1, e1, e2, e3, hI.1, ?_⟩
    rintro v2 S2 (⟨c1, c2, rfl, m⟩ | ⟨c1, rfl, m⟩)
    · exfalso; first | contradiction | (clear hI hM m e1 e2 e3; simp_all; done)
    · exact ⟨⟨_, rfl⟩, hI.fl m⟩
set_option maxRecDepth 100000 in
theorem X_dependsOn {l : Launch} (hl0 : l.stackTraces = false) {D : ZD} {J : Nat → Int64} {lk : ZL} {as : Nat → Nat} {S : ZM} {L T : Nat → Nat} {Sm : ZM} {M : Nat} {r : Nat → Nat} (hI : LI D J lk as S L T) (hM : iM D J Sm M r) (p0 p1 : Int32) : Mt zi (zPo (fun v S' => ∃ i j : Nat, i < 8 ∧ i < dL D ∧ p0 = nI i ∧ j < 8 ∧ j < dL D ∧ p1 = nI j ∧ v = some (zi (bI (hasB (wlO (lsO D) 8 (lsD D (ix (D 58 i)))) p1))) ∧ S' = S) (fun E S' => S' = S ∧ ¬ (hasLs D p0 ∧ hasLs D p1) ∧ E = "java/util/NoSuchElementException")) [("java/util/NoSuchElementException", 1)] D J lk as L T M r (fun PM => zMet l yX5_dependsOn (Cond.code yX5_dependsOn cX5_dependsOn 3 (some .boolean) :: LWm) ({ frames := 369, cells := 0, slots := 0, locals := 8868 } : Room) 0 0 [zr (some M), zi p0, zi p1] Sm PM) := by
  refine Mt.mk1 (M_dependsOn hl0 hM hI.n39 hI.c p0 p1) (fun E S2 h => h) ?_ ?_
  · rintro v S1 ⟨i, j, h1, h2, h3, h4, h5, h6, rfl, rfl⟩
    obtain rfl : i = ix p0 := by rw [h3, ixn (by omega)]
    have fp0 : hasLs D p0 := ⟨_, h1, h2, h3⟩
    have xp0 := h3
    obtain rfl : j = ix p1 := by rw [h6, ixn (by omega)]
    have fp1 : hasLs D p1 := ⟨_, h4, h5, h6⟩
    have xp1 := h6
    refine ⟨_, rfl, D, J, lk, as, T, hI.1, hI.2.1, ?_⟩
    rintro v2 S2 (⟨c1, c2, rfl, m⟩ | ⟨c1, rfl, m⟩)
    · exact ⟨rfl, hI.id m⟩
    · exfalso; first | contradiction | (clear hI hM m h3 xp0 h6 xp1; simp_all; done)
  · rintro E S1 ⟨rfl, h1, rfl⟩
    obtain ⟨e1, e2, e3⟩ := esN (e := "java/util/NoSuchElementException") (k := 1) (l := [("java/util/NoSuchElementException", 1)]) (List.mem_cons_self) (by decide) (by decide)
    refine ⟨1, e1, e2, e3, hI.1, ?_⟩
    rintro v2 S2 (⟨c1, c2, rfl, m⟩ | ⟨c1, rfl, m⟩)
    · exfalso; first | contradiction | (clear hI hM m e1 e2 e3; simp_all; done)
    · exact ⟨⟨_, rfl⟩, hI.fl m⟩
