/-! more answers -/
theorem LI.rg {D : ZD} {J : Nat → Int64} {lk : ZL} {as : Nat → Nat} {S : ZM} {L T : Nat → Nat} (hI : LI D J lk as S L T) {i : Nat} (hi : i < dL D) (y : Int32) : (¬ y < 0 ∧ y < bcJ (D 61 i)) ↔ (0 ≤ y ∧ y ≤ D 64 i - 1) := by
  rw [hI.sz hi]
  exact rng_iff (hI.w i hi).2.1 (by have := chL_len (pr := prD D) (pl := plD D (D 59 i)) (len := fun j => D 42 j) (lim := D 60 i) 24 (mtD D (fixD D) (ix (D 58 i))) 0; show (tkO D (fixD D) i).length < _; unfold tkO; omega)
theorem LI.at {D : ZD} {J : Nat → Int64} {lk : ZL} {as : Nat → Nat} {S : ZM} {L T : Nat → Nat} (hI : LI D J lk as S L T) {x y : Int32} (h1 : ix x < 8) (h2 : ix x < dL D) (h3 : x = nI (ix x)) (h4 : ¬ y < 0) (h5 : y < bcJ (D 61 (ix x))) : D 63 (ix (24 * x + y)) = frD D (D 59 (ix x)) (lfD D (D 59 (ix x)) (D 61 (ix x)) (ix y)) := by
  obtain ⟨a, b⟩ := hI.tk h2
  obtain ⟨g1, g2, g3⟩ := hI.w _ h2
  have hlen : (tkD D (ix x)).length ≤ 24 := chL_len 24 _ _
  rw [hI.sz h2, g2] at h5
  obtain ⟨j, hj, rfl⟩ := nI_of h4
  rw [nI_ltI hj (by omega)] at h5
  have e : ix (24 * x + nI j) = 24 * ix x + ix (nI j) := ix_lin (c := 24) h3 h4 (by rw [ixn hj]; omega)
  rw [e, ixn hj, g3 j _ (List.getElem?_eq_getElem h5), srt_at b a j _ (List.getElem?_eq_getElem h5)]
theorem LI.r58 {D : ZD} {J : Nat → Int64} {lk : ZL} {as : Nat → Nat} {S : ZM} {L T : Nat → Nat} (hI : LI D J lk as S L T) {i : Nat} (hi : i < dL D) : ix (D 58 i) < dR D := by
  obtain ⟨q, hq, e⟩ := hI.c.2.2.1 i hi
  have := hI.c.1.2.2.1.2
  rw [e, ixn (by omega)]; exact hq
theorem mtD_has {D : ZD} {K : Nat → Int32} {q t : Nat} (ht : t < 24) (hp : prD D t = true) : hasB (mtD D K q) (nI t) = ev D K q t := by
  unfold mtD
  rw [hasB_sF (by omega) (by decide), hp, decide_eq_true ht, Bool.true_and, Bool.true_and]
theorem LI.un {D : ZD} {J : Nat → Int64} {lk : ZL} {as : Nat → Nat} {S : ZM} {L T : Nat → Nat} (hI : LI D J lk as S L T) : unD (D 61) (dL D) = unD (D 61) 8 := by
  have h8 := hI.c.1.2.2.2.2
  have key : ∀ n : Nat, dL D + n ≤ 8 → unD (D 61) (dL D + n) = unD (D 61) (dL D) := by
    intro n
    induction n with
    | zero => intro _; rfl
    | succ n ih =>
      intro hn
      show unD (D 61) (dL D + n) ||| D 61 (dL D + n) = _
      rw [ih (by omega), hI.1.2.2.2.2.2.2 (dL D + n) (by omega) (by omega), Int32.or_zero]
  have := key (8 - dL D) (by omega)
  rw [show dL D + (8 - dL D) = 8 from by omega] at this
  exact this.symm
set_option maxRecDepth 100000 in
theorem X_holds {l : Launch} (hl0 : l.stackTraces = false) {D : ZD} {J : Nat → Int64} {lk : ZL} {as : Nat → Nat} {S : ZM} {L T : Nat → Nat} {Sm : ZM} {M : Nat} {r : Nat → Nat} (hI : LI D J lk as S L T) (hM : iM D J Sm M r) (p0 p1 : Int32) : Mt zi (zPo (fun v S' => ∃ r t : Nat, r < 40 ∧ r < dR D ∧ p0 = nI r ∧ t < 24 ∧ p1 = nI t ∧ prD D t = true ∧ v = some (zi (bI (hasB (mtD D (D 61) r) p1))) ∧ S' = S) (fun E S' => S' = S ∧ ¬ (hasRl D p0 ∧ hasTr D p1) ∧ E = "java/util/NoSuchElementException")) [("java/util/NoSuchElementException", 1)] D J lk as L T M r (fun PM => zMet l yX5_holds (Cond.code yX5_holds cX5_holds 3 (some .boolean) :: LWm) ({ frames := 385, cells := 0, slots := 0, locals := 9746 } : Room) 0 0 [zr (some M), zi p0, zi p1] Sm PM) := by
  refine Mt.mk1 (M_holds hl0 hM hI.n39 hI.c hI.w hI.k p0 p1) (fun E S2 h => h) ?_ ?_
  · rintro v S1 ⟨r, t, h1, h2, h3, h4, h5, h6, rfl, rfl⟩
    obtain rfl : r = ix p0 := by rw [h3, ixn (by omega)]
    have fp0 : hasRl D p0 := ⟨_, h1, h2, h3⟩
    have xp0 := h3
    obtain rfl : t = ix p1 := by rw [h5, ixn (by omega)]
    have fp1 : hasTr D p1 := ⟨_, h4, h5, h6⟩
    have xp1 := h5
    have eh : hasB (mtD D (D 61) (ix p0)) p1 = ev D (fixD D) (ix p0) (ix p1) := by rw [hI.mt h2]; exact (congrArg (hasB _) h5).trans (mtD_has h4 h6)
    refine ⟨_, rfl, D, J, lk, as, T, hI.1, hI.2.1, ?_⟩
    rintro v2 S2 (⟨c1, c2, rfl, m⟩ | ⟨c1, rfl, m⟩)
    · exact ⟨(by rw [eh]), flM.ok m⟩
    · exfalso; first | contradiction | (clear hI hM m h3 xp0 h5 xp1; simp_all; done)
  · rintro E S1 ⟨rfl, h1, rfl⟩
    obtain ⟨e1, e2, e3⟩ := esN (e := "java/util/NoSuchElementException") (k := 1) (l := [("java/util/NoSuchElementException", 1)]) (List.mem_cons_self) (by decide) (by decide)
    refine ⟨1, e1, e2, e3, hI.1, ?_⟩
    rintro v2 S2 (⟨c1, c2, rfl, m⟩ | ⟨c1, rfl, m⟩)
    · exfalso; first | contradiction | (clear hI hM m e1 e2 e3; simp_all; done)
    · exact ⟨⟨_, rfl⟩, hI.fl m⟩
set_option maxRecDepth 100000 in
theorem X_matches {l : Launch} (hl0 : l.stackTraces = false) {D : ZD} {J : Nat → Int64} {lk : ZL} {as : Nat → Nat} {S : ZM} {L T : Nat → Nat} {Sm : ZM} {M : Nat} {r : Nat → Nat} (hI : LI D J lk as S L T) (hM : iM D J Sm M r) (p0 : Int32) : Mt zi (zPo (fun v S' => ∃ i : Nat, i < 8 ∧ i < dL D ∧ p0 = nI i ∧ v = some (zi (bcJ (mtD D (D 61) (ix (D 58 i))))) ∧ S' = S) (fun E S' => S' = S ∧ ¬ hasLs D p0 ∧ E = "java/util/NoSuchElementException")) [("java/util/NoSuchElementException", 1)] D J lk as L T M r (fun PM => zMet l yX5_matches (Cond.code yX5_matches cX5_matches 4 (some .int) :: LWm) ({ frames := 386, cells := 0, slots := 0, locals := 9768 } : Room) 0 0 [zr (some M), zi p0] Sm PM) := by
  refine Mt.mk1 (M_matches hl0 hM hI.n39 hI.c hI.w hI.k p0) (fun E S2 h => h) ?_ ?_
  · rintro v S1 ⟨i, h1, h2, h3, rfl, rfl⟩
    obtain rfl : i = ix p0 := by rw [h3, ixn (by omega)]
    have fp0 : hasLs D p0 := ⟨_, h1, h2, h3⟩
    have xp0 := h3
    refine ⟨_, rfl, D, J, lk, as, T, hI.1, hI.2.1, ?_⟩
    rintro v2 S2 (⟨c1, rfl, m⟩ | ⟨c1, rfl, m⟩)
    · exact ⟨(by rw [hI.mt (hI.r58 h2)]; exact congrArg (fun z => some (zi z)) (bcJ_sF _).symm), flM.ok m⟩
    · exfalso; first | contradiction | (clear hI hM m h3 xp0; simp_all; done)
  · rintro E S1 ⟨rfl, h1, rfl⟩
    obtain ⟨e1, e2, e3⟩ := esN (e := "java/util/NoSuchElementException") (k := 1) (l := [("java/util/NoSuchElementException", 1)]) (List.mem_cons_self) (by decide) (by decide)
    refine ⟨1, e1, e2, e3, hI.1, ?_⟩
    rintro v2 S2 (⟨c1, rfl, m⟩ | ⟨c1, rfl, m⟩)
    · exfalso; first | contradiction | (clear hI hM m e1 e2 e3; simp_all; done)
    · exact ⟨⟨_, rfl⟩, hI.fl m⟩
set_option maxRecDepth 100000 in
theorem X_size {l : Launch} (hl0 : l.stackTraces = false) {D : ZD} {J : Nat → Int64} {lk : ZL} {as : Nat → Nat} {S : ZM} {L T : Nat → Nat} {Sm : ZM} {M : Nat} {r : Nat → Nat} (hI : LI D J lk as S L T) (hM : iM D J Sm M r) (p0 : Int32) : Mt zi (zPo (fun v S' => ∃ i : Nat, i < 8 ∧ i < dL D ∧ p0 = nI i ∧ v = some (zi (bcJ (D 61 i))) ∧ S' = S) (fun E S' => S' = S ∧ ¬ hasLs D p0 ∧ E = "java/util/NoSuchElementException")) [("java/util/NoSuchElementException", 1)] D J lk as L T M r (fun PM => zMet l yX5_size (Cond.code yX5_size cX5_size 2 (some .int) :: LWm) ({ frames := 2, cells := 0, slots := 0, locals := 43 } : Room) 0 0 [zr (some M), zi p0] Sm PM) := by
  refine Mt.mk1 (M_size hl0 hM hI.n39 hI.c p0) (fun E S2 h => h) ?_ ?_
  · rintro v S1 ⟨i, h1, h2, h3, rfl, rfl⟩
    obtain rfl : i = ix p0 := by rw [h3, ixn (by omega)]
    have fp0 : hasLs D p0 := ⟨_, h1, h2, h3⟩
    have xp0 := h3
    refine ⟨_, rfl, D, J, lk, as, T, hI.1, hI.2.1, ?_⟩
    rintro v2 S2 (⟨c1, rfl, m⟩ | ⟨c1, rfl, m⟩)
    · exact ⟨(by rw [hI.sz h2]), hI.id m⟩
    · exfalso; first | contradiction | (clear hI hM m h3 xp0; simp_all; done)
  · rintro E S1 ⟨rfl, h1, rfl⟩
    obtain ⟨e1, e2, e3⟩ := esN (e := "java/util/NoSuchElementException") (k := 1) (l := [("java/util/NoSuchElementException", 1)]) (List.mem_cons_self) (by decide) (by decide)
    refine ⟨1, e1, e2, e3, hI.1, ?_⟩
    rintro v2 S2 (⟨c1, rfl, m⟩ | ⟨c1, rfl, m⟩)
    · exfalso; first | contradiction | (clear hI hM m e1 e2 e3; simp_all; done)
    · exact ⟨⟨_, rfl⟩, hI.fl m⟩
set_option maxRecDepth 100000 in
theorem X_trackAt {l : Launch} (hl0 : l.stackTraces = false) {D : ZD} {J : Nat → Int64} {lk : ZL} {as : Nat → Nat} {S : ZM} {L T : Nat → Nat} {Sm : ZM} {M : Nat} {r : Nat → Nat} (hI : LI D J lk as S L T) (hM : iM D J Sm M r) (p0 p1 : Int32) : Mt zi (zPo (fun v S' => ∃ i : Nat, i < 8 ∧ i < dL D ∧ p0 = nI i ∧ ¬ p1 < 0 ∧ p1 < bcJ (D 61 i) ∧ v = some (zi (frD D (D 59 i) (lfD D (D 59 i) (D 61 i) (ix p1)))) ∧ S' = S) (fun E S' => S' = S ∧ ((¬ hasLs D p0 ∧ E = "java/util/NoSuchElementException") ∨ (∃ i : Nat, i < 8 ∧ i < dL D ∧ p0 = nI i ∧ ¬ (¬ p1 < 0 ∧ p1 < bcJ (D 61 i)) ∧ E = "java/lang/IndexOutOfBoundsException")))) [("java/util/NoSuchElementException", 1), ("java/lang/IndexOutOfBoundsException", 2)] D J lk as L T M r (fun PM => zMet l yX5_trackAt (Cond.code yX5_trackAt cX5_trackAt 3 (some .int) :: LWm) ({ frames := 2, cells := 0, slots := 0, locals := 43 } : Room) 0 0 [zr (some M), zi p0, zi p1] Sm PM) := by
  refine Mt.mk1 (M_trackAt hl0 hM hI.n39 hI.c hI.w p0 p1) (fun E S2 h => h) ?_ ?_
  · rintro v S1 ⟨i, h1, h2, h3, h4, h5, rfl, rfl⟩
    obtain rfl : i = ix p0 := by rw [h3, ixn (by omega)]
    have fp0 : hasLs D p0 := ⟨_, h1, h2, h3⟩
    have xp0 := h3
    have nr := hI.rg h2 p1
    refine ⟨_, rfl, D, J, lk, as, T, hI.1, hI.2.1, ?_⟩
    rintro v2 S2 (⟨c1, c2, rfl, m⟩ | ⟨c1, rfl, m⟩ | ⟨c1, c2, rfl, m⟩)
    · exact ⟨(by rw [hI.at h1 h2 h3 h4 h5]), hI.id m⟩
    · exact absurd fp0 c1
    · exact absurd (nr.mp ⟨h4, h5⟩) c2
  · rintro E S1 ⟨rfl, (⟨h1, rfl⟩ | ⟨i, h1, h2, h3, h4, rfl⟩)⟩
    · obtain ⟨e1, e2, e3⟩ := esN (e := "java/util/NoSuchElementException") (k := 1) (l := [("java/util/NoSuchElementException", 1), ("java/lang/IndexOutOfBoundsException", 2)]) (List.mem_cons_self) (by decide) (by decide)
      refine ⟨1, e1, e2, e3, hI.1, ?_⟩
      rintro v2 S2 (⟨c1, c2, rfl, m⟩ | ⟨c1, rfl, m⟩ | ⟨c1, c2, rfl, m⟩)
      · exact absurd c1 h1
      · exact ⟨⟨_, rfl⟩, hI.fl m⟩
      · exact absurd c1 h1
    · obtain rfl : i = ix p0 := by rw [h3, ixn (by omega)]
      have fp0 : hasLs D p0 := ⟨_, h1, h2, h3⟩
      have xp0 := h3
      have nr := hI.rg h2 p1
      obtain ⟨e1, e2, e3⟩ := esN (e := "java/lang/IndexOutOfBoundsException") (k := 2) (l := [("java/util/NoSuchElementException", 1), ("java/lang/IndexOutOfBoundsException", 2)]) (List.mem_cons_of_mem _ (List.mem_cons_self)) (by decide) (by decide)
      refine ⟨2, e1, e2, e3, hI.1, ?_⟩
      rintro v2 S2 (⟨c1, c2, rfl, m⟩ | ⟨c1, rfl, m⟩ | ⟨c1, c2, rfl, m⟩)
      · exact absurd (nr.mpr c2) h4
      · exact absurd fp0 c1
      · exact ⟨⟨_, rfl⟩, hI.fl m⟩
set_option maxRecDepth 100000 in
theorem X_secondsOf {l : Launch} (hl0 : l.stackTraces = false) {D : ZD} {J : Nat → Int64} {lk : ZL} {as : Nat → Nat} {S : ZM} {L T : Nat → Nat} {Sm : ZM} {M : Nat} {r : Nat → Nat} (hI : LI D J lk as S L T) (hM : iM D J Sm M r) (p0 : Int32) : Mt zi (zPo (fun v S' => ∃ i : Nat, i < 8 ∧ i < dL D ∧ p0 = nI i ∧ v = some (zi (smF (fun t => prD D t && hasB (D 61 i) (nI t)) (fun t => D 42 t) 24)) ∧ S' = S) (fun E S' => S' = S ∧ ¬ hasLs D p0 ∧ E = "java/util/NoSuchElementException")) [("java/util/NoSuchElementException", 1)] D J lk as L T M r (fun PM => zMet l yX5_secondsOf (Cond.code yX5_secondsOf cX5_secondsOf 2 (some .int) :: LWm) ({ frames := 2, cells := 0, slots := 0, locals := 43 } : Room) 0 0 [zr (some M), zi p0] Sm PM) := by
  refine Mt.mk1 (M_secondsOf hl0 hM hI.n39 hI.c hI.w p0) (fun E S2 h => h) ?_ ?_
  · rintro v S1 ⟨i, h1, h2, h3, rfl, rfl⟩
    obtain rfl : i = ix p0 := by rw [h3, ixn (by omega)]
    have fp0 : hasLs D p0 := ⟨_, h1, h2, h3⟩
    have xp0 := h3
    refine ⟨_, rfl, D, J, lk, as, T, hI.1, hI.2.1, ?_⟩
    rintro v2 S2 (⟨c1, rfl, m⟩ | ⟨c1, rfl, m⟩)
    · exact ⟨(by rw [srt_sum (hI.tk h2).2 (hI.tk h2).1]), hI.id m⟩
    · exfalso; first | contradiction | (clear hI hM m h3 xp0; simp_all; done)
  · rintro E S1 ⟨rfl, h1, rfl⟩
    obtain ⟨e1, e2, e3⟩ := esN (e := "java/util/NoSuchElementException") (k := 1) (l := [("java/util/NoSuchElementException", 1)]) (List.mem_cons_self) (by decide) (by decide)
    refine ⟨1, e1, e2, e3, hI.1, ?_⟩
    rintro v2 S2 (⟨c1, rfl, m⟩ | ⟨c1, rfl, m⟩)
    · exfalso; first | contradiction | (clear hI hM m e1 e2 e3; simp_all; done)
    · exact ⟨⟨_, rfl⟩, hI.fl m⟩
set_option maxRecDepth 100000 in
theorem X_listedShare {l : Launch} (hl0 : l.stackTraces = false) {D : ZD} {J : Nat → Int64} {lk : ZL} {as : Nat → Nat} {S : ZM} {L T : Nat → Nat} {Sm : ZM} {M : Nat} {r : Nat → Nat} (hI : LI D J lk as S L T) (hM : iM D J Sm M r) : Mt zf (zPo (fun v S' => ¬ nI (cnF (prD D) 24) = 0 ∧ v = some (zf (FP.fdiv (FP.i2f (bcJ (unD (D 61) 8))) (FP.i2f (nI (cnF (prD D) 24))))) ∧ S' = S) (fun E S' => S' = S ∧ nI (cnF (prD D) 24) = 0 ∧ E = "java/lang/ArithmeticException")) [("java/lang/ArithmeticException", 1)] D J lk as L T M r (fun PM => zMet l yX5_listedShare (Cond.code yX5_listedShare cX5_listedShare 3 (some .float) :: LWm) ({ frames := 1, cells := 0, slots := 0, locals := 22 } : Room) 0 0 [zr (some M)] Sm PM) := by
  refine Mt.mk1 (M_listedShare hl0 hM hI.n39 hI.c) (fun E S2 h => h) ?_ ?_
  · rintro v S1 ⟨h1, rfl, rfl⟩
    refine ⟨_, rfl, D, J, lk, as, T, hI.1, hI.2.1, ?_⟩
    rintro v2 S2 (⟨c1, rfl, m⟩ | ⟨c1, rfl, m⟩)
    · exact ⟨(by rw [ctF_bc, hI.un]), hI.id m⟩
    · exfalso; first | contradiction | (clear hI hM m; simp_all; done)
  · rintro E S1 ⟨rfl, h1, rfl⟩
    obtain ⟨e1, e2, e3⟩ := esN (e := "java/lang/ArithmeticException") (k := 1) (l := [("java/lang/ArithmeticException", 1)]) (List.mem_cons_self) (by decide) (by decide)
    refine ⟨1, e1, e2, e3, hI.1, ?_⟩
    rintro v2 S2 (⟨c1, rfl, m⟩ | ⟨c1, rfl, m⟩)
    · exfalso; first | contradiction | (clear hI hM m e1 e2 e3; simp_all; done)
    · exact ⟨⟨_, rfl⟩, hI.fl m⟩
set_option maxRecDepth 100000 in
theorem X_meanLength {l : Launch} (hl0 : l.stackTraces = false) {D : ZD} {J : Nat → Int64} {lk : ZL} {as : Nat → Nat} {S : ZM} {L T : Nat → Nat} {Sm : ZM} {M : Nat} {r : Nat → Nat} (hI : LI D J lk as S L T) (hM : iM D J Sm M r) (p0 : Int32) : Mt zd (zPo (fun v S' => ∃ i : Nat, i < 8 ∧ i < dL D ∧ p0 = nI i ∧ ¬ bcJ (D 61 i) = 0 ∧ v = some (zd (FP.ddiv (FP.i2d (smF (fun t => prD D t && hasB (D 61 i) (nI t)) (fun t => D 42 t) 24)) (FP.i2d (bcJ (D 61 i))))) ∧ S' = S) (fun E S' => S' = S ∧ ((¬ hasLs D p0 ∧ E = "java/util/NoSuchElementException") ∨ (∃ i : Nat, i < 8 ∧ i < dL D ∧ p0 = nI i ∧ bcJ (D 61 i) = 0 ∧ E = "java/lang/ArithmeticException")))) [("java/util/NoSuchElementException", 1), ("java/lang/ArithmeticException", 2)] D J lk as L T M r (fun PM => zMet l yX5_meanLength (Cond.code yX5_meanLength cX5_meanLength 2 (some .double) :: LWm) ({ frames := 2, cells := 0, slots := 0, locals := 43 } : Room) 0 0 [zr (some M), zi p0] Sm PM) := by
  refine Mt.mk1 (M_meanLength hl0 hM hI.n39 hI.c hI.w p0) (fun E S2 h => h) ?_ ?_
  · rintro v S1 ⟨i, h1, h2, h3, h4, rfl, rfl⟩
    obtain rfl : i = ix p0 := by rw [h3, ixn (by omega)]
    have fp0 : hasLs D p0 := ⟨_, h1, h2, h3⟩
    have xp0 := h3
    have e64 := hI.sz h2
    rw [e64] at h4
    refine ⟨_, rfl, D, J, lk, as, T, hI.1, hI.2.1, ?_⟩
    rintro v2 S2 (⟨c1, c2, rfl, m⟩ | ⟨c1, rfl, m⟩ | ⟨c1, c2, rfl, m⟩)
    · exact ⟨(by rw [srt_sum (hI.tk h2).2 (hI.tk h2).1, hI.sz h2]), hI.id m⟩
    · exfalso; first | contradiction | (clear hI hM m h3 xp0; simp_all; done)
    · exfalso; first | contradiction | (clear hI hM m h3 xp0; simp_all; done)
  · rintro E S1 ⟨rfl, (⟨h1, rfl⟩ | ⟨i, h1, h2, h3, h4, rfl⟩)⟩
    · obtain ⟨e1, e2, e3⟩ := esN (e := "java/util/NoSuchElementException") (k := 1) (l := [("java/util/NoSuchElementException", 1), ("java/lang/ArithmeticException", 2)]) (List.mem_cons_self) (by decide) (by decide)
      refine ⟨1, e1, e2, e3, hI.1, ?_⟩
      rintro v2 S2 (⟨c1, c2, rfl, m⟩ | ⟨c1, rfl, m⟩ | ⟨c1, c2, rfl, m⟩)
      · exfalso; first | contradiction | (clear hI hM m e1 e2 e3; simp_all; done)
      · exact ⟨⟨_, rfl⟩, hI.fl m⟩
      · exfalso; first | contradiction | (clear hI hM m e1 e2 e3; simp_all; done)
    · obtain rfl : i = ix p0 := by rw [h3, ixn (by omega)]
      have fp0 : hasLs D p0 := ⟨_, h1, h2, h3⟩
      have xp0 := h3
      rw [hI.sz h2] at h4
      obtain ⟨e1, e2, e3⟩ := esN (e := "java/lang/ArithmeticException") (k := 2) (l := [("java/util/NoSuchElementException", 1), ("java/lang/ArithmeticException", 2)]) (List.mem_cons_of_mem _ (List.mem_cons_self)) (by decide) (by decide)
      refine ⟨2, e1, e2, e3, hI.1, ?_⟩
      rintro v2 S2 (⟨c1, c2, rfl, m⟩ | ⟨c1, rfl, m⟩ | ⟨c1, c2, rfl, m⟩)
      · exfalso; first | contradiction | (clear hI hM m e1 e2 e3 h3 xp0; simp_all; done)
      · exfalso; first | contradiction | (clear hI hM m e1 e2 e3 h3 xp0; simp_all; done)
      · exact ⟨⟨_, rfl⟩, hI.fl m⟩
