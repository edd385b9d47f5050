/-! the class's whole state: the numbers beside the objects, the lists as they are kept, what can be undone -/
/-- one row of the state anew -/
def dS (D : ZD) (k : Nat) (f : Nat → Int32) : ZD := fun k' => if k' = k then f else D k'
/-- what the lists hang on -/
def core (D : ZD) : ZD := fun k => bif (Nat.ble 40 k && Nat.ble k 60) then D k else fun _ => 0
theorem core_dS {D : ZD} {k : Nat} {f : Nat → Int32} (h : 60 < k) : core (dS D k f) = core D := by
  funext k'
  simp only [core, dS]
  by_cases e : k' = k
  · subst e
    rw [show Nat.ble k' 60 = false from by rw [Bool.eq_false_iff]; intro q; have := Nat.le_of_ble_eq_true q; omega, Bool.and_false]; rfl
  · rw [if_neg e]
/-- how many of the first n are so -/
def cnF (p : Nat → Bool) : Nat → Nat
  | 0 => 0
  | i + 1 => cnF p i + if p i = true then 1 else 0
/-- all seconds played -/
def scF (D : ZD) : Nat → Int64
  | 0 => 0
  | i + 1 => scF D i + (D 42 i * D 44 i).toInt64
theorem coreE {D D1 : ZD} (e : core D1 = core D) (k : Nat) (h : (Nat.ble 40 k && Nat.ble k 60) = true) : D1 k = D k := by
  have := congrFun e k
  simp only [core, h, cond_true] at this
  exact this
theorem dT_of {D D1 : ZD} (e : core D1 = core D) : dT D1 = dT D := by simp only [dT, coreE e 41 rfl]
theorem dG_of {D D1 : ZD} (e : core D1 = core D) : dG D1 = dG D := by simp only [dG, coreE e 48 rfl]
theorem dR_of {D D1 : ZD} (e : core D1 = core D) : dR D1 = dR D := by simp only [dR, coreE e 52 rfl]
theorem dL_of {D D1 : ZD} (e : core D1 = core D) : dL D1 = dL D := by simp only [dL, coreE e 57 rfl]
theorem prD_of {D D1 : ZD} (e : core D1 = core D) : prD D1 = prD D := by funext i; simp only [prD, dT_of e, coreE e 47 rfl]
theorem plD_of {D D1 : ZD} (e : core D1 = core D) : plD D1 = plD D := by funext o i; simp only [plD, coreE e 42 rfl, coreE e 43 rfl, coreE e 44 rfl]
theorem lastD_of {D D1 : ZD} (e : core D1 = core D) : lastD D1 = lastD D := by funext i; simp only [lastD, coreE e 44 rfl, coreE e 45 rfl]
theorem evR_of {D D1 : ZD} (e : core D1 = core D) (K : Nat → Int32) : ∀ f r t : Nat, evR D1 K f r t = evR D K f r t := by
  intro f
  induction f with
  | zero => intro r t; rfl
  | succ f ih => intro r t; simp only [evR, ih, coreE e 40 rfl, coreE e 42 rfl, coreE e 43 rfl, coreE e 44 rfl, coreE e 45 rfl, coreE e 46 rfl, coreE e 53 rfl, coreE e 54 rfl, coreE e 55 rfl]
theorem lsR_of {D D1 : ZD} (e : core D1 = core D) : ∀ f r : Nat, lsR D1 f r = lsR D f r := by
  intro f
  induction f with
  | zero => intro r; rfl
  | succ f ih => intro r; simp only [lsR, ih, coreE e 53 rfl, coreE e 54 rfl, coreE e 55 rfl]
theorem lsD_of {D D1 : ZD} (e : core D1 = core D) : lsD D1 = lsD D := by funext r; exact lsR_of e 41 r
theorem mtD_of {D D1 : ZD} (e : core D1 = core D) : mtD D1 = mtD D := by funext K r; simp only [mtD, ev, evR_of e, prD_of e]
theorem chD_of {D D1 : ZD} (e : core D1 = core D) : chD D1 = chD D := by funext K i; simp only [chD, tkO, mtD_of e, prD_of e, plD_of e, coreE e 42 rfl, coreE e 58 rfl, coreE e 59 rfl, coreE e 60 rfl]
theorem fixN_of {D D1 : ZD} (e : core D1 = core D) : ∀ n : Nat, fixN D1 n = fixN D n := by
  intro n
  induction n with
  | zero => rfl
  | succ n ih => funext i; simp only [fixN, ih, chD_of e, dL_of e]
theorem fixD_of {D D1 : ZD} (e : core D1 = core D) : fixD D1 = fixD D := fixN_of e 8
theorem fKd_of {D D1 : ZD} (e : core D1 = core D) : fKd D1 = fKd D := by funext K i; simp only [fKd, dL_of e, fixD_of e]
theorem scF_of {D D1 : ZD} (e : core D1 = core D) : ∀ n : Nat, scF D1 n = scF D n := by
  intro n
  induction n with
  | zero => rfl
  | succ n ih => simp only [scF, ih, coreE e 42 rfl, coreE e 44 rfl]
theorem rT_of {D D1 : ZD} (e : core D1 = core D) (S : ZM) (L : Nat → Nat) : rT D1 S L = rT D S L := by
  simp only [rT, prD_of e, lastD_of e, coreE e 42 rfl, coreE e 43 rfl, coreE e 44 rfl, coreE e 46 rfl]
theorem rG_of {D D1 : ZD} (e : core D1 = core D) (lk : ZL) (S : ZM) (L : Nat → Nat) : rG D1 lk S L = rG D lk S L := by
  simp only [rG, dG_of e, coreE e 49 rfl, coreE e 50 rfl]
theorem rR_of {D D1 : ZD} (e : core D1 = core D) (as : Nat → Nat) (S : ZM) (L : Nat → Nat) : rR D1 as S L = rR D as S L := by
  simp only [rR, askD, dR_of e, lsD_of e, coreE e 53 rfl, coreE e 54 rfl, coreE e 55 rfl, coreE e 56 rfl]
theorem rL_of {D D1 : ZD} (e : core D1 = core D) (S : ZM) (L : Nat → Nat) : rL D1 S L = rL D S L := by
  simp only [rL, dL_of e, coreE e 58 rfl, coreE e 59 rfl, coreE e 60 rfl]
theorem wfA_of {D D1 : ZD} (e : core D1 = core D) (lk : ZL) (as : Nat → Nat) : wfA D1 lk as = wfA D lk as := by
  simp only [wfA, wfN, wfR, dT_of e, dG_of e, dR_of e, dL_of e, coreE e 41 rfl, coreE e 48 rfl, coreE e 52 rfl, coreE e 53 rfl, coreE e 54 rfl, coreE e 55 rfl, coreE e 57 rfl]
theorem wfO_of {D D1 : ZD} (e : core D1 = core D) : wfO D1 = wfO D := by simp only [wfO, dL_of e, dR_of e, coreE e 58 rfl]
theorem acD_of {D D1 : ZD} (e : core D1 = core D) : acD D1 = acD D := by simp only [acD, dL_of e, lsD_of e, coreE e 58 rfl]
theorem cX_of {D D1 : ZD} (e : core D1 = core D) (lk : ZL) (as : Nat → Nat) (S : ZM) (L : Nat → Nat) : cX D1 lk as S L = cX D lk as S L := by
  simp only [cX, rT_of e, rG_of e, rR_of e, rL_of e, wfA_of e, wfO_of e, acD_of e, coreE e 40 rfl, coreE e 44 rfl, coreE e 45 rfl]
theorem cX.core {D D1 : ZD} {lk : ZL} {as : Nat → Nat} {S : ZM} {L : Nat → Nat} (e : core D1 = core D) (h : cX D lk as S L) : cX D1 lk as S L := by
  rw [cX_of e]; exact h
/-- the lists anew behind a change -/
def chgD (D : ZD) : ZD := dS (dS D 61 (fKd D (D 61))) 66 (fun i => if i = 0 then tcF (D 61) (fKd D (D 61)) 8 else D 66 i)
theorem core_chg (D : ZD) : core (chgD D) = core D := (core_dS (by decide)).trans (core_dS (by decide))
/-- the numbers of the object -/
def cV (D : ZD) (S : ZM) (L : Nat → Nat) : Prop := mI S 26 (L 0) = D 41 0 ∧ mI S 27 (L 0) = nI (cnF (prD D) 24) ∧ mI S 28 (L 0) = D 48 0 ∧ mI S 29 (L 0) = D 52 0 ∧ mI S 30 (L 0) = D 57 0 ∧ mJ S 37 (L 0) = scF D (dT D)
/-- the tag object that was made one with another in the change before the k-th -/
def glS (D : ZD) (S : ZM) (L : Nat → Nat) (k : Nat) : Option Nat := if k = 0 then none else tQ S (L 2) (ix (D 69 (k - 1)))
/-- no two lists are one object, no two tags have one row of letters -/
def inj2 (S : ZM) (L : Nat → Nat) : Prop := (∀ i j a : Nat, i < 8 → j < 8 → tQ S (L 4) i = some a → tQ S (L 4) j = some a → i = j) ∧ ∀ g h a b : Nat, g < 16 → h < 16 → tQ S (L 2) g = some a → tQ S (L 2) h = some b → mQ S 11 a = mQ S 11 b → g = h
/-- what can be undone; T: the tags' rows of tracks' tags ahead -/
def cU (D : ZD) (S : ZM) (L T : Nat → Nat) : Prop :=
  (∀ i a : Nat, i < dG D → tQ S (L 2) i = some a → mQ S 14 a = some (T i) ∧ mK S (T i) = 10 ∧ mN S (T i) = 24) ∧
  (∀ i j : Nat, i < dG D → j < 16 → T i ≠ L j) ∧ ((∀ i j : Nat, i < dG D → j < dG D → T i = T j → i = j) ∧ inj2 S L) ∧
  mQ S 35 (L 0) = glS D S L (dU D) ∧
  (∀ k : Nat, k < dU D → ix (D 69 k) < dG D ∧ (∀ a : Nat, tQ S (L 2) (ix (D 69 k)) = some a → mQ S 15 a = glS D S L k) ∧ ∀ t : Nat, t < 24 → (prD D t = true ∨ dT D ≤ t) → tI S (T (ix (D 69 k))) t = D 70 (24 * k + t))
/-- one bit of a long -/
def bJ (x : Int64) (r : Nat) : Bool := x.toBitVec.getLsbD r
/-- what the numbers keep to, ahead of the lists' filling -/
def wfQ (D : ZD) (J : Nat → Int64) (lk : ZL) (as : Nat → Nat) : Prop :=
  (∀ t : Nat, t < 24 → (t < dT D → (∃ n : Nat, D 42 t = nI n ∧ 1 ≤ n ∧ n ≤ 999) ∧ (∃ n : Nat, D 43 t = nI n ∧ n ≤ 5) ∧ (∃ n : Nat, D 44 t = nI n ∧ n ≤ 999)) ∧ (dT D ≤ t → D 44 t = 0 ∧ D 46 t = 0 ∧ D 47 t = 0)) ∧
  (∃ n : Nat, D 40 0 = nI n ∧ n ≤ 9999) ∧
  (∀ g : Nat, g < 16 → ∃ n : Nat, D 49 g = nI n ∧ n ≤ 6 ∧ (dG D ≤ g → n = 0) ∧ ∀ j : Nat, j < n → ∃ c : Nat, D 50 (6 * g + j) = nI c ∧ c < 65536) ∧
  (∀ g : Nat, g < 16 → D 51 g = bI (look lk g).isSome) ∧
  (∀ r : Nat, r < dR D → ∃ n : Nat, D 56 r = nI n ∧ 1 ≤ n ∧ n ≤ 15) ∧
  (D 67 0 = nI (dU D) ∧ dU D ≤ lk.length ∧ ∀ i : Nat, i < dL D → D 59 i = 115 ∨ D 59 i = 114 ∨ D 59 i = 112 ∨ D 59 i = 110) ∧
  (∀ k : Nat, k < dU D → ∃ o g : Nat, lk[dU D - 1 - k]? = some (o, g) ∧ D 69 k = nI o ∧ D 68 k = nI g ∧ ∀ r : Nat, (bJ (J k) r = true ↔ r < dR D ∧ D 53 r = 0 ∧ mean (lk.drop (dU D - k)) (as r) = o))
def wfK (D : ZD) : Prop := (∀ l : Nat, l < dL D → D 61 l = fixD D l) ∧ ∀ l : Nat, l < 8 → dL D ≤ l → D 61 l = 0
def cK (D : ZD) (S : ZM) (L : Nat → Nat) : Prop := (∀ l : Nat, l < 8 → tI S (L 5) l = D 61 l) ∧ mI S 38 (L 0) = D 66 0
/-- the class's object against the state -/
def cR (D : ZD) (J : Nat → Int64) (lk : ZL) (as : Nat → Nat) (S : ZM) (L T : Nat → Nat) : Prop := cX D lk as S L ∧ cV D S L ∧ cK D S L ∧ cU D S L T ∧ wfQ D J lk as ∧ wfK D
theorem tcF_cong {K K1 M M1 : Nat → Int32} : ∀ n : Nat, (∀ i : Nat, i < n → K i = K1 i) → (∀ i : Nat, i < n → M i = M1 i) → tcF K M n = tcF K1 M1 n := by
  intro n
  induction n with
  | zero => intro _ _; rfl
  | succ n ih =>
    intro h1 h2
    simp only [tcF]
    rw [ih (fun i hi => h1 i (by omega)) (fun i hi => h2 i (by omega)), h1 n (by omega), h2 n (by omega)]
theorem fKd_cong {D : ZD} {K K1 : Nat → Int32} {l : Nat} (h : K l = K1 l) : fKd D K l = fKd D K1 l := by
  simp only [fKd, h]
/-- behind update() all is kept -/
theorem cR.up {D : ZD} {J : Nat → Int64} {lk : ZL} {as : Nat → Nat} {S : ZM} {L T : Nat → Nat} (h : cX D lk as S L) (hV : cV D S L) (hK : ∀ l : Nat, l < 8 → tI S (L 5) l = D 61 l) (h0 : ∀ l : Nat, l < 8 → dL D ≤ l → D 61 l = 0) (hU : cU D S L T) (hQ : wfQ D J lk as) (A1 : Nat → Int32) : cR (chgD D) J lk as (upS D S L A1) L T := by
  have hL8 : dL D ≤ 8 := h.2.2.2.2.2.1.1.2.2.2.2
  refine ⟨(h.up A1).core (core_chg D), ⟨hV.1, by rw [prD_of (core_chg D)]; exact hV.2.1, hV.2.2.1, hV.2.2.2.1, hV.2.2.2.2.1, by rw [scF_of (core_chg D)]; exact hV.2.2.2.2.2⟩, ⟨fun l hl => ?_, ?_⟩, ?_, hQ, fun l hl => ?_, fun l hl hd => ?_⟩
  · show up1 (up1 S.2.2.2.2.2.1 (L 6) A1) (L 5) (fKd D (tI S (L 5))) (L 5) l = fKd D (D 61) l
    rw [up1_self]; exact fKd_cong (hK l hl)
  · exact (mI_sI _ _ _ _).trans (tcF_cong 8 hK (fun i hi => fKd_cong (hK i hi)))
  · obtain ⟨u1, u2, u3, u4, u5⟩ := hU
    refine ⟨u1, u2, u3, u4, fun k hk => ⟨(u5 k hk).1, (u5 k hk).2.1, fun t ht hp => ?_⟩⟩
    have hg := (u5 k hk).1
    refine Eq.trans ?_ ((u5 k hk).2.2 t ht hp)
    show up1 (up1 S.2.2.2.2.2.1 (L 6) A1) (L 5) (fKd D (tI S (L 5))) (T (ix (D 69 k))) t = tI S (T (ix (D 69 k))) t
    rw [up1_ne (u2 _ 5 hg (by decide)), up1_ne (u2 _ 6 hg (by decide))]
  · rw [fixD_of (core_chg D)]; exact if_pos hl
  · exact (if_neg (by show ¬ l < dL D; have : dL D ≤ l := hd; omega)).trans (h0 l hl hd)
/-- a track's number -/
def hasTr (D : ZD) (x : Int32) : Prop := ∃ t : Nat, t < 24 ∧ x = nI t ∧ prD D t = true
theorem rT.some {D : ZD} {S : ZM} {L : Nat → Nat} (h : rT D S L) {x : Int32} {a : Nat} (ha : cAt (tQ S (L 1)) 24 x = some a) : ∃ t : Nat, t < 24 ∧ x = nI t ∧ tQ S (L 1) t = some a ∧ prD D t = true ∧ mK S a = 5 ∧ mI S 16 a = nI t ∧ mI S 17 a = D 42 t ∧ mI S 18 a = D 43 t ∧ mI S 19 a = D 44 t ∧ mI S 20 a = lastD D t ∧ mI S 21 a = D 46 t := by
  obtain ⟨t, ht, e, ea⟩ := cAt_some (by decide) ha
  exact ⟨t, ht, e, ea, h.at ht ea⟩
theorem rT.none {D : ZD} {S : ZM} {L : Nat → Nat} (h : rT D S L) {x : Int32} (ha : cAt (tQ S (L 1)) 24 x = none) : ¬ hasTr D x := by
  rintro ⟨t, ht, e, hp⟩
  obtain ⟨a, ea, -⟩ := (h t ht).2 hp
  rw [e, cAt_nI ht (by decide), ea] at ha; cases ha
/-- one track's numbers anew -/
theorem rT_one {D D1 : ZD} {S S1 : ZM} {L : Nat → Nat} {t a : Nat} (h : rT D S L) (ht : t < 24) (ha : tQ S (L 1) t = some a) (hq : tQ S1 (L 1) = tQ S (L 1)) (hk : mK S1 = mK S) (hI : ∀ k b : Nat, b ≠ a → mI S1 k b = mI S k b) (hp : ∀ i : Nat, prD D1 i = prD D i) (hD : ∀ i : Nat, i ≠ t → D1 42 i = D 42 i ∧ D1 43 i = D 43 i ∧ D1 44 i = D 44 i ∧ lastD D1 i = lastD D i ∧ D1 46 i = D 46 i) (hA : mI S1 16 a = nI t ∧ mI S1 17 a = D1 42 t ∧ mI S1 18 a = D1 43 t ∧ mI S1 19 a = D1 44 t ∧ mI S1 20 a = lastD D1 t ∧ mI S1 21 a = D1 46 t) : rT D1 S1 L := by
  intro i hi
  rw [hp i, hq, hk]
  refine ⟨(h i hi).1, fun hpi => ?_⟩
  obtain ⟨b, eb, k1, k2, k3, k4, k5, k6, k7⟩ := (h i hi).2 hpi
  by_cases e : i = t
  · subst e
    have : b = a := by rw [eb] at ha; exact Option.some.inj ha
    subst this
    exact ⟨b, eb, k1, hA⟩
  · have hne : b ≠ a := by
      rintro rfl
      have := (h.at ht ha).2.2.1
      rw [k2] at this
      exact e ((nI_eq (by omega) (by omega)).1 this)
    obtain ⟨d1, d2, d3, d4, d5⟩ := hD i e
    exact ⟨b, eb, k1, by rw [hI _ _ hne]; exact k2, by rw [hI _ _ hne, d1]; exact k3, by rw [hI _ _ hne, d2]; exact k4, by rw [hI _ _ hne, d3]; exact k5, by rw [hI _ _ hne, d4]; exact k6, by rw [hI _ _ hne, d5]; exact k7⟩
theorem mI_sI_ne {S : ZM} {k k' a b : Nat} {v : Int32} (h : b ≠ a) : mI (sI S k a v) k' b = mI S k' b := by
  show up2 S.2.1 k a v k' b = S.2.1 k' b
  simp [up2, h]
theorem mI_sI_k {S : ZM} {k k' a b : Nat} {v : Int32} (h : k' ≠ k) : mI (sI S k a v) k' b = mI S k' b := by
  show up2 S.2.1 k a v k' b = S.2.1 k' b
  rw [up2_k h]
