/-! the class: tracks and days -/
theorem lsR_eq {D D1 : ZD} (h53 : D1 53 = D 53) (h54 : D1 54 = D 54) (h55 : D1 55 = D 55) : ∀ f r : Nat, lsR D1 f r = lsR D f r := by
  intro f
  induction f with
  | zero => intro r; rfl
  | succ f ih => intro r; simp only [lsR, ih, h53, h54, h55]
theorem lsD_eq {D D1 : ZD} (h53 : D1 53 = D 53) (h54 : D1 54 = D 54) (h55 : D1 55 = D 55) : lsD D1 = lsD D := by funext r; exact lsR_eq h53 h54 h55 41 r
theorem acD_eq {D D1 : ZD} (h53 : D1 53 = D 53) (h54 : D1 54 = D 54) (h55 : D1 55 = D 55) (h57 : D1 57 = D 57) (h58 : D1 58 = D 58) : acD D1 = acD D := by
  simp only [acD, dL, lsD_eq h53 h54 h55, h57, h58]
theorem rR_eq {D D1 : ZD} (as : Nat → Nat) (S : ZM) (L : Nat → Nat) (h52 : D1 52 = D 52) (h53 : D1 53 = D 53) (h54 : D1 54 = D 54) (h55 : D1 55 = D 55) (h56 : D1 56 = D 56) : rR D1 as S L = rR D as S L := by
  simp only [rR, askD, dR, lsD_eq h53 h54 h55, h52, h53, h54, h55, h56]
theorem prD_eq {D D1 : ZD} (h41 : D1 41 = D 41) (h47 : D1 47 = D 47) : prD D1 = prD D := by
  funext i
  unfold prD dT
  rw [h41, h47]
theorem rG_eq {D D1 : ZD} (lk : ZL) (S : ZM) (L : Nat → Nat) (h48 : D1 48 = D 48) (h49 : D1 49 = D 49) (h50 : D1 50 = D 50) : rG D1 lk S L = rG D lk S L := by
  simp only [rG, dG, h48, h49, h50]
theorem rL_eq {D D1 : ZD} (S : ZM) (L : Nat → Nat) (h57 : D1 57 = D 57) (h58 : D1 58 = D 58) (h59 : D1 59 = D 59) (h60 : D1 60 = D 60) : rL D1 S L = rL D S L := by
  simp only [rL, dL, h57, h58, h59, h60]
theorem wfA_eq {D D1 : ZD} (lk : ZL) (as : Nat → Nat) (h41 : D1 41 = D 41) (h48 : D1 48 = D 48) (h52 : D1 52 = D 52) (h53 : D1 53 = D 53) (h54 : D1 54 = D 54) (h55 : D1 55 = D 55) (h57 : D1 57 = D 57) : wfA D1 lk as = wfA D lk as := by
  simp only [wfA, wfN, wfR, dT, dG, dR, dL, h41, h48, h52, h53, h54, h55, h57]
theorem wfO_eq {D D1 : ZD} (h52 : D1 52 = D 52) (h57 : D1 57 = D 57) (h58 : D1 58 = D 58) : wfO D1 = wfO D := by simp only [wfO, dR, dL, h52, h57, h58]
theorem glS_eq {D D1 : ZD} (S : ZM) (L : Nat → Nat) (h69 : D1 69 = D 69) (k : Nat) : glS D1 S L k = glS D S L k := by
  unfold glS
  rw [h69]
theorem cU_eq {D D1 : ZD} (S : ZM) (L T : Nat → Nat) (h41 : D1 41 = D 41) (h47 : D1 47 = D 47) (h48 : D1 48 = D 48) (h67 : D1 67 = D 67) (h69 : D1 69 = D 69) (h70 : D1 70 = D 70) : cU D1 S L T = cU D S L T := by
  simp only [cU, glS_eq S L h69, dU, dG, dT, prD_eq h41 h47, h41, h48, h67, h69, h70]
/-- all but the tracks' numbers is as it was -/
theorem cX.tr {D D1 : ZD} {lk : ZL} {as : Nat → Nat} {S S1 : ZM} {L : Nat → Nat} (h : cX D lk as S L) (hD : ∀ k : Nat, k = 41 ∨ 48 ≤ k → D1 k = D k) (h1 : cS S1 L) (h2 : rT D1 S1 L) (h3 : rG D lk S1 L) (h4 : rR D as S1 L) (h5 : rL D S1 L) (h7 : mI S1 36 (L 0) = D1 40 0) (h8 : ∀ t : Nat, 0 ≤ D1 44 t ∧ ¬ D1 45 t = -1) : cX D1 lk as S1 L := by
  have e := fun k q => hD k (Or.inr q)
  refine ⟨h1, h2, ?_, ?_, ?_, ?_, h7, h8, ?_, ?_⟩
  · rw [rG_eq lk S1 L (e 48 (by decide)) (e 49 (by decide)) (e 50 (by decide))]; exact h3
  · rw [rR_eq as S1 L (e 52 (by decide)) (e 53 (by decide)) (e 54 (by decide)) (e 55 (by decide)) (e 56 (by decide))]; exact h4
  · rw [rL_eq S1 L (e 57 (by decide)) (e 58 (by decide)) (e 59 (by decide)) (e 60 (by decide))]; exact h5
  · rw [wfA_eq lk as (hD 41 (Or.inl rfl)) (e 48 (by decide)) (e 52 (by decide)) (e 53 (by decide)) (e 54 (by decide)) (e 55 (by decide)) (e 57 (by decide))]; exact h.2.2.2.2.2.1
  · rw [wfO_eq (e 52 (by decide)) (e 57 (by decide)) (e 58 (by decide))]; exact h.2.2.2.2.2.2.2.2.1
  · rw [acD_eq (e 53 (by decide)) (e 54 (by decide)) (e 55 (by decide)) (e 57 (by decide)) (e 58 (by decide))]; exact h.2.2.2.2.2.2.2.2.2
theorem dS_ne {D : ZD} {k k' : Nat} {f : Nat → Int32} (h : k' ≠ k) : dS D k f k' = D k' := if_neg h
theorem dS_self {D : ZD} {k : Nat} {f : Nat → Int32} : dS D k f k = f := if_pos rfl
theorem scF_eq {D D1 : ZD} (h42 : D1 42 = D 42) (h44 : D1 44 = D 44) : ∀ n : Nat, scF D1 n = scF D n := by
  intro n
  induction n with
  | zero => rfl
  | succ n ih => simp only [scF, ih, h42, h44]
theorem scF_one {D D1 : ZD} {t : Nat} {x : Int64} (h : ∀ i : Nat, i ≠ t → (D1 42 i * D1 44 i).toInt64 = (D 42 i * D 44 i).toInt64) (ht : (D1 42 t * D1 44 t).toInt64 = (D 42 t * D 44 t).toInt64 + x) : ∀ n : Nat, scF D1 n = if t < n then scF D n + x else scF D n := by
  intro n
  induction n with
  | zero => rfl
  | succ n ih =>
    simp only [scF, ih]
    by_cases e : n = t
    · subst e
      rw [if_neg (Nat.lt_irrefl n), if_pos (Nat.lt_succ_self n), ht, Int64.add_assoc]
    · by_cases hlt : t < n
      · rw [if_pos hlt, if_pos (by omega), h n e, Int64.add_assoc, Int64.add_comm x, Int64.add_assoc]
      · rw [if_neg hlt, if_neg (by omega), h n e]
theorem cnF_cong {p q : Nat → Bool} : ∀ n : Nat, (∀ i : Nat, i < n → p i = q i) → cnF p n = cnF q n := by
  intro n
  induction n with
  | zero => intro _; rfl
  | succ n ih => intro h; simp only [cnF]; rw [ih (fun i hi => h i (by omega)), h n (by omega)]
theorem cnF_out {p q : Nat → Bool} {t : Nat} (h : ∀ i : Nat, i ≠ t → q i = p i) (hp : p t = true) (hq : q t = false) : ∀ n : Nat, cnF q n + (if t < n then 1 else 0) = cnF p n := by
  intro n
  induction n with
  | zero => rfl
  | succ n ih =>
    simp only [cnF]
    by_cases e : n = t
    · subst e
      rw [if_neg (Nat.lt_irrefl n)] at ih
      rw [hp, hq, if_pos (Nat.lt_succ_self n)]; simp only [Bool.false_eq_true, if_false, if_true]; omega
    · rw [h n e]
      by_cases hlt : t < n
      · rw [if_pos hlt] at ih; rw [if_pos (show t < n + 1 by omega)]; omega
      · rw [if_neg hlt] at ih; rw [if_neg (show ¬ t < n + 1 by omega)]; omega
theorem cnF_le (p : Nat → Bool) : ∀ n : Nat, cnF p n ≤ n := by
  intro n
  induction n with
  | zero => exact Nat.le_refl 0
  | succ n ih => simp only [cnF]; split <;> omega
/-- a number within bounds -/
theorem in_nI {x : Int32} {n : Nat} (h0 : 0 ≤ x) (h1 : x ≤ nI n) (hn : n < 2 ^ 31) : ∃ m : Nat, x = nI m ∧ m ≤ n := by
  obtain ⟨j, hj, rfl⟩ := nI_of (Int32.not_lt.mpr h0)
  exact ⟨j, rfl, (nI_leI hj hn).1 h1⟩
/-- the state behind a rating -/
def opRate (D : ZD) (t : Nat) (y : Int32) : ZD := dS D 43 (up1 (D 43) t y)
theorem cR.rate {D : ZD} {J : Nat → Int64} {lk : ZL} {as : Nat → Nat} {S : ZM} {L T : Nat → Nat} (h : cR D J lk as S L T) {t a : Nat} (ht : t < 24) (ha : tQ S (L 1) t = some a) {y : Int32} (h0 : 0 ≤ y) (h5 : y ≤ 5) :
    cX (opRate D t y) lk as (sI S 18 a y) L ∧ cV (opRate D t y) (sI S 18 a y) L ∧ cU (opRate D t y) (sI S 18 a y) L T ∧ wfQ (opRate D t y) J lk as := by
  obtain ⟨hX, hV, hK, hU, hQ, hF⟩ := h
  obtain ⟨h1, h2, h3, h4, h5', h6, h7, h8, h9, h10⟩ := id hX
  obtain ⟨hp, k5, n16, n17, n18, n19, n20, n21⟩ := h2.at ht ha
  obtain ⟨D1, hD1⟩ : ∃ z : ZD, z = opRate D t y := ⟨_, rfl⟩
  have hD : ∀ k : Nat, k ≠ 43 → D1 k = D k := fun k hk => by rw [hD1]; exact dS_ne hk
  have h43 : D1 43 = up1 (D 43) t y := by rw [hD1]; exact dS_self
  rw [← hD1]
  have hpr : prD D1 = prD D := prD_eq (hD 41 (by decide)) (hD 47 (by decide))
  have hdT : dT D1 = dT D := by simp only [dT, hD 41 (by decide)]
  refine ⟨hX.tr (fun k hk => hD k (by omega)) h1 ?_ h3 h4 h5' ?_ ?_, ?_, ?_, ?_, ?_⟩
  · refine rT_one h2 ht ha rfl rfl (fun k b hb => mI_sI_ne hb) (fun i => by rw [hpr]) (fun i hi => ⟨by rw [hD 42 (by decide)], by rw [h43, up1_ne hi], by rw [hD 44 (by decide)], by simp only [lastD, hD 44 (by decide), hD 45 (by decide)], by rw [hD 46 (by decide)]⟩) ⟨?_, ?_, ?_, ?_, ?_, ?_⟩
    · rw [mI_sI_k (by decide)]; exact n16
    · rw [mI_sI_k (by decide), hD 42 (by decide)]; exact n17
    · rw [mI_sI, h43, up1_self]
    · rw [mI_sI_k (by decide), hD 44 (by decide)]; exact n19
    · rw [mI_sI_k (by decide), n20]; simp only [lastD, hD 44 (by decide), hD 45 (by decide)]
    · rw [mI_sI_k (by decide), hD 46 (by decide)]; exact n21
  · rw [mI_sI_k (by decide), hD 40 (by decide)]; exact h7
  · rw [hD 44 (by decide), hD 45 (by decide)]; exact h8
  · simp only [cV, hpr, hdT, scF_eq (hD 42 (by decide)) (hD 44 (by decide)), hD 41 (by decide), hD 48 (by decide), hD 52 (by decide), hD 57 (by decide)]; exact hV
  · rw [cU_eq _ L T (hD 41 (by decide)) (hD 47 (by decide)) (hD 48 (by decide)) (hD 67 (by decide)) (hD 69 (by decide)) (hD 70 (by decide))]; exact hU
  · intro i hi
    rw [hdT, hD 42 (by decide), h43, hD 44 (by decide), hD 46 (by decide), hD 47 (by decide)]
    refine ⟨fun hd => ⟨((hQ.1 i hi).1 hd).1, ?_, ((hQ.1 i hi).1 hd).2.2⟩, (hQ.1 i hi).2⟩
    by_cases e : i = t
    · subst e; rw [up1_self]; exact in_nI h0 h5 (by decide)
    · rw [up1_ne e]; exact ((hQ.1 i hi).1 hd).2.1
  · have q := hQ.2
    simp only [dG, dR, dU, dL] at q ⊢
    rw [hD 40 (by decide), hD 48 (by decide), hD 49 (by decide), hD 50 (by decide), hD 51 (by decide), hD 52 (by decide), hD 53 (by decide), hD 56 (by decide), hD 57 (by decide), hD 59 (by decide), hD 67 (by decide), hD 68 (by decide), hD 69 (by decide)]
    exact q

set_option maxRecDepth 100000 in
set_option maxHeartbeats 4000000 in
theorem C_setRating {l : Launch} (hl0 : l.stackTraces = false) {D : ZD} {J : Nat → Int64} {lk : ZL} {as : Nat → Nat} {S : ZM} {L T : Nat → Nat} (hR1 : cR D J lk as S L T) (x y : Int32) : zMet l yX4_setRating (Cond.code yX4_setRating cX4_setRating 5 (some .int) :: LWc) ({ frames := 45, cells := 2, slots := 12, locals := 1001 } : Room) 2 12 [zr (some (L 0)), zi x, zi y] S (zPo (fun v S' => ∃ t : Nat, t < 24 ∧ x = nI t ∧ prD D t = true ∧ 0 ≤ y ∧ y ≤ 5 ∧ v = some (zi (D 43 t)) ∧ cR (chgD (opRate D t y)) J lk as S' L T) (fun E S' => S' = S ∧ ((¬ hasTr D x ∧ E = "java/util/NoSuchElementException") ∨ (hasTr D x ∧ ¬ (0 ≤ y ∧ y ≤ 5) ∧ E = "java/lang/IllegalArgumentException")))) := by
  refine zMet.of' [some (zr (some (L 0))), some (zi x), some (zi y), none, none] hl0 (by decide) rfl (Nat.le_of_ble_eq_true rfl) rfl ?_
  intro X C N hR hN0 hX F
  subst hX
  obtain ⟨hX0, hV, hK, hU, hQ, hF⟩ := id hR1
  obtain ⟨hS, hT, hG, hRR, hLL, hA, hday, hpl, hO, hAc⟩ := id hX0
  refine z_aload_n C rfl dX4_setRating_0 ?_
  refine z_iload_n C rfl dX4_setRating_1 ?_
  refine z_callC 1 [zi x] C rfl (C_needTrack hl0 hS x) rfl (zgoodV LWc_good wc157 wc158 wc159 wc58 wc160) rfl rfl rfl (by decide +kernel) rfl (by rw [hR]; exact ⟨Nat.le_of_ble_eq_true rfl, Nat.le_of_ble_eq_true rfl⟩) hS.c (by rw [hR]; exact ⟨Nat.le_of_ble_eq_true rfl, Nat.le_of_ble_eq_true rfl⟩) (Nat.le_of_ble_eq_true rfl) dX4_setRating_2 (fun v2 S2 h2 => ?_) (fun E2 S2 h2 => ?_)
  · obtain ⟨a9, e2, rfl, q2⟩ := h2
    subst S2
    obtain ⟨t, ht2, ex2, ea2, hp2, k5, n16, n17, n18, n19, n20, n21⟩ := hT.some e2
    refine z_astore_n [_, _, _, _, _] C (by decide) rfl dX4_setRating_5 ?_
    refine z_iload_n C rfl dX4_setRating_6 ?_
    refine z_iconst 0 (by decide) C dX4_setRating_7 ?_
    refine z_iconst 5 (by decide) C dX4_setRating_8 ?_
    refine z_callS 3 [zi y, zi 0, zi 5] C (C_needRange hl0 y 0 5) rfl (zgoodS LWc_good wc145 wc146 wc58 wc147) rfl rfl rfl (by decide +kernel) rfl (by rw [hR]; exact ⟨Nat.le_of_ble_eq_true rfl, Nat.le_of_ble_eq_true rfl⟩) (by rw [hR]; exact ⟨Nat.le_of_ble_eq_true rfl, Nat.le_of_ble_eq_true rfl⟩) (Nat.le_of_ble_eq_true rfl) dX4_setRating_9 (fun v9 S9 h9 => ?_) (fun E9 S9 h9 => ?_)
    · obtain ⟨lo9, hi9, rfl, q9⟩ := h9
      subst S9
      refine z_aload_n C rfl dX4_setRating_12 ?_
      refine zg3_rating C (fun w h => List.mem_cons_of_mem _ (uc_wsX30 w h)) k5 (List.mem_cons_of_mem _ wc67) dX4_setRating_13 ?_
      refine z_int n18 ?_
      refine z_istore [_, _, _, _, _] C (by decide) rfl dX4_setRating_16 ?_
      refine z_aload_n C rfl dX4_setRating_18 ?_
      refine z_iload_n C rfl dX4_setRating_19 ?_
      refine zp3_rating C (fun w h => List.mem_cons_of_mem _ (uc_wsX30 w h)) k5 (List.mem_cons_of_mem _ wc67) dX4_setRating_20 ?_
      obtain ⟨g1, g2, g3, g4⟩ := hR1.rate ht2 ea2 lo9 hi9
      refine z_aload_n C rfl dX4_setRating_23 ?_
      refine z_callC 0 [] C rfl (C_update hl0 g1) rfl (zgoodV LWc_good wc151 wc152 wc153 wc58 wc154) rfl rfl rfl (by decide +kernel) rfl (by rw [hR]; exact ⟨Nat.le_of_ble_eq_true rfl, Nat.le_of_ble_eq_true rfl⟩) hS.c (by rw [hR]; exact ⟨Nat.le_of_ble_eq_true rfl, Nat.le_of_ble_eq_true rfl⟩) (Nat.le_of_ble_eq_true rfl) dX4_setRating_24 (fun v24 S24 h24 => ?_) (fun E24 S24 h24 => ?_)
      · obtain ⟨rfl, A1, q24⟩ := h24
        subst S24
        refine z_iload C rfl dX4_setRating_27 ?_
        refine z_ireturn C F (Nat.le_of_ble_eq_true rfl) (Nat.le_of_ble_eq_true rfl) dX4_setRating_29 ?_
        exact ⟨t, ht2, ex2, hp2, lo9, hi9, rfl, cR.up g1 g2 hK.1 hF.2 g3 g4 A1⟩
      · exact h24.elim
    · obtain ⟨e9, rfl, q9⟩ := h9
      subst S9
      exact z_out C F N (Nat.le_of_ble_eq_true rfl) (Nat.le_of_ble_eq_true rfl) ⟨rfl, Or.inr ⟨⟨t, ht2, ex2, hp2⟩, e9, rfl⟩⟩
  · obtain ⟨e2, rfl, q2⟩ := h2
    subst S2
    exact z_out C F N (Nat.le_of_ble_eq_true rfl) (Nat.le_of_ble_eq_true rfl) ⟨rfl, Or.inl ⟨hT.none e2, rfl⟩⟩
