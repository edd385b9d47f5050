/-! the class: questions -/
/-- a list's number, a rule's number -/
def hasLs (D : ZD) (x : Int32) : Prop := ∃ i : Nat, i < 8 ∧ i < dL D ∧ x = nI i
def hasRl (D : ZD) (x : Int32) : Prop := ∃ r : Nat, r < 40 ∧ r < dR D ∧ x = nI r
theorem tL_some {D : ZD} {S : ZM} {L : Nat → Nat} (h : rL D S L) {x : Int32} {a : Nat} (ha : cAt (tQ S (L 4)) 8 x = some a) : ∃ i r : Nat, i < 8 ∧ i < dL D ∧ x = nI i ∧ tQ S (L 4) i = some a ∧ mK S a = 2 ∧ mQ S 0 a = some r ∧ tQ S (L 3) (ix (D 58 i)) = some r ∧ mI S 1 a = D 59 i ∧ mI S 2 a = D 60 i := by
  obtain ⟨i, hi, e, ea⟩ := cAt_some (by decide) ha
  have hl : i < dL D := by
    rcases Nat.lt_or_ge i (dL D) with q | q
    · exact q
    · rw [h.1 i hi q] at ea; cases ea
  obtain ⟨b, r, eb, h1⟩ := h.2 i hl
  have : b = a := by rw [eb] at ea; exact Option.some.inj ea
  subst this
  exact ⟨i, r, hi, hl, e, eb, h1⟩
theorem tL_none {D : ZD} {S : ZM} {L : Nat → Nat} (h : rL D S L) {x : Int32} (ha : cAt (tQ S (L 4)) 8 x = none) : ¬ hasLs D x := by
  rintro ⟨i, hi, hl, e⟩
  obtain ⟨b, r, eb, -⟩ := h.2 i hl
  rw [e, cAt_nI hi (by decide), eb] at ha; cases ha
theorem tR_some {D : ZD} {as : Nat → Nat} {S : ZM} {L : Nat → Nat} (h : rR D as S L) {x : Int32} {a : Nat} (ha : cAt (tQ S (L 3)) 40 x = some a) : ∃ r : Nat, r < 40 ∧ r < dR D ∧ x = nI r ∧ tQ S (L 3) r = some a ∧ mK S a = 3 ∧ mI S 3 a = nI r ∧ mI S 8 a = D 56 r ∧ mI S 9 a = lsD D r := by
  obtain ⟨r, hr, e, ea⟩ := cAt_some (by decide) ha
  have hl : r < dR D := by
    rcases Nat.lt_or_ge r (dR D) with q | q
    · exact q
    · rw [h.1 r hr q] at ea; cases ea
  obtain ⟨b, eb, h1, h2, h3, h4, h5, h6, h7, h8⟩ := h.2 r hl
  have : b = a := by rw [eb] at ea; exact Option.some.inj ea
  subst this
  exact ⟨r, hr, hl, e, eb, h1, h2, h7, h8⟩
theorem tR_none {D : ZD} {as : Nat → Nat} {S : ZM} {L : Nat → Nat} (h : rR D as S L) {x : Int32} (ha : cAt (tQ S (L 3)) 40 x = none) : ¬ hasRl D x := by
  rintro ⟨r, hr, hl, e⟩
  obtain ⟨b, eb, -⟩ := h.2 r hl
  rw [e, cAt_nI hr (by decide), eb] at ha; cases ha
/-- list i's rule -/
theorem cX.rule {D : ZD} {lk : ZL} {as : Nat → Nat} {S : ZM} {L : Nat → Nat} (h : cX D lk as S L) {i r : Nat} (hi : i < dL D) (hr : tQ S (L 3) (ix (D 58 i)) = some r) : ix (D 58 i) < dR D ∧ ix (D 58 i) < 40 ∧ D 58 i = nI (ix (D 58 i)) ∧ mK S r = 3 ∧ mI S 9 r = lsD D (ix (D 58 i)) ∧ mI S 3 r = D 58 i := by
  obtain ⟨q, hq, e⟩ := h.2.2.2.2.2.2.2.2.1 i hi
  have h40 : dR D ≤ 40 := h.2.2.2.2.2.1.1.2.2.1.2
  have e2 : ix (D 58 i) = q := by rw [e, ix]; exact nI_clamp (by omega)
  rw [e2] at hr ⊢
  obtain ⟨k3, k9, kn⟩ := h.2.2.2.1.ls hq hr
  exact ⟨hq, by omega, e, k3, k9, kn.trans e.symm⟩
theorem cR.sub {D : ZD} {J : Nat → Int64} {lk : ZL} {as : Nat → Nat} {S : ZM} {L T : Nat → Nat} (h : cR D J lk as S L T) {i : Nat} (hi : i < 8) : subD D (D 61 i) := by
  rcases Nat.lt_or_ge i (dL D) with q | q
  · rw [h.2.2.2.2.2.1 i q]; exact subD_fix D i
  · rw [h.2.2.2.2.2.2 i hi q]; exact subD_0 D
theorem cR.mt {D : ZD} {J : Nat → Int64} {lk : ZL} {as : Nat → Nat} {S : ZM} {L T : Nat → Nat} (h : cR D J lk as S L T) {r : Nat} (hr : r < dR D) : mtD D (tI S (L 5)) r = mtD D (D 61) r :=
  mtD_cong h.1.2.2.2.2.2.1.2.1 h.1.2.2.2.2.2.1.1.2.2.2.2 h.1.2.2.2.2.2.1.1.2.2.1.2 hr (fun i hi _ => h.2.2.1.1 i hi)
theorem rG.tg {D : ZD} {J : Nat → Int64} {lk : ZL} {as : Nat → Nat} {S : ZM} {L T : Nat → Nat} (h : cR D J lk as S L T) {g a : Nat} (hg : g < dG D) (ha : tQ S (L 2) g = some a) : tgO S a (ix (D 49 g)) (fun j => D 50 (6 * g + j)) ∧ D 49 g = nI (ix (D 49 g)) := by
  have h16 : dG D ≤ 16 := h.1.2.2.2.2.2.1.1.2.1.2
  obtain ⟨b, nm, eb, h1, h2, h3, h4, h5, h6, h7, h8⟩ := h.1.2.2.1.2 g hg
  have : b = a := by rw [eb] at ha; exact Option.some.inj ha
  subst this
  obtain ⟨n, en, hn, -⟩ := h.2.2.2.2.1.2.2.1 g (by omega)
  have e2 : ix (D 49 g) = n := by rw [en, ix]; exact nI_clamp (by omega)
  rw [e2]
  exact ⟨⟨h1, by rw [h6, en], hn, nm, h3, h4, h5, fun j hj => h7 j (by omega) (by rw [en]; exact nI_lt hj (by omega))⟩, en⟩
theorem cR.sT {D : ZD} {J : Nat → Int64} {lk : ZL} {as : Nat → Nat} {S : ZM} {L T : Nat → Nat} (h : cR D J lk as S L T) {F : Nat → Nat → Int32} (hF : offT S L F) : cR D J lk as (sT S F) L T := by
  obtain ⟨hX, hV, hK, ⟨u1, u2, u3, u4, u5⟩, hQ⟩ := h
  have off : ∀ j : Nat, j < 9 → F (L j) = tI S (L j) := fun j hj => hF _ (fun r hr q => by have := hX.1.ap j (9 + r) (by omega) (by omega) q; omega)
  refine ⟨hX.sT hF, hV, ⟨fun i hi => ?_, hK.2⟩, ⟨u1, u2, u3, u4, fun k hk => ⟨(u5 k hk).1, (u5 k hk).2.1, fun t ht hp => ?_⟩⟩, hQ⟩
  · show F (L 5) i = D 61 i
    rw [off 5 (by decide)]; exact hK.1 i hi
  · show F (T (ix (D 69 k))) t = _
    rw [hF _ (fun r hr q => u2 _ (9 + r) (u5 k hk).1 (by omega) q)]
    exact (u5 k hk).2.2 t ht hp
theorem cR.e7 {D : ZD} {J : Nat → Int64} {lk : ZL} {as : Nat → Nat} {S : ZM} {L T : Nat → Nat} (h : cR D J lk as S L T) (K : Nat → Int32) : cR D J lk as (eR S (L 7) K) L T := by
  obtain ⟨hX, hV, hK, ⟨u1, u2, u3, u4, u5⟩, hQ⟩ := h
  refine ⟨hX.eR hX.1.br.2.1 K, hV, ⟨fun i hi => ?_, hK.2⟩, ⟨u1, u2, u3, u4, fun k hk => ⟨(u5 k hk).1, (u5 k hk).2.1, fun t ht hp => ?_⟩⟩, hQ⟩
  · show up1 S.2.2.2.2.2.1 (L 7) K (L 5) i = D 61 i
    rw [up1_ne (fun q => absurd (hX.1.ap 5 7 (by omega) (by omega) q) (by decide))]; exact hK.1 i hi
  · show up1 S.2.2.2.2.2.1 (L 7) K (T (ix (D 69 k))) t = _
    rw [up1_ne (u2 _ 7 (u5 k hk).1 (by omega))]
    exact (u5 k hk).2.2 t ht hp
/-- what the lists' rules ask for -/
def lsO (D : ZD) (i : Nat) : Option Int32 := if i < dL D then some (lsD D (ix (D 58 i))) else none
theorem wlI_cong {f g : Nat → Option Int32} : ∀ n : Nat, (∀ i : Nat, i < n → f i = g i) → ∀ s : Int32, wlI f n s = wlI g n s := by
  intro n
  induction n with
  | zero => intro _ s; rfl
  | succ n ih => intro h s; simp only [wlI]; rw [h n (by omega), ih (fun i hi => h i (by omega)) s]
theorem wlO_cong {f g : Nat → Option Int32} (h : ∀ i : Nat, i < 8 → f i = g i) : ∀ (n : Nat) (s : Int32), wlO f n s = wlO g n s := by
  intro n
  induction n with
  | zero => intro s; rfl
  | succ n ih => intro s; simp only [wlO]; rw [ih, wlI_cong 8 h]
theorem cX.lso {D : ZD} {lk : ZL} {as : Nat → Nat} {S : ZM} {L : Nat → Nat} (h : cX D lk as S L) {i : Nat} (hi : i < 8) : lsS S L i = lsO D i := by
  unfold lsS lsO
  rcases Nat.lt_or_ge i (dL D) with q | q
  · obtain ⟨a, r, e, h1, h2, h3, -⟩ := h.2.2.2.2.1.2 i q
    rw [e, if_pos q]
    show some (mI S 9 ((mQ S 0 a).getD 0)) = _
    rw [h2]
    exact congrArg some (h.rule q h3).2.2.2.2.1
  · rw [h.2.2.2.2.1.1 i hi q, if_neg (by omega)]; rfl
theorem cX.cLr {D : ZD} {lk : ZL} {as : Nat → Nat} {S : ZM} {L : Nat → Nat} (h : cX D lk as S L) : cLr S L := by
  intro i a hi ha
  rcases Nat.lt_or_ge i (dL D) with q | q
  · obtain ⟨b, r, e, h1, h2, h3, -⟩ := h.2.2.2.2.1.2 i q
    have : b = a := by rw [e] at ha; exact Option.some.inj ha
    subst this
    exact ⟨h1, r, h2, (h.rule q h3).2.2.2.1⟩
  · rw [h.2.2.2.2.1.1 i hi q] at ha; cases ha
theorem last_ne {D : ZD} {t : Nat} (h : ¬ D 45 t = -1) : (lastD D t = -1 ↔ D 44 t = 0) := by
  unfold lastD
  by_cases e : D 44 t = 0
  · rw [if_pos e]; exact ⟨fun _ => e, fun _ => rfl⟩
  · rw [if_neg e]; exact ⟨fun q => absurd q h, fun q => absurd q e⟩

set_option maxRecDepth 100000 in
set_option maxHeartbeats 4000000 in
theorem C_tracks {l : Launch} (hl0 : l.stackTraces = false) {D : ZD} {J : Nat → Int64} {lk : ZL} {as : Nat → Nat} {S : ZM} {L T : Nat → Nat} (hR1 : cR D J lk as S L T) : zMet l yX4_tracks (Cond.code yX4_tracks cX4_tracks 1 (some .int) :: LWc) ({ frames := 0, cells := 0, slots := 0, locals := 0 } : Room) 0 0 [zr (some (L 0))] S (zPo (fun v S' => v = some (zi (nI (cnF (prD D) 24))) ∧ S' = S) (fun _ _ => False)) := by
  refine zMet.of' [some (zr (some (L 0)))] hl0 (by decide) rfl (Nat.le_of_ble_eq_true rfl) rfl ?_
  intro X C N hR hN0 hX F
  subst hX
  obtain ⟨hX0, hV, hK, hU, hQ, hF⟩ := id hR1
  obtain ⟨hS, hT, hG, hRR, hLL, hA, hday, hpl, hO, hAc⟩ := id hX0
  refine z_aload_n C rfl dX4_tracks_0 ?_
  refine zg4_tracksLeft C (fun w h => List.mem_cons_of_mem _ (uc_wsX40 w h)) hS.c (List.mem_cons_of_mem _ wc40) dX4_tracks_1 ?_
  refine z_int hV.2.1 ?_
  refine z_ireturn C F (Nat.le_of_ble_eq_true rfl) (Nat.le_of_ble_eq_true rfl) dX4_tracks_4 ?_
  exact ⟨rfl, rfl⟩
set_option maxRecDepth 100000 in
set_option maxHeartbeats 4000000 in
theorem C_today {l : Launch} (hl0 : l.stackTraces = false) {D : ZD} {J : Nat → Int64} {lk : ZL} {as : Nat → Nat} {S : ZM} {L T : Nat → Nat} (hR1 : cR D J lk as S L T) : zMet l yX4_today (Cond.code yX4_today cX4_today 1 (some .int) :: LWc) ({ frames := 0, cells := 0, slots := 0, locals := 0 } : Room) 0 0 [zr (some (L 0))] S (zPo (fun v S' => v = some (zi (D 40 0)) ∧ S' = S) (fun _ _ => False)) := by
  refine zMet.of' [some (zr (some (L 0)))] hl0 (by decide) rfl (Nat.le_of_ble_eq_true rfl) rfl ?_
  intro X C N hR hN0 hX F
  subst hX
  obtain ⟨hX0, hV, hK, hU, hQ, hF⟩ := id hR1
  obtain ⟨hS, hT, hG, hRR, hLL, hA, hday, hpl, hO, hAc⟩ := id hX0
  refine z_aload_n C rfl dX4_today_0 ?_
  refine zg4_day C (fun w h => List.mem_cons_of_mem _ (uc_wsX40 w h)) hS.c (List.mem_cons_of_mem _ wc50) dX4_today_1 ?_
  refine z_int hday ?_
  refine z_ireturn C F (Nat.le_of_ble_eq_true rfl) (Nat.le_of_ble_eq_true rfl) dX4_today_4 ?_
  exact ⟨rfl, rfl⟩
set_option maxRecDepth 100000 in
set_option maxHeartbeats 4000000 in
theorem C_lengthOf {l : Launch} (hl0 : l.stackTraces = false) {D : ZD} {J : Nat → Int64} {lk : ZL} {as : Nat → Nat} {S : ZM} {L T : Nat → Nat} (hR1 : cR D J lk as S L T) (x : Int32) : zMet l yX4_lengthOf (Cond.code yX4_lengthOf cX4_lengthOf 2 (some .int) :: LWc) ({ frames := 7, cells := 1, slots := 6, locals := 108 } : Room) 1 6 [zr (some (L 0)), zi x] S (zPo (fun v S' => ∃ t : Nat, t < 24 ∧ x = nI t ∧ prD D t = true ∧ v = some (zi (D 42 t)) ∧ S' = S) (fun E S' => S' = S ∧ ¬ hasTr D x ∧ E = "java/util/NoSuchElementException")) := by
  refine zMet.of' [some (zr (some (L 0))), some (zi x)] hl0 (by decide) rfl (Nat.le_of_ble_eq_true rfl) rfl ?_
  intro X C N hR hN0 hX F
  subst hX
  obtain ⟨hX0, hV, hK, hU, hQ, hF⟩ := id hR1
  obtain ⟨hS, hT, hG, hRR, hLL, hA, hday, hpl, hO, hAc⟩ := id hX0
  refine z_aload_n C rfl dX4_lengthOf_0 ?_
  refine z_iload_n C rfl dX4_lengthOf_1 ?_
  refine z_callC 1 [zi x] C rfl (C_needTrack hl0 hS x) rfl (zgoodV LWc_good wc157 wc158 wc159 wc58 wc160) rfl rfl rfl (by decide +kernel) rfl (by rw [hR]; exact ⟨Nat.le_of_ble_eq_true rfl, Nat.le_of_ble_eq_true rfl⟩) hS.c (by rw [hR]; exact ⟨Nat.le_of_ble_eq_true rfl, Nat.le_of_ble_eq_true rfl⟩) (Nat.le_of_ble_eq_true rfl) dX4_lengthOf_2 (fun v2 S2 h2 => ?_) (fun E2 S2 h2 => ?_)
  · obtain ⟨a9, e2, rfl, q2⟩ := h2
    subst S2
    obtain ⟨t, ht2, ex2, ea2, hp2, k5, n16, n17, n18, n19, n20, n21⟩ := hT.some e2
    refine zg3_length C (fun w h => List.mem_cons_of_mem _ (uc_wsX30 w h)) k5 (List.mem_cons_of_mem _ wc69) dX4_lengthOf_5 ?_
    refine z_int n17 ?_
    refine z_ireturn C F (Nat.le_of_ble_eq_true rfl) (Nat.le_of_ble_eq_true rfl) dX4_lengthOf_8 ?_
    exact ⟨t, ht2, ex2, hp2, rfl, rfl⟩
  · obtain ⟨e2, rfl, q2⟩ := h2
    subst S2
    exact z_out C F N (Nat.le_of_ble_eq_true rfl) (Nat.le_of_ble_eq_true rfl) ⟨rfl, hT.none e2, rfl⟩
set_option maxRecDepth 100000 in
set_option maxHeartbeats 4000000 in
theorem C_ratingOf {l : Launch} (hl0 : l.stackTraces = false) {D : ZD} {J : Nat → Int64} {lk : ZL} {as : Nat → Nat} {S : ZM} {L T : Nat → Nat} (hR1 : cR D J lk as S L T) (x : Int32) : zMet l yX4_ratingOf (Cond.code yX4_ratingOf cX4_ratingOf 2 (some .int) :: LWc) ({ frames := 7, cells := 1, slots := 6, locals := 108 } : Room) 1 6 [zr (some (L 0)), zi x] S (zPo (fun v S' => ∃ t : Nat, t < 24 ∧ x = nI t ∧ prD D t = true ∧ v = some (zi (D 43 t)) ∧ S' = S) (fun E S' => S' = S ∧ ¬ hasTr D x ∧ E = "java/util/NoSuchElementException")) := by
  refine zMet.of' [some (zr (some (L 0))), some (zi x)] hl0 (by decide) rfl (Nat.le_of_ble_eq_true rfl) rfl ?_
  intro X C N hR hN0 hX F
  subst hX
  obtain ⟨hX0, hV, hK, hU, hQ, hF⟩ := id hR1
  obtain ⟨hS, hT, hG, hRR, hLL, hA, hday, hpl, hO, hAc⟩ := id hX0
  refine z_aload_n C rfl dX4_ratingOf_0 ?_
  refine z_iload_n C rfl dX4_ratingOf_1 ?_
  refine z_callC 1 [zi x] C rfl (C_needTrack hl0 hS x) rfl (zgoodV LWc_good wc157 wc158 wc159 wc58 wc160) rfl rfl rfl (by decide +kernel) rfl (by rw [hR]; exact ⟨Nat.le_of_ble_eq_true rfl, Nat.le_of_ble_eq_true rfl⟩) hS.c (by rw [hR]; exact ⟨Nat.le_of_ble_eq_true rfl, Nat.le_of_ble_eq_true rfl⟩) (Nat.le_of_ble_eq_true rfl) dX4_ratingOf_2 (fun v2 S2 h2 => ?_) (fun E2 S2 h2 => ?_)
  · obtain ⟨a9, e2, rfl, q2⟩ := h2
    subst S2
    obtain ⟨t, ht2, ex2, ea2, hp2, k5, n16, n17, n18, n19, n20, n21⟩ := hT.some e2
    refine zg3_rating C (fun w h => List.mem_cons_of_mem _ (uc_wsX30 w h)) k5 (List.mem_cons_of_mem _ wc67) dX4_ratingOf_5 ?_
    refine z_int n18 ?_
    refine z_ireturn C F (Nat.le_of_ble_eq_true rfl) (Nat.le_of_ble_eq_true rfl) dX4_ratingOf_8 ?_
    exact ⟨t, ht2, ex2, hp2, rfl, rfl⟩
  · obtain ⟨e2, rfl, q2⟩ := h2
    subst S2
    exact z_out C F N (Nat.le_of_ble_eq_true rfl) (Nat.le_of_ble_eq_true rfl) ⟨rfl, hT.none e2, rfl⟩
set_option maxRecDepth 100000 in
set_option maxHeartbeats 4000000 in
theorem C_playsOf {l : Launch} (hl0 : l.stackTraces = false) {D : ZD} {J : Nat → Int64} {lk : ZL} {as : Nat → Nat} {S : ZM} {L T : Nat → Nat} (hR1 : cR D J lk as S L T) (x : Int32) : zMet l yX4_playsOf (Cond.code yX4_playsOf cX4_playsOf 2 (some .int) :: LWc) ({ frames := 7, cells := 1, slots := 6, locals := 108 } : Room) 1 6 [zr (some (L 0)), zi x] S (zPo (fun v S' => ∃ t : Nat, t < 24 ∧ x = nI t ∧ prD D t = true ∧ v = some (zi (D 44 t)) ∧ S' = S) (fun E S' => S' = S ∧ ¬ hasTr D x ∧ E = "java/util/NoSuchElementException")) := by
  refine zMet.of' [some (zr (some (L 0))), some (zi x)] hl0 (by decide) rfl (Nat.le_of_ble_eq_true rfl) rfl ?_
  intro X C N hR hN0 hX F
  subst hX
  obtain ⟨hX0, hV, hK, hU, hQ, hF⟩ := id hR1
  obtain ⟨hS, hT, hG, hRR, hLL, hA, hday, hpl, hO, hAc⟩ := id hX0
  refine z_aload_n C rfl dX4_playsOf_0 ?_
  refine z_iload_n C rfl dX4_playsOf_1 ?_
  refine z_callC 1 [zi x] C rfl (C_needTrack hl0 hS x) rfl (zgoodV LWc_good wc157 wc158 wc159 wc58 wc160) rfl rfl rfl (by decide +kernel) rfl (by rw [hR]; exact ⟨Nat.le_of_ble_eq_true rfl, Nat.le_of_ble_eq_true rfl⟩) hS.c (by rw [hR]; exact ⟨Nat.le_of_ble_eq_true rfl, Nat.le_of_ble_eq_true rfl⟩) (Nat.le_of_ble_eq_true rfl) dX4_playsOf_2 (fun v2 S2 h2 => ?_) (fun E2 S2 h2 => ?_)
  · obtain ⟨a9, e2, rfl, q2⟩ := h2
    subst S2
    obtain ⟨t, ht2, ex2, ea2, hp2, k5, n16, n17, n18, n19, n20, n21⟩ := hT.some e2
    refine zg3_plays C (fun w h => List.mem_cons_of_mem _ (uc_wsX30 w h)) k5 (List.mem_cons_of_mem _ wc68) dX4_playsOf_5 ?_
    refine z_int n19 ?_
    refine z_ireturn C F (Nat.le_of_ble_eq_true rfl) (Nat.le_of_ble_eq_true rfl) dX4_playsOf_8 ?_
    exact ⟨t, ht2, ex2, hp2, rfl, rfl⟩
  · obtain ⟨e2, rfl, q2⟩ := h2
    subst S2
    exact z_out C F N (Nat.le_of_ble_eq_true rfl) (Nat.le_of_ble_eq_true rfl) ⟨rfl, hT.none e2, rfl⟩
set_option maxRecDepth 100000 in
set_option maxHeartbeats 4000000 in
theorem C_tagBits {l : Launch} (hl0 : l.stackTraces = false) {D : ZD} {J : Nat → Int64} {lk : ZL} {as : Nat → Nat} {S : ZM} {L T : Nat → Nat} (hR1 : cR D J lk as S L T) (x : Int32) : zMet l yX4_tagBits (Cond.code yX4_tagBits cX4_tagBits 2 (some .int) :: LWc) ({ frames := 7, cells := 1, slots := 6, locals := 108 } : Room) 1 6 [zr (some (L 0)), zi x] S (zPo (fun v S' => ∃ t : Nat, t < 24 ∧ x = nI t ∧ prD D t = true ∧ v = some (zi (D 46 t)) ∧ S' = S) (fun E S' => S' = S ∧ ¬ hasTr D x ∧ E = "java/util/NoSuchElementException")) := by
  refine zMet.of' [some (zr (some (L 0))), some (zi x)] hl0 (by decide) rfl (Nat.le_of_ble_eq_true rfl) rfl ?_
  intro X C N hR hN0 hX F
  subst hX
  obtain ⟨hX0, hV, hK, hU, hQ, hF⟩ := id hR1
  obtain ⟨hS, hT, hG, hRR, hLL, hA, hday, hpl, hO, hAc⟩ := id hX0
  refine z_aload_n C rfl dX4_tagBits_0 ?_
  refine z_iload_n C rfl dX4_tagBits_1 ?_
  refine z_callC 1 [zi x] C rfl (C_needTrack hl0 hS x) rfl (zgoodV LWc_good wc157 wc158 wc159 wc58 wc160) rfl rfl rfl (by decide +kernel) rfl (by rw [hR]; exact ⟨Nat.le_of_ble_eq_true rfl, Nat.le_of_ble_eq_true rfl⟩) hS.c (by rw [hR]; exact ⟨Nat.le_of_ble_eq_true rfl, Nat.le_of_ble_eq_true rfl⟩) (Nat.le_of_ble_eq_true rfl) dX4_tagBits_2 (fun v2 S2 h2 => ?_) (fun E2 S2 h2 => ?_)
  · obtain ⟨a9, e2, rfl, q2⟩ := h2
    subst S2
    obtain ⟨t, ht2, ex2, ea2, hp2, k5, n16, n17, n18, n19, n20, n21⟩ := hT.some e2
    refine zg3_tagSet C (fun w h => List.mem_cons_of_mem _ (uc_wsX30 w h)) k5 (List.mem_cons_of_mem _ wc66) dX4_tagBits_5 ?_
    refine z_int n21 ?_
    refine z_ireturn C F (Nat.le_of_ble_eq_true rfl) (Nat.le_of_ble_eq_true rfl) dX4_tagBits_8 ?_
    exact ⟨t, ht2, ex2, hp2, rfl, rfl⟩
  · obtain ⟨e2, rfl, q2⟩ := h2
    subst S2
    exact z_out C F N (Nat.le_of_ble_eq_true rfl) (Nat.le_of_ble_eq_true rfl) ⟨rfl, hT.none e2, rfl⟩
set_option maxRecDepth 100000 in
set_option maxHeartbeats 4000000 in
theorem C_playedLast {l : Launch} (hl0 : l.stackTraces = false) {D : ZD} {J : Nat → Int64} {lk : ZL} {as : Nat → Nat} {S : ZM} {L T : Nat → Nat} (hR1 : cR D J lk as S L T) (x : Int32) : zMet l yX4_playedLast (Cond.code yX4_playedLast cX4_playedLast 3 (some .int) :: LWc) ({ frames := 7, cells := 2, slots := 12, locals := 108 } : Room) 2 12 [zr (some (L 0)), zi x] S (zPo (fun v S' => ∃ t : Nat, t < 24 ∧ x = nI t ∧ prD D t = true ∧ ¬ D 44 t = 0 ∧ v = some (zi (D 45 t)) ∧ S' = S) (fun E S' => S' = S ∧ ((¬ hasTr D x ∧ E = "java/util/NoSuchElementException") ∨ ∃ t : Nat, t < 24 ∧ x = nI t ∧ prD D t = true ∧ D 44 t = 0 ∧ E = "java/lang/IllegalStateException"))) := by
  refine zMet.of' [some (zr (some (L 0))), some (zi x), none] hl0 (by decide) rfl (Nat.le_of_ble_eq_true rfl) rfl ?_
  intro X C N hR hN0 hX F
  subst hX
  obtain ⟨hX0, hV, hK, hU, hQ, hF⟩ := id hR1
  obtain ⟨hS, hT, hG, hRR, hLL, hA, hday, hpl, hO, hAc⟩ := id hX0
  refine z_aload_n C rfl dX4_playedLast_0 ?_
  refine z_iload_n C rfl dX4_playedLast_1 ?_
  refine z_callC 1 [zi x] C rfl (C_needTrack hl0 hS x) rfl (zgoodV LWc_good wc157 wc158 wc159 wc58 wc160) rfl rfl rfl (by decide +kernel) rfl (by rw [hR]; exact ⟨Nat.le_of_ble_eq_true rfl, Nat.le_of_ble_eq_true rfl⟩) hS.c (by rw [hR]; exact ⟨Nat.le_of_ble_eq_true rfl, Nat.le_of_ble_eq_true rfl⟩) (Nat.le_of_ble_eq_true rfl) dX4_playedLast_2 (fun v2 S2 h2 => ?_) (fun E2 S2 h2 => ?_)
  · obtain ⟨a9, e2, rfl, q2⟩ := h2
    subst S2
    obtain ⟨t, ht2, ex2, ea2, hp2, k5, n16, n17, n18, n19, n20, n21⟩ := hT.some e2
    refine z_astore_n [_, _, _] C (by decide) rfl dX4_playedLast_5 ?_
    refine z_aload_n C rfl dX4_playedLast_6 ?_
    refine zg3_lastDay C (fun w h => List.mem_cons_of_mem _ (uc_wsX30 w h)) k5 (List.mem_cons_of_mem _ wc70) dX4_playedLast_7 ?_
    refine z_int n20 ?_
    refine z_iconst (-1) (by decide) C dX4_playedLast_10 ?_
    refine z_icmp_ne 24 C dX4_playedLast_11 (by decide) (fun c11 => ?_) (fun c11 => ?_)
    · refine z_aload_n C rfl dX4_playedLast_24 ?_
      refine zg3_lastDay C (fun w h => List.mem_cons_of_mem _ (uc_wsX30 w h)) k5 (List.mem_cons_of_mem _ wc70) dX4_playedLast_25 ?_
      refine z_int n20 ?_
      refine z_ireturn C F (Nat.le_of_ble_eq_true rfl) (Nat.le_of_ble_eq_true rfl) dX4_playedLast_28 ?_
      exact ⟨t, ht2, ex2, hp2, fun q => c11 ((last_ne (hpl t).2).2 q), congrArg (fun z => some (zi z)) (if_neg (fun q => c11 ((last_ne (hpl t).2).2 q))), rfl⟩
    · refine z_throwS (text := "the track was never played") ["java/lang/RuntimeException", "java/lang/Exception"] C F N (by decide +kernel) (by decide +kernel) (List.mem_cons_of_mem _ wc141) (List.mem_cons_of_mem _ wc142) (by decide +kernel) (fun w h => List.mem_cons_of_mem _ (ac_1 w h)) bc_1 (by decide) (by decide +kernel) dX4_playedLast_14 dX4_playedLast_17 dX4_playedLast_18 dX4_playedLast_20 dX4_playedLast_23 (by rw [hR]; exact Nat.le_of_ble_eq_true rfl) (by rw [hR]; exact Nat.le_of_ble_eq_true rfl) (by rw [hR]; exact Nat.le_of_ble_eq_true rfl) (by rw [hR]; exact Nat.le_of_ble_eq_true rfl) (Nat.le_of_ble_eq_true rfl) (Nat.le_of_ble_eq_true rfl) ?_
      first | exact ⟨rfl, Or.inr ⟨t, ht2, ex2, hp2, (last_ne (hpl t).2).1 c11, rfl⟩⟩ | exact ⟨rfl, Or.inr ⟨t, ht2, ex2, hp2, (last_ne (hpl t).2).1 (Decidable.not_not.1 c11), rfl⟩⟩
  · obtain ⟨e2, rfl, q2⟩ := h2
    subst S2
    exact z_out C F N (Nat.le_of_ble_eq_true rfl) (Nat.le_of_ble_eq_true rfl) ⟨rfl, Or.inl ⟨hT.none e2, rfl⟩⟩
set_option maxRecDepth 100000 in
set_option maxHeartbeats 4000000 in
theorem C_nameLength {l : Launch} (hl0 : l.stackTraces = false) {D : ZD} {J : Nat → Int64} {lk : ZL} {as : Nat → Nat} {S : ZM} {L T : Nat → Nat} (hR1 : cR D J lk as S L T) (x : Int32) : zMet l yX4_nameLength (Cond.code yX4_nameLength cX4_nameLength 2 (some .int) :: LWc) ({ frames := 7, cells := 1, slots := 6, locals := 108 } : Room) 1 6 [zr (some (L 0)), zi x] S (zPo (fun v S' => ∃ g : Nat, g < 16 ∧ g < dG D ∧ x = nI g ∧ D 51 g = 0 ∧ v = some (zi (D 49 g)) ∧ S' = S) (fun E S' => S' = S ∧ ¬ hasTg D x ∧ E = "java/util/NoSuchElementException")) := by
  refine zMet.of' [some (zr (some (L 0))), some (zi x)] hl0 (by decide) rfl (Nat.le_of_ble_eq_true rfl) rfl ?_
  intro X C N hR hN0 hX F
  subst hX
  obtain ⟨hX0, hV, hK, hU, hQ, hF⟩ := id hR1
  obtain ⟨hS, hT, hG, hRR, hLL, hA, hday, hpl, hO, hAc⟩ := id hX0
  refine z_aload_n C rfl dX4_nameLength_0 ?_
  refine z_iload_n C rfl dX4_nameLength_1 ?_
  refine z_callC 1 [zi x] C rfl (C_needTag hl0 hS hG.k x) rfl (zgoodV LWc_good wc168 wc169 wc170 wc58 wc171) rfl rfl rfl (by decide +kernel) rfl (by rw [hR]; exact ⟨Nat.le_of_ble_eq_true rfl, Nat.le_of_ble_eq_true rfl⟩) hS.c (by rw [hR]; exact ⟨Nat.le_of_ble_eq_true rfl, Nat.le_of_ble_eq_true rfl⟩) (Nat.le_of_ble_eq_true rfl) dX4_nameLength_2 (fun v2 S2 h2 => ?_) (fun E2 S2 h2 => ?_)
  · obtain ⟨b9, e2, z2, rfl, q2⟩ := h2
    subst S2
    obtain ⟨g, hg2, hgG2, ex2, h51_2, hl2, ea2, k4_2, n10_2⟩ := tG_some hR1 e2 z2
    refine zg2_letters C (fun w h => List.mem_cons_of_mem _ (uc_wsX20 w h)) k4_2 (List.mem_cons_of_mem _ wc166) dX4_nameLength_5 ?_
    obtain ⟨⟨-, hle, -⟩, h49⟩ := rG.tg hR1 hgG2 ea2
    refine z_int (hle.trans h49.symm) ?_
    refine z_ireturn C F (Nat.le_of_ble_eq_true rfl) (Nat.le_of_ble_eq_true rfl) dX4_nameLength_8 ?_
    exact ⟨g, hg2, hgG2, ex2, h51_2, rfl, rfl⟩
  · obtain ⟨e2, rfl, q2⟩ := h2
    subst S2
    exact z_out C F N (Nat.le_of_ble_eq_true rfl) (Nat.le_of_ble_eq_true rfl) ⟨rfl, tG_none hR1 e2, rfl⟩
set_option maxRecDepth 100000 in
set_option maxHeartbeats 4000000 in
theorem C_sizeOf {l : Launch} (hl0 : l.stackTraces = false) {D : ZD} {J : Nat → Int64} {lk : ZL} {as : Nat → Nat} {S : ZM} {L T : Nat → Nat} (hR1 : cR D J lk as S L T) (x : Int32) : zMet l yX4_sizeOf (Cond.code yX4_sizeOf cX4_sizeOf 2 (some .int) :: LWc) ({ frames := 7, cells := 1, slots := 6, locals := 108 } : Room) 1 6 [zr (some (L 0)), zi x] S (zPo (fun v S' => ∃ r : Nat, r < 40 ∧ r < dR D ∧ x = nI r ∧ v = some (zi (D 56 r)) ∧ S' = S) (fun E S' => S' = S ∧ ¬ hasRl D x ∧ E = "java/util/NoSuchElementException")) := by
  refine zMet.of' [some (zr (some (L 0))), some (zi x)] hl0 (by decide) rfl (Nat.le_of_ble_eq_true rfl) rfl ?_
  intro X C N hR hN0 hX F
  subst hX
  obtain ⟨hX0, hV, hK, hU, hQ, hF⟩ := id hR1
  obtain ⟨hS, hT, hG, hRR, hLL, hA, hday, hpl, hO, hAc⟩ := id hX0
  refine z_aload_n C rfl dX4_sizeOf_0 ?_
  refine z_iload_n C rfl dX4_sizeOf_1 ?_
  refine z_callC 1 [zi x] C rfl (C_needRule hl0 hS x) rfl (zgoodV LWc_good wc207 wc208 wc209 wc58 wc210) rfl rfl rfl (by decide +kernel) rfl (by rw [hR]; exact ⟨Nat.le_of_ble_eq_true rfl, Nat.le_of_ble_eq_true rfl⟩) hS.c (by rw [hR]; exact ⟨Nat.le_of_ble_eq_true rfl, Nat.le_of_ble_eq_true rfl⟩) (Nat.le_of_ble_eq_true rfl) dX4_sizeOf_2 (fun v2 S2 h2 => ?_) (fun E2 S2 h2 => ?_)
  · obtain ⟨r9, e2, rfl, q2⟩ := h2
    subst S2
    obtain ⟨r, hr2, hl2, ex2, ea2, k3_2, n3_2, n8_2, n9_2⟩ := tR_some hRR e2
    refine zg1_size C (fun w h => List.mem_cons_of_mem _ (uc_wsX10 w h)) k3_2 (List.mem_cons_of_mem _ wc194) dX4_sizeOf_5 ?_
    refine z_int n8_2 ?_
    refine z_ireturn C F (Nat.le_of_ble_eq_true rfl) (Nat.le_of_ble_eq_true rfl) dX4_sizeOf_8 ?_
    exact ⟨r, hr2, hl2, ex2, rfl, rfl⟩
  · obtain ⟨e2, rfl, q2⟩ := h2
    subst S2
    exact z_out C F N (Nat.le_of_ble_eq_true rfl) (Nat.le_of_ble_eq_true rfl) ⟨rfl, tR_none hRR e2, rfl⟩
set_option maxRecDepth 100000 in
set_option maxHeartbeats 4000000 in
theorem C_size {l : Launch} (hl0 : l.stackTraces = false) {D : ZD} {J : Nat → Int64} {lk : ZL} {as : Nat → Nat} {S : ZM} {L T : Nat → Nat} (hR1 : cR D J lk as S L T) (x : Int32) : zMet l yX4_size (Cond.code yX4_size cX4_size 2 (some .int) :: LWc) ({ frames := 7, cells := 1, slots := 6, locals := 108 } : Room) 1 6 [zr (some (L 0)), zi x] S (zPo (fun v S' => ∃ i : Nat, i < 8 ∧ i < dL D ∧ x = nI i ∧ v = some (zi (bcJ (D 61 i))) ∧ S' = S) (fun E S' => S' = S ∧ ¬ hasLs D x ∧ E = "java/util/NoSuchElementException")) := by
  refine zMet.of' [some (zr (some (L 0))), some (zi x)] hl0 (by decide) rfl (Nat.le_of_ble_eq_true rfl) rfl ?_
  intro X C N hR hN0 hX F
  subst hX
  obtain ⟨hX0, hV, hK, hU, hQ, hF⟩ := id hR1
  obtain ⟨hS, hT, hG, hRR, hLL, hA, hday, hpl, hO, hAc⟩ := id hX0
  refine z_aload_n C rfl dX4_size_0 ?_
  refine z_iload_n C rfl dX4_size_1 ?_
  refine z_callC 1 [zi x] C rfl (C_needList hl0 hS x) rfl (zgoodV LWc_good wc203 wc204 wc205 wc58 wc206) rfl rfl rfl (by decide +kernel) rfl (by rw [hR]; exact ⟨Nat.le_of_ble_eq_true rfl, Nat.le_of_ble_eq_true rfl⟩) hS.c (by rw [hR]; exact ⟨Nat.le_of_ble_eq_true rfl, Nat.le_of_ble_eq_true rfl⟩) (Nat.le_of_ble_eq_true rfl) dX4_size_2 (fun v2 S2 h2 => ?_) (fun E2 S2 h2 => ?_)
  · obtain ⟨l9, e2, rfl, q2⟩ := h2
    subst S2
    obtain ⟨i, rr, hi2, hl2, ex2, ea2, k2_2, m0_2, er2, n1_2, n2_2⟩ := tL_some hLL e2
    refine z_pop rfl C dX4_size_5 ?_
    refine z_aload_n C rfl dX4_size_6 ?_
    refine zg4_kept C (fun w h => List.mem_cons_of_mem _ (uc_wsX40 w h)) hS.c (List.mem_cons_of_mem _ wc44) dX4_size_7 ?_
    refine z_ref hS.kp.1 ?_
    refine z_iload_n C rfl dX4_size_10 ?_
    refine z_iaload C hS.kp.2.1 (by rw [hS.kp.2.2, ex2]; exact vp_in_nI hi2 (by decide)) dX4_size_11 ?_
    refine z_int (x' := D 61 i) (by rw [ex2, nI_clamp (by omega)]; exact hK.1 i hi2) ?_
    refine z_callS 1 [zi (D 61 i)] C (C_bitCount hl0 (D 61 i)) rfl (zgoodS LWc_good wc112 wc113 wc114 wc115) rfl rfl rfl (by decide +kernel) rfl (by rw [hR]; exact ⟨Nat.le_of_ble_eq_true rfl, Nat.le_of_ble_eq_true rfl⟩) (by rw [hR]; exact ⟨Nat.le_of_ble_eq_true rfl, Nat.le_of_ble_eq_true rfl⟩) (Nat.le_of_ble_eq_true rfl) dX4_size_12 (fun v12 S12 h12 => ?_) (fun E12 S12 h12 => ?_)
    · obtain ⟨rfl, q12⟩ := h12
      subst S12
      refine z_ireturn C F (Nat.le_of_ble_eq_true rfl) (Nat.le_of_ble_eq_true rfl) dX4_size_15 ?_
      exact ⟨i, hi2, hl2, ex2, rfl, rfl⟩
    · exact h12.elim
  · obtain ⟨e2, rfl, q2⟩ := h2
    subst S2
    exact z_out C F N (Nat.le_of_ble_eq_true rfl) (Nat.le_of_ble_eq_true rfl) ⟨rfl, tL_none hLL e2, rfl⟩
theorem tT_len {D : ZD} {S : ZM} {L : Nat → Nat} (h : rT D S L) (s : Int32) : smF (pS S L (fun i _ => hasB s (nI i))) (fun i => mI S 17 (tad S L i)) 24 = smF (fun i => prD D i && hasB s (nI i)) (fun i => D 42 i) 24 := by
  refine smF_cong (fun i hi => h.pS (p := fun i => hasB s (nI i)) hi (fun _ _ => rfl)) (fun i hi hp => ?_)
  have hp2 : prD D i = true := by
    have := h.pS (q := fun i _ => hasB s (nI i)) (p := fun i => hasB s (nI i)) hi (fun _ _ => rfl)
    rw [this, Bool.and_eq_true] at hp; exact hp.1
  obtain ⟨a, e, h1, h2, h3, -⟩ := (h i hi).2 hp2
  simp only [tad, e, Option.getD_some, h3]
set_option maxRecDepth 100000 in
set_option maxHeartbeats 4000000 in
theorem C_secondsOf {l : Launch} (hl0 : l.stackTraces = false) {D : ZD} {J : Nat → Int64} {lk : ZL} {as : Nat → Nat} {S : ZM} {L T : Nat → Nat} (hR1 : cR D J lk as S L T) (x : Int32) : zMet l yX4_secondsOf (Cond.code yX4_secondsOf cX4_secondsOf 2 (some .int) :: LWc) ({ frames := 7, cells := 1, slots := 6, locals := 108 } : Room) 1 6 [zr (some (L 0)), zi x] S (zPo (fun v S' => ∃ i : Nat, i < 8 ∧ i < dL D ∧ x = nI i ∧ v = some (zi (smF (fun t => prD D t && hasB (D 61 i) (nI t)) (fun t => D 42 t) 24)) ∧ S' = S) (fun E S' => S' = S ∧ ¬ hasLs D x ∧ E = "java/util/NoSuchElementException")) := by
  refine zMet.of' [some (zr (some (L 0))), some (zi x)] hl0 (by decide) rfl (Nat.le_of_ble_eq_true rfl) rfl ?_
  intro X C N hR hN0 hX F
  subst hX
  obtain ⟨hX0, hV, hK, hU, hQ, hF⟩ := id hR1
  obtain ⟨hS, hT, hG, hRR, hLL, hA, hday, hpl, hO, hAc⟩ := id hX0
  refine z_aload_n C rfl dX4_secondsOf_0 ?_
  refine z_iload_n C rfl dX4_secondsOf_1 ?_
  refine z_callC 1 [zi x] C rfl (C_needList hl0 hS x) rfl (zgoodV LWc_good wc203 wc204 wc205 wc58 wc206) rfl rfl rfl (by decide +kernel) rfl (by rw [hR]; exact ⟨Nat.le_of_ble_eq_true rfl, Nat.le_of_ble_eq_true rfl⟩) hS.c (by rw [hR]; exact ⟨Nat.le_of_ble_eq_true rfl, Nat.le_of_ble_eq_true rfl⟩) (Nat.le_of_ble_eq_true rfl) dX4_secondsOf_2 (fun v2 S2 h2 => ?_) (fun E2 S2 h2 => ?_)
  · obtain ⟨l9, e2, rfl, q2⟩ := h2
    subst S2
    obtain ⟨i, rr, hi2, hl2, ex2, ea2, k2_2, m0_2, er2, n1_2, n2_2⟩ := tL_some hLL e2
    refine z_pop rfl C dX4_secondsOf_5 ?_
    refine z_aload_n C rfl dX4_secondsOf_6 ?_
    refine z_aload_n C rfl dX4_secondsOf_7 ?_
    refine zg4_kept C (fun w h => List.mem_cons_of_mem _ (uc_wsX40 w h)) hS.c (List.mem_cons_of_mem _ wc44) dX4_secondsOf_8 ?_
    refine z_ref hS.kp.1 ?_
    refine z_iload_n C rfl dX4_secondsOf_11 ?_
    refine z_iaload C hS.kp.2.1 (by rw [hS.kp.2.2, ex2]; exact vp_in_nI hi2 (by decide)) dX4_secondsOf_12 ?_
    refine z_int (x' := D 61 i) (by rw [ex2, nI_clamp (by omega)]; exact hK.1 i hi2) ?_
    refine z_callC 1 [zi (D 61 i)] C rfl (C_lengthsOf hl0 hS hT.k (D 61 i)) rfl (zgoodV LWc_good wc120 wc121 wc122 wc58 wc123) rfl rfl rfl (by decide +kernel) rfl (by rw [hR]; exact ⟨Nat.le_of_ble_eq_true rfl, Nat.le_of_ble_eq_true rfl⟩) hS.c (by rw [hR]; exact ⟨Nat.le_of_ble_eq_true rfl, Nat.le_of_ble_eq_true rfl⟩) (Nat.le_of_ble_eq_true rfl) dX4_secondsOf_13 (fun v13 S13 h13 => ?_) (fun E13 S13 h13 => ?_)
    · obtain ⟨rfl, q13⟩ := h13
      subst S13
      refine z_ireturn C F (Nat.le_of_ble_eq_true rfl) (Nat.le_of_ble_eq_true rfl) dX4_secondsOf_16 ?_
      exact ⟨i, hi2, hl2, ex2, congrArg (fun z => some (zi z)) (tT_len hT (D 61 i)), rfl⟩
    · exact h13.elim
  · obtain ⟨e2, rfl, q2⟩ := h2
    subst S2
    exact z_out C F N (Nat.le_of_ble_eq_true rfl) (Nat.le_of_ble_eq_true rfl) ⟨rfl, tL_none hLL e2, rfl⟩
set_option maxRecDepth 100000 in
set_option maxHeartbeats 4000000 in
theorem C_common {l : Launch} (hl0 : l.stackTraces = false) {D : ZD} {J : Nat → Int64} {lk : ZL} {as : Nat → Nat} {S : ZM} {L T : Nat → Nat} (hR1 : cR D J lk as S L T) (x y : Int32) : zMet l yX4_common (Cond.code yX4_common cX4_common 3 (some .int) :: LWc) ({ frames := 7, cells := 2, slots := 12, locals := 108 } : Room) 2 12 [zr (some (L 0)), zi x, zi y] S (zPo (fun v S' => ∃ i j : Nat, i < 8 ∧ i < dL D ∧ x = nI i ∧ j < 8 ∧ j < dL D ∧ y = nI j ∧ v = some (zi (bcJ (D 61 i &&& D 61 j))) ∧ S' = S) (fun E S' => S' = S ∧ ¬ (hasLs D x ∧ hasLs D y) ∧ E = "java/util/NoSuchElementException")) := by
  refine zMet.of' [some (zr (some (L 0))), some (zi x), some (zi y)] hl0 (by decide) rfl (Nat.le_of_ble_eq_true rfl) rfl ?_
  intro X C N hR hN0 hX F
  subst hX
  obtain ⟨hX0, hV, hK, hU, hQ, hF⟩ := id hR1
  obtain ⟨hS, hT, hG, hRR, hLL, hA, hday, hpl, hO, hAc⟩ := id hX0
  refine z_aload_n C rfl dX4_common_0 ?_
  refine z_iload_n C rfl dX4_common_1 ?_
  refine z_callC 1 [zi x] C rfl (C_needList hl0 hS x) rfl (zgoodV LWc_good wc203 wc204 wc205 wc58 wc206) rfl rfl rfl (by decide +kernel) rfl (by rw [hR]; exact ⟨Nat.le_of_ble_eq_true rfl, Nat.le_of_ble_eq_true rfl⟩) hS.c (by rw [hR]; exact ⟨Nat.le_of_ble_eq_true rfl, Nat.le_of_ble_eq_true rfl⟩) (Nat.le_of_ble_eq_true rfl) dX4_common_2 (fun v2 S2 h2 => ?_) (fun E2 S2 h2 => ?_)
  · obtain ⟨l9, e2, rfl, q2⟩ := h2
    subst S2
    obtain ⟨i, rr, hi2, hl2, ex2, ea2, k2_2, m0_2, er2, n1_2, n2_2⟩ := tL_some hLL e2
    refine z_pop rfl C dX4_common_5 ?_
    refine z_aload_n C rfl dX4_common_6 ?_
    refine z_iload_n C rfl dX4_common_7 ?_
    refine z_callC 1 [zi y] C rfl (C_needList hl0 hS y) rfl (zgoodV LWc_good wc203 wc204 wc205 wc58 wc206) rfl rfl rfl (by decide +kernel) rfl (by rw [hR]; exact ⟨Nat.le_of_ble_eq_true rfl, Nat.le_of_ble_eq_true rfl⟩) hS.c (by rw [hR]; exact ⟨Nat.le_of_ble_eq_true rfl, Nat.le_of_ble_eq_true rfl⟩) (Nat.le_of_ble_eq_true rfl) dX4_common_8 (fun v8 S8 h8 => ?_) (fun E8 S8 h8 => ?_)
    · obtain ⟨l8, e8, rfl, q8⟩ := h8
      subst S8
      obtain ⟨j, r8, hi8, hl8, ex8, ea8, k2_8, m0_8, er8, n1_8, n2_8⟩ := tL_some hLL e8
      refine z_pop rfl C dX4_common_11 ?_
      refine z_aload_n C rfl dX4_common_12 ?_
      refine zg4_kept C (fun w h => List.mem_cons_of_mem _ (uc_wsX40 w h)) hS.c (List.mem_cons_of_mem _ wc44) dX4_common_13 ?_
      refine z_ref hS.kp.1 ?_
      refine z_iload_n C rfl dX4_common_16 ?_
      refine z_iaload C hS.kp.2.1 (by rw [hS.kp.2.2, ex2]; exact vp_in_nI hi2 (by decide)) dX4_common_17 ?_
      refine z_int (x' := D 61 i) (by rw [ex2, nI_clamp (by omega)]; exact hK.1 i hi2) ?_
      refine z_aload_n C rfl dX4_common_18 ?_
      refine zg4_kept C (fun w h => List.mem_cons_of_mem _ (uc_wsX40 w h)) hS.c (List.mem_cons_of_mem _ wc44) dX4_common_19 ?_
      refine z_ref hS.kp.1 ?_
      refine z_iload_n C rfl dX4_common_22 ?_
      refine z_iaload C hS.kp.2.1 (by rw [hS.kp.2.2, ex8]; exact vp_in_nI hi8 (by decide)) dX4_common_23 ?_
      refine z_int (x' := D 61 j) (by rw [ex8, nI_clamp (by omega)]; exact hK.1 j hi8) ?_
      refine z_iand C dX4_common_24 ?_
      refine z_callS 1 [zi (D 61 i &&& D 61 j)] C (C_bitCount hl0 (D 61 i &&& D 61 j)) rfl (zgoodS LWc_good wc112 wc113 wc114 wc115) rfl rfl rfl (by decide +kernel) rfl (by rw [hR]; exact ⟨Nat.le_of_ble_eq_true rfl, Nat.le_of_ble_eq_true rfl⟩) (by rw [hR]; exact ⟨Nat.le_of_ble_eq_true rfl, Nat.le_of_ble_eq_true rfl⟩) (Nat.le_of_ble_eq_true rfl) dX4_common_25 (fun v25 S25 h25 => ?_) (fun E25 S25 h25 => ?_)
      · obtain ⟨rfl, q25⟩ := h25
        subst S25
        refine z_ireturn C F (Nat.le_of_ble_eq_true rfl) (Nat.le_of_ble_eq_true rfl) dX4_common_28 ?_
        exact ⟨i, j, hi2, hl2, ex2, hi8, hl8, ex8, rfl, rfl⟩
      · exact h25.elim
    · obtain ⟨e8, rfl, q8⟩ := h8
      subst S8
      exact z_out C F N (Nat.le_of_ble_eq_true rfl) (Nat.le_of_ble_eq_true rfl) ⟨rfl, fun q => tL_none hLL e8 q.2, rfl⟩
  · obtain ⟨e2, rfl, q2⟩ := h2
    subst S2
    exact z_out C F N (Nat.le_of_ble_eq_true rfl) (Nat.le_of_ble_eq_true rfl) ⟨rfl, fun q => tL_none hLL e2 q.1, rfl⟩
set_option maxRecDepth 100000 in
set_option maxHeartbeats 4000000 in
theorem C_contains {l : Launch} (hl0 : l.stackTraces = false) {D : ZD} {J : Nat → Int64} {lk : ZL} {as : Nat → Nat} {S : ZM} {L T : Nat → Nat} (hR1 : cR D J lk as S L T) (x y : Int32) : zMet l yX4_contains (Cond.code yX4_contains cX4_contains 3 (some .boolean) :: LWc) ({ frames := 7, cells := 2, slots := 12, locals := 108 } : Room) 2 12 [zr (some (L 0)), zi x, zi y] S (zPo (fun v S' => ∃ i t : Nat, i < 8 ∧ i < dL D ∧ x = nI i ∧ t < 24 ∧ y = nI t ∧ prD D t = true ∧ v = some (zi (bI (hasB (D 61 i) y))) ∧ S' = S) (fun E S' => S' = S ∧ ¬ (hasLs D x ∧ hasTr D y) ∧ E = "java/util/NoSuchElementException")) := by
  refine zMet.of' [some (zr (some (L 0))), some (zi x), some (zi y)] hl0 (by decide) rfl (Nat.le_of_ble_eq_true rfl) rfl ?_
  intro X C N hR hN0 hX F
  subst hX
  obtain ⟨hX0, hV, hK, hU, hQ, hF⟩ := id hR1
  obtain ⟨hS, hT, hG, hRR, hLL, hA, hday, hpl, hO, hAc⟩ := id hX0
  refine z_aload_n C rfl dX4_contains_0 ?_
  refine z_iload_n C rfl dX4_contains_1 ?_
  refine z_callC 1 [zi x] C rfl (C_needList hl0 hS x) rfl (zgoodV LWc_good wc203 wc204 wc205 wc58 wc206) rfl rfl rfl (by decide +kernel) rfl (by rw [hR]; exact ⟨Nat.le_of_ble_eq_true rfl, Nat.le_of_ble_eq_true rfl⟩) hS.c (by rw [hR]; exact ⟨Nat.le_of_ble_eq_true rfl, Nat.le_of_ble_eq_true rfl⟩) (Nat.le_of_ble_eq_true rfl) dX4_contains_2 (fun v2 S2 h2 => ?_) (fun E2 S2 h2 => ?_)
  · obtain ⟨l9, e2, rfl, q2⟩ := h2
    subst S2
    obtain ⟨i, rr, hi2, hl2, ex2, ea2, k2_2, m0_2, er2, n1_2, n2_2⟩ := tL_some hLL e2
    refine z_pop rfl C dX4_contains_5 ?_
    refine z_aload_n C rfl dX4_contains_6 ?_
    refine z_iload_n C rfl dX4_contains_7 ?_
    refine z_callC 1 [zi y] C rfl (C_needTrack hl0 hS y) rfl (zgoodV LWc_good wc157 wc158 wc159 wc58 wc160) rfl rfl rfl (by decide +kernel) rfl (by rw [hR]; exact ⟨Nat.le_of_ble_eq_true rfl, Nat.le_of_ble_eq_true rfl⟩) hS.c (by rw [hR]; exact ⟨Nat.le_of_ble_eq_true rfl, Nat.le_of_ble_eq_true rfl⟩) (Nat.le_of_ble_eq_true rfl) dX4_contains_8 (fun v8 S8 h8 => ?_) (fun E8 S8 h8 => ?_)
    · obtain ⟨a9, e8, rfl, q8⟩ := h8
      subst S8
      obtain ⟨t, ht8, ex8, ea8, hp8, k5, n16, n17, n18, n19, n20, n21⟩ := hT.some e8
      refine z_pop rfl C dX4_contains_11 ?_
      refine z_aload_n C rfl dX4_contains_12 ?_
      refine zg4_kept C (fun w h => List.mem_cons_of_mem _ (uc_wsX40 w h)) hS.c (List.mem_cons_of_mem _ wc44) dX4_contains_13 ?_
      refine z_ref hS.kp.1 ?_
      refine z_iload_n C rfl dX4_contains_16 ?_
      refine z_iaload C hS.kp.2.1 (by rw [hS.kp.2.2, ex2]; exact vp_in_nI hi2 (by decide)) dX4_contains_17 ?_
      refine z_int (x' := D 61 i) (by rw [ex2, nI_clamp (by omega)]; exact hK.1 i hi2) ?_
      refine z_iload_n C rfl dX4_contains_18 ?_
      refine z_callS 2 [zi (D 61 i), zi y] C (C_hasBit hl0 (D 61 i) y) rfl (zgoodS LWc_good wc102 wc103 wc58 wc104) rfl rfl rfl (by decide +kernel) rfl (by rw [hR]; exact ⟨Nat.le_of_ble_eq_true rfl, Nat.le_of_ble_eq_true rfl⟩) (by rw [hR]; exact ⟨Nat.le_of_ble_eq_true rfl, Nat.le_of_ble_eq_true rfl⟩) (Nat.le_of_ble_eq_true rfl) dX4_contains_19 (fun v19 S19 h19 => ?_) (fun E19 S19 h19 => ?_)
      · obtain ⟨rfl, q19⟩ := h19
        subst S19
        refine z_zreturn C F (Nat.le_of_ble_eq_true rfl) (Nat.le_of_ble_eq_true rfl) (by generalize hasB _ _ = b; cases b <;> decide) dX4_contains_22 ?_
        exact ⟨i, t, hi2, hl2, ex2, ht8, ex8, hp8, rfl, rfl⟩
      · exact h19.elim
    · obtain ⟨e8, rfl, q8⟩ := h8
      subst S8
      exact z_out C F N (Nat.le_of_ble_eq_true rfl) (Nat.le_of_ble_eq_true rfl) ⟨rfl, fun q => hT.none e8 q.2, rfl⟩
  · obtain ⟨e2, rfl, q2⟩ := h2
    subst S2
    exact z_out C F N (Nat.le_of_ble_eq_true rfl) (Nat.le_of_ble_eq_true rfl) ⟨rfl, fun q => tL_none hLL e2 q.1, rfl⟩
set_option maxRecDepth 100000 in
set_option maxHeartbeats 4000000 in
theorem C_containsByRounds {l : Launch} (hl0 : l.stackTraces = false) {D : ZD} {J : Nat → Int64} {lk : ZL} {as : Nat → Nat} {S : ZM} {L T : Nat → Nat} (hR1 : cR D J lk as S L T) (x y : Int32) : zMet l yX4_containsByRounds (Cond.code yX4_containsByRounds cX4_containsByRounds 3 (some .boolean) :: LWc) ({ frames := 44, cells := 2, slots := 12, locals := 981 } : Room) 2 12 [zr (some (L 0)), zi x, zi y] S (zPo (fun v S' => ∃ i t : Nat, i < 8 ∧ i < dL D ∧ x = nI i ∧ t < 24 ∧ y = nI t ∧ prD D t = true ∧ v = some (zi (bI (hasB (D 61 i) y))) ∧ cR D J lk as S' L T) (fun E S' => S' = S ∧ ¬ (hasLs D x ∧ hasTr D y) ∧ E = "java/util/NoSuchElementException")) := by
  refine zMet.of' [some (zr (some (L 0))), some (zi x), some (zi y)] hl0 (by decide) rfl (Nat.le_of_ble_eq_true rfl) rfl ?_
  intro X C N hR hN0 hX F
  subst hX
  obtain ⟨hX0, hV, hK, hU, hQ, hF⟩ := id hR1
  obtain ⟨hS, hT, hG, hRR, hLL, hA, hday, hpl, hO, hAc⟩ := id hX0
  refine z_aload_n C rfl dX4_containsByRounds_0 ?_
  refine z_iload_n C rfl dX4_containsByRounds_1 ?_
  refine z_callC 1 [zi x] C rfl (C_needList hl0 hS x) rfl (zgoodV LWc_good wc203 wc204 wc205 wc58 wc206) rfl rfl rfl (by decide +kernel) rfl (by rw [hR]; exact ⟨Nat.le_of_ble_eq_true rfl, Nat.le_of_ble_eq_true rfl⟩) hS.c (by rw [hR]; exact ⟨Nat.le_of_ble_eq_true rfl, Nat.le_of_ble_eq_true rfl⟩) (Nat.le_of_ble_eq_true rfl) dX4_containsByRounds_2 (fun v2 S2 h2 => ?_) (fun E2 S2 h2 => ?_)
  · obtain ⟨l9, e2, rfl, q2⟩ := h2
    subst S2
    obtain ⟨i, rr, hi2, hl2, ex2, ea2, k2_2, m0_2, er2, n1_2, n2_2⟩ := tL_some hLL e2
    refine z_pop rfl C dX4_containsByRounds_5 ?_
    refine z_aload_n C rfl dX4_containsByRounds_6 ?_
    refine z_iload_n C rfl dX4_containsByRounds_7 ?_
    refine z_callC 1 [zi y] C rfl (C_needTrack hl0 hS y) rfl (zgoodV LWc_good wc157 wc158 wc159 wc58 wc160) rfl rfl rfl (by decide +kernel) rfl (by rw [hR]; exact ⟨Nat.le_of_ble_eq_true rfl, Nat.le_of_ble_eq_true rfl⟩) hS.c (by rw [hR]; exact ⟨Nat.le_of_ble_eq_true rfl, Nat.le_of_ble_eq_true rfl⟩) (Nat.le_of_ble_eq_true rfl) dX4_containsByRounds_8 (fun v8 S8 h8 => ?_) (fun E8 S8 h8 => ?_)
    · obtain ⟨a9, e8, rfl, q8⟩ := h8
      subst S8
      obtain ⟨t, ht8, ex8, ea8, hp8, k5, n16, n17, n18, n19, n20, n21⟩ := hT.some e8
      refine z_pop rfl C dX4_containsByRounds_11 ?_
      refine z_aload_n C rfl dX4_containsByRounds_12 ?_
      refine z_callC 0 [] C rfl (C_fillByRounds hl0 hX0) rfl (zgoodV LWc_good wc232 wc233 wc234 wc58 wc235) rfl rfl rfl (by decide +kernel) rfl (by rw [hR]; exact ⟨Nat.le_of_ble_eq_true rfl, Nat.le_of_ble_eq_true rfl⟩) hS.c (by rw [hR]; exact ⟨Nat.le_of_ble_eq_true rfl, Nat.le_of_ble_eq_true rfl⟩) (Nat.le_of_ble_eq_true rfl) dX4_containsByRounds_13 (fun v13 S13 h13 => ?_) (fun E13 S13 h13 => ?_)
      · obtain ⟨rfl, K, q13, hKf⟩ := h13
        subst S13
        refine z_aload_n C rfl dX4_containsByRounds_16 ?_
        refine zg4_byRounds C (fun w h => List.mem_cons_of_mem _ (uc_wsX40 w h)) hS.c (List.mem_cons_of_mem _ wc46) dX4_containsByRounds_17 ?_
        refine z_ref hS.br.1 ?_
        refine z_iload_n C rfl dX4_containsByRounds_20 ?_
        refine z_iaload C hS.br.2.1 (by rw [show mN (eR S (L 7) K) (L 7) = 8 from hS.br.2.2, ex2]; exact vp_in_nI hi2 (by decide)) dX4_containsByRounds_21 ?_
        refine z_int (x' := D 61 i) (by rw [ex2, nI_clamp (by omega)]; exact (congrFun up1_self i).trans ((hKf i hl2).trans (hF.1 i hl2).symm)) ?_
        refine z_iload_n C rfl dX4_containsByRounds_22 ?_
        refine z_callS 2 [zi (D 61 i), zi y] C (C_hasBit hl0 (D 61 i) y) rfl (zgoodS LWc_good wc102 wc103 wc58 wc104) rfl rfl rfl (by decide +kernel) rfl (by rw [hR]; exact ⟨Nat.le_of_ble_eq_true rfl, Nat.le_of_ble_eq_true rfl⟩) (by rw [hR]; exact ⟨Nat.le_of_ble_eq_true rfl, Nat.le_of_ble_eq_true rfl⟩) (Nat.le_of_ble_eq_true rfl) dX4_containsByRounds_23 (fun v23 S23 h23 => ?_) (fun E23 S23 h23 => ?_)
        · obtain ⟨rfl, q23⟩ := h23
          subst S23
          refine z_zreturn C F (Nat.le_of_ble_eq_true rfl) (Nat.le_of_ble_eq_true rfl) (by generalize hasB _ _ = b; cases b <;> decide) dX4_containsByRounds_26 ?_
          exact ⟨i, t, hi2, hl2, ex2, ht8, ex8, hp8, rfl, hR1.e7 K⟩
        · exact h23.elim
      · exact h13.elim
    · obtain ⟨e8, rfl, q8⟩ := h8
      subst S8
      exact z_out C F N (Nat.le_of_ble_eq_true rfl) (Nat.le_of_ble_eq_true rfl) ⟨rfl, fun q => hT.none e8 q.2, rfl⟩
  · obtain ⟨e2, rfl, q2⟩ := h2
    subst S2
    exact z_out C F N (Nat.le_of_ble_eq_true rfl) (Nat.le_of_ble_eq_true rfl) ⟨rfl, fun q => tL_none hLL e2 q.1, rfl⟩
set_option maxRecDepth 100000 in
set_option maxHeartbeats 4000000 in
theorem C_matches {l : Launch} (hl0 : l.stackTraces = false) {D : ZD} {J : Nat → Int64} {lk : ZL} {as : Nat → Nat} {S : ZM} {L T : Nat → Nat} (hR1 : cR D J lk as S L T) (x : Int32) : zMet l yX4_matches (Cond.code yX4_matches cX4_matches 2 (some .int) :: LWc) ({ frames := 42, cells := 1, slots := 6, locals := 928 } : Room) 1 6 [zr (some (L 0)), zi x] S (zPo (fun v S' => ∃ i : Nat, i < 8 ∧ i < dL D ∧ x = nI i ∧ v = some (zi (bcJ (mtD D (D 61) (ix (D 58 i))))) ∧ S' = S) (fun E S' => S' = S ∧ ¬ hasLs D x ∧ E = "java/util/NoSuchElementException")) := by
  refine zMet.of' [some (zr (some (L 0))), some (zi x)] hl0 (by decide) rfl (Nat.le_of_ble_eq_true rfl) rfl ?_
  intro X C N hR0 hN0 hX F
  subst hX
  obtain ⟨hX0, hV, hK, hU, hQ, hF⟩ := id hR1
  obtain ⟨hS, hT, hG, hRR, hLL, hA, hday, hpl, hO, hAc⟩ := id hX0
  refine z_aload_n C rfl dX4_matches_0 ?_
  refine z_aload_n C rfl dX4_matches_1 ?_
  refine z_iload_n C rfl dX4_matches_2 ?_
  refine z_callC 1 [zi x] C rfl (C_needList hl0 hS x) rfl (zgoodV LWc_good wc203 wc204 wc205 wc58 wc206) rfl rfl rfl (by decide +kernel) rfl (by rw [hR0]; exact ⟨Nat.le_of_ble_eq_true rfl, Nat.le_of_ble_eq_true rfl⟩) hS.c (by rw [hR0]; exact ⟨Nat.le_of_ble_eq_true rfl, Nat.le_of_ble_eq_true rfl⟩) (Nat.le_of_ble_eq_true rfl) dX4_matches_3 (fun v3 S3 h3 => ?_) (fun E3 S3 h3 => ?_)
  · obtain ⟨l9, e3, rfl, q3⟩ := h3
    subst S3
    obtain ⟨i, rr, hi3, hl3, ex3, ea3, k2_3, m0_3, er3, n1_3, n2_3⟩ := tL_some hLL e3
    obtain ⟨hr1, hr40, -, -, -, -⟩ := hX0.rule hl3 er3
    refine zg0_rule C (fun w h => List.mem_cons_of_mem _ (uc_wsX00 w h)) k2_3 (List.mem_cons_of_mem _ wc108) dX4_matches_6 ?_
    refine z_ref m0_3 ?_
    refine z_aload_n C rfl dX4_matches_9 ?_
    refine zg4_kept C (fun w h => List.mem_cons_of_mem _ (uc_wsX40 w h)) hS.c (List.mem_cons_of_mem _ wc44) dX4_matches_10 ?_
    refine z_ref hS.kp.1 ?_
    refine z_callC 2 [zr (some rr), zr (some (L 5))] C rfl (C_tracksMeeting hl0 hS hT hG hRR hA hday hpl hS.kp.2.1 hS.kp.2.2 41 (ix (D 58 i)) (by omega) hr1 (fun i hi _ => by rw [hK.1 i hi]; exact hR1.sub hi) rr er3) rfl (zgoodV LWc_good wc79 wc80 wc81 wc58 wc111) rfl rfl rfl (by decide +kernel) rfl (by rw [hR0]; exact ⟨by show 2 + ix (D 58 i) + 1 ≤ 42; omega, by show 8 + (3 + 11) + (48 + 22 * ix (D 58 i)) ≤ 928; omega⟩) hS.c (by rw [hR0]; exact ⟨Nat.le_of_ble_eq_true rfl, Nat.le_of_ble_eq_true rfl⟩) (Nat.le_of_ble_eq_true rfl) dX4_matches_13 (fun v13 S13 h13 => ?_) (fun E13 S13 h13 => ?_)
    · obtain ⟨rfl, q13⟩ := h13
      subst S13
      refine z_int (hR1.mt hr1) ?_
      refine z_callS 1 [zi (mtD D (D 61) (ix (D 58 i)))] C (C_bitCount hl0 (mtD D (D 61) (ix (D 58 i)))) rfl (zgoodS LWc_good wc112 wc113 wc114 wc115) rfl rfl rfl (by decide +kernel) rfl (by rw [hR0]; exact ⟨Nat.le_of_ble_eq_true rfl, Nat.le_of_ble_eq_true rfl⟩) (by rw [hR0]; exact ⟨Nat.le_of_ble_eq_true rfl, Nat.le_of_ble_eq_true rfl⟩) (Nat.le_of_ble_eq_true rfl) dX4_matches_16 (fun v16 S16 h16 => ?_) (fun E16 S16 h16 => ?_)
      · obtain ⟨rfl, q16⟩ := h16
        subst S16
        refine z_ireturn C F (Nat.le_of_ble_eq_true rfl) (Nat.le_of_ble_eq_true rfl) dX4_matches_19 ?_
        exact ⟨i, hi3, hl3, ex3, rfl, rfl⟩
      · exact h16.elim
    · exact h13.elim
  · obtain ⟨e3, rfl, q3⟩ := h3
    subst S3
    exact z_out C F N (Nat.le_of_ble_eq_true rfl) (Nat.le_of_ble_eq_true rfl) ⟨rfl, tL_none hLL e3, rfl⟩
set_option maxRecDepth 100000 in
set_option maxHeartbeats 4000000 in
theorem C_holds {l : Launch} (hl0 : l.stackTraces = false) {D : ZD} {J : Nat → Int64} {lk : ZL} {as : Nat → Nat} {S : ZM} {L T : Nat → Nat} (hR1 : cR D J lk as S L T) (x y : Int32) : zMet l yX4_holds (Cond.code yX4_holds cX4_holds 4 (some .boolean) :: LWc) ({ frames := 42, cells := 2, slots := 12, locals := 928 } : Room) 2 12 [zr (some (L 0)), zi x, zi y] S (zPo (fun v S' => ∃ r t : Nat, r < 40 ∧ r < dR D ∧ x = nI r ∧ t < 24 ∧ y = nI t ∧ prD D t = true ∧ v = some (zi (bI (hasB (mtD D (D 61) r) y))) ∧ S' = S) (fun E S' => S' = S ∧ ¬ (hasRl D x ∧ hasTr D y) ∧ E = "java/util/NoSuchElementException")) := by
  refine zMet.of' [some (zr (some (L 0))), some (zi x), some (zi y), none] hl0 (by decide) rfl (Nat.le_of_ble_eq_true rfl) rfl ?_
  intro X C N hR0 hN0 hX F
  subst hX
  obtain ⟨hX0, hV, hK, hU, hQ, hF⟩ := id hR1
  obtain ⟨hS, hT, hG, hRR, hLL, hA, hday, hpl, hO, hAc⟩ := id hX0
  refine z_aload_n C rfl dX4_holds_0 ?_
  refine z_iload_n C rfl dX4_holds_1 ?_
  refine z_callC 1 [zi x] C rfl (C_needRule hl0 hS x) rfl (zgoodV LWc_good wc207 wc208 wc209 wc58 wc210) rfl rfl rfl (by decide +kernel) rfl (by rw [hR0]; exact ⟨Nat.le_of_ble_eq_true rfl, Nat.le_of_ble_eq_true rfl⟩) hS.c (by rw [hR0]; exact ⟨Nat.le_of_ble_eq_true rfl, Nat.le_of_ble_eq_true rfl⟩) (Nat.le_of_ble_eq_true rfl) dX4_holds_2 (fun v2 S2 h2 => ?_) (fun E2 S2 h2 => ?_)
  · obtain ⟨r9, e2, rfl, q2⟩ := h2
    subst S2
    obtain ⟨r, hr2, hl2, ex2, ea2, k3_2, n3_2, n8_2, n9_2⟩ := tR_some hRR e2
    refine z_astore_n [_, _, _, _] C (by decide) rfl dX4_holds_5 ?_
    refine z_aload_n C rfl dX4_holds_6 ?_
    refine z_iload_n C rfl dX4_holds_7 ?_
    refine z_callC 1 [zi y] C rfl (C_needTrack hl0 hS y) rfl (zgoodV LWc_good wc157 wc158 wc159 wc58 wc160) rfl rfl rfl (by decide +kernel) rfl (by rw [hR0]; exact ⟨Nat.le_of_ble_eq_true rfl, Nat.le_of_ble_eq_true rfl⟩) hS.c (by rw [hR0]; exact ⟨Nat.le_of_ble_eq_true rfl, Nat.le_of_ble_eq_true rfl⟩) (Nat.le_of_ble_eq_true rfl) dX4_holds_8 (fun v8 S8 h8 => ?_) (fun E8 S8 h8 => ?_)
    · obtain ⟨a9, e8, rfl, q8⟩ := h8
      subst S8
      obtain ⟨t, ht8, ex8, ea8, hp8, k5, n16, n17, n18, n19, n20, n21⟩ := hT.some e8
      refine z_pop rfl C dX4_holds_11 ?_
      refine z_aload_n C rfl dX4_holds_12 ?_
      refine z_aload_n C rfl dX4_holds_13 ?_
      refine z_aload_n C rfl dX4_holds_14 ?_
      refine zg4_kept C (fun w h => List.mem_cons_of_mem _ (uc_wsX40 w h)) hS.c (List.mem_cons_of_mem _ wc44) dX4_holds_15 ?_
      refine z_ref hS.kp.1 ?_
      refine z_callC 2 [zr (some r9), zr (some (L 5))] C rfl (C_tracksMeeting hl0 hS hT hG hRR hA hday hpl hS.kp.2.1 hS.kp.2.2 41 r (by omega) hl2 (fun i hi _ => by rw [hK.1 i hi]; exact hR1.sub hi) r9 ea2) rfl (zgoodV LWc_good wc79 wc80 wc81 wc58 wc111) rfl rfl rfl (by decide +kernel) rfl (by rw [hR0]; exact ⟨by show 2 + r + 1 ≤ 42; omega, by show 8 + (3 + 11) + (48 + 22 * r) ≤ 928; omega⟩) hS.c (by rw [hR0]; exact ⟨Nat.le_of_ble_eq_true rfl, Nat.le_of_ble_eq_true rfl⟩) (Nat.le_of_ble_eq_true rfl) dX4_holds_18 (fun v18 S18 h18 => ?_) (fun E18 S18 h18 => ?_)
      · obtain ⟨rfl, q18⟩ := h18
        subst S18
        refine z_int (hR1.mt hl2) ?_
        refine z_iload_n C rfl dX4_holds_21 ?_
        refine z_callS 2 [zi (mtD D (D 61) r), zi y] C (C_hasBit hl0 (mtD D (D 61) r) y) rfl (zgoodS LWc_good wc102 wc103 wc58 wc104) rfl rfl rfl (by decide +kernel) rfl (by rw [hR0]; exact ⟨Nat.le_of_ble_eq_true rfl, Nat.le_of_ble_eq_true rfl⟩) (by rw [hR0]; exact ⟨Nat.le_of_ble_eq_true rfl, Nat.le_of_ble_eq_true rfl⟩) (Nat.le_of_ble_eq_true rfl) dX4_holds_22 (fun v22 S22 h22 => ?_) (fun E22 S22 h22 => ?_)
        · obtain ⟨rfl, q22⟩ := h22
          subst S22
          refine z_zreturn C F (Nat.le_of_ble_eq_true rfl) (Nat.le_of_ble_eq_true rfl) (by generalize hasB _ _ = b; cases b <;> decide) dX4_holds_25 ?_
          exact ⟨r, t, hr2, hl2, ex2, ht8, ex8, hp8, rfl, rfl⟩
        · exact h22.elim
      · exact h18.elim
    · obtain ⟨e8, rfl, q8⟩ := h8
      subst S8
      exact z_out C F N (Nat.le_of_ble_eq_true rfl) (Nat.le_of_ble_eq_true rfl) ⟨rfl, fun q => hT.none e8 q.2, rfl⟩
  · obtain ⟨e2, rfl, q2⟩ := h2
    subst S2
    exact z_out C F N (Nat.le_of_ble_eq_true rfl) (Nat.le_of_ble_eq_true rfl) ⟨rfl, fun q => tR_none hRR e2 q.1, rfl⟩
set_option maxRecDepth 100000 in
set_option maxHeartbeats 4000000 in
theorem C_dependsOn {l : Launch} (hl0 : l.stackTraces = false) {D : ZD} {J : Nat → Int64} {lk : ZL} {as : Nat → Nat} {S : ZM} {L T : Nat → Nat} (hR1 : cR D J lk as S L T) (x y : Int32) : zMet l yX4_dependsOn (Cond.code yX4_dependsOn cX4_dependsOn 4 (some .boolean) :: LWc) ({ frames := 7, cells := 2, slots := 12, locals := 108 } : Room) 2 12 [zr (some (L 0)), zi x, zi y] S (zPo (fun v S' => ∃ i j : Nat, i < 8 ∧ i < dL D ∧ x = nI i ∧ j < 8 ∧ j < dL D ∧ y = nI j ∧ v = some (zi (bI (hasB (wlO (lsO D) 8 (lsD D (ix (D 58 i)))) y))) ∧ S' = S) (fun E S' => S' = S ∧ ¬ (hasLs D x ∧ hasLs D y) ∧ E = "java/util/NoSuchElementException")) := by
  refine zMet.of' [some (zr (some (L 0))), some (zi x), some (zi y), none] hl0 (by decide) rfl (Nat.le_of_ble_eq_true rfl) rfl ?_
  intro X C N hR hN0 hX F
  subst hX
  obtain ⟨hX0, hV, hK, hU, hQ, hF⟩ := id hR1
  obtain ⟨hS, hT, hG, hRR, hLL, hA, hday, hpl, hO, hAc⟩ := id hX0
  refine z_aload_n C rfl dX4_dependsOn_0 ?_
  refine z_iload_n C rfl dX4_dependsOn_1 ?_
  refine z_callC 1 [zi x] C rfl (C_needList hl0 hS x) rfl (zgoodV LWc_good wc203 wc204 wc205 wc58 wc206) rfl rfl rfl (by decide +kernel) rfl (by rw [hR]; exact ⟨Nat.le_of_ble_eq_true rfl, Nat.le_of_ble_eq_true rfl⟩) hS.c (by rw [hR]; exact ⟨Nat.le_of_ble_eq_true rfl, Nat.le_of_ble_eq_true rfl⟩) (Nat.le_of_ble_eq_true rfl) dX4_dependsOn_2 (fun v2 S2 h2 => ?_) (fun E2 S2 h2 => ?_)
  · obtain ⟨l9, e2, rfl, q2⟩ := h2
    subst S2
    obtain ⟨i, rr, hi2, hl2, ex2, ea2, k2_2, m0_2, er2, n1_2, n2_2⟩ := tL_some hLL e2
    refine z_astore_n [_, _, _, _] C (by decide) rfl dX4_dependsOn_5 ?_
    refine z_aload_n C rfl dX4_dependsOn_6 ?_
    refine z_iload_n C rfl dX4_dependsOn_7 ?_
    refine z_callC 1 [zi y] C rfl (C_needList hl0 hS y) rfl (zgoodV LWc_good wc203 wc204 wc205 wc58 wc206) rfl rfl rfl (by decide +kernel) rfl (by rw [hR]; exact ⟨Nat.le_of_ble_eq_true rfl, Nat.le_of_ble_eq_true rfl⟩) hS.c (by rw [hR]; exact ⟨Nat.le_of_ble_eq_true rfl, Nat.le_of_ble_eq_true rfl⟩) (Nat.le_of_ble_eq_true rfl) dX4_dependsOn_8 (fun v8 S8 h8 => ?_) (fun E8 S8 h8 => ?_)
    · obtain ⟨l8, e8, rfl, q8⟩ := h8
      subst S8
      obtain ⟨j, r8, hi8, hl8, ex8, ea8, k2_8, m0_8, er8, n1_8, n2_8⟩ := tL_some hLL e8
      refine z_pop rfl C dX4_dependsOn_11 ?_
      refine z_aload_n C rfl dX4_dependsOn_12 ?_
      obtain ⟨hr1, hr40, -, k3, k9, -⟩ := hX0.rule hl2 er2
      refine z_aload_n C rfl dX4_dependsOn_13 ?_
      refine zg0_rule C (fun w h => List.mem_cons_of_mem _ (uc_wsX00 w h)) k2_2 (List.mem_cons_of_mem _ wc108) dX4_dependsOn_14 ?_
      refine z_ref m0_2 ?_
      refine zg1_listSet C (fun w h => List.mem_cons_of_mem _ (uc_wsX10 w h)) k3 (List.mem_cons_of_mem _ wc124) dX4_dependsOn_17 ?_
      refine z_int k9 ?_
      refine z_callC 1 [zi (lsD D (ix (D 58 i)))] C rfl (C_withListsBehind hl0 hS hX0.cLr (lsD D (ix (D 58 i)))) rfl (zgoodV LWc_good wc219 wc220 wc221 wc58 wc222) rfl rfl rfl (by decide +kernel) rfl (by rw [hR]; exact ⟨Nat.le_of_ble_eq_true rfl, Nat.le_of_ble_eq_true rfl⟩) hS.c (by rw [hR]; exact ⟨Nat.le_of_ble_eq_true rfl, Nat.le_of_ble_eq_true rfl⟩) (Nat.le_of_ble_eq_true rfl) dX4_dependsOn_20 (fun v20 S20 h20 => ?_) (fun E20 S20 h20 => ?_)
      · obtain ⟨rfl, q20⟩ := h20
        subst S20
        refine z_int (wlO_cong (fun i hi => hX0.lso hi) 8 _) ?_
        refine z_iload_n C rfl dX4_dependsOn_23 ?_
        refine z_callS 2 [zi (wlO (lsO D) 8 (lsD D (ix (D 58 i)))), zi y] C (C_hasBit hl0 (wlO (lsO D) 8 (lsD D (ix (D 58 i)))) y) rfl (zgoodS LWc_good wc102 wc103 wc58 wc104) rfl rfl rfl (by decide +kernel) rfl (by rw [hR]; exact ⟨Nat.le_of_ble_eq_true rfl, Nat.le_of_ble_eq_true rfl⟩) (by rw [hR]; exact ⟨Nat.le_of_ble_eq_true rfl, Nat.le_of_ble_eq_true rfl⟩) (Nat.le_of_ble_eq_true rfl) dX4_dependsOn_24 (fun v24 S24 h24 => ?_) (fun E24 S24 h24 => ?_)
        · obtain ⟨rfl, q24⟩ := h24
          subst S24
          refine z_zreturn C F (Nat.le_of_ble_eq_true rfl) (Nat.le_of_ble_eq_true rfl) (by generalize hasB _ _ = b; cases b <;> decide) dX4_dependsOn_27 ?_
          exact ⟨i, j, hi2, hl2, ex2, hi8, hl8, ex8, rfl, rfl⟩
        · exact h24.elim
      · exact h20.elim
    · obtain ⟨e8, rfl, q8⟩ := h8
      subst S8
      exact z_out C F N (Nat.le_of_ble_eq_true rfl) (Nat.le_of_ble_eq_true rfl) ⟨rfl, fun q => tL_none hLL e8 q.2, rfl⟩
  · obtain ⟨e2, rfl, q2⟩ := h2
    subst S2
    exact z_out C F N (Nat.le_of_ble_eq_true rfl) (Nat.le_of_ble_eq_true rfl) ⟨rfl, fun q => tL_none hLL e2 q.1, rfl⟩
set_option maxRecDepth 100000 in
set_option maxHeartbeats 4000000 in
theorem C_distance {l : Launch} (hl0 : l.stackTraces = false) {D : ZD} {J : Nat → Int64} {lk : ZL} {as : Nat → Nat} {S : ZM} {L T : Nat → Nat} (hR1 : cR D J lk as S L T) (x y : Int32) : zMet l yX4_distance (Cond.code yX4_distance cX4_distance 3 (some .int) :: LWc) ({ frames := 7, cells := 2, slots := 12, locals := 108 } : Room) 2 12 [zr (some (L 0)), zi x, zi y] S (zPo (fun v S' => ∃ g h : Nat, g < 16 ∧ g < dG D ∧ x = nI g ∧ D 51 g = 0 ∧ h < 16 ∧ h < dG D ∧ y = nI h ∧ D 51 h = 0 ∧ v = some (zi (nI (lvD D g h))) ∧ cR D J lk as S' L T) (fun E S' => S' = S ∧ ¬ (hasTg D x ∧ hasTg D y) ∧ E = "java/util/NoSuchElementException")) := by
  refine zMet.of' [some (zr (some (L 0))), some (zi x), some (zi y)] hl0 (by decide) rfl (Nat.le_of_ble_eq_true rfl) rfl ?_
  intro X C N hR hN0 hX F
  subst hX
  obtain ⟨hX0, hV, hK, hU, hQ, hF⟩ := id hR1
  obtain ⟨hS, hT, hG, hRR, hLL, hA, hday, hpl, hO, hAc⟩ := id hX0
  refine z_aload_n C rfl dX4_distance_0 ?_
  refine z_aload_n C rfl dX4_distance_1 ?_
  refine z_iload_n C rfl dX4_distance_2 ?_
  refine z_callC 1 [zi x] C rfl (C_needTag hl0 hS hG.k x) rfl (zgoodV LWc_good wc168 wc169 wc170 wc58 wc171) rfl rfl rfl (by decide +kernel) rfl (by rw [hR]; exact ⟨Nat.le_of_ble_eq_true rfl, Nat.le_of_ble_eq_true rfl⟩) hS.c (by rw [hR]; exact ⟨Nat.le_of_ble_eq_true rfl, Nat.le_of_ble_eq_true rfl⟩) (Nat.le_of_ble_eq_true rfl) dX4_distance_3 (fun v3 S3 h3 => ?_) (fun E3 S3 h3 => ?_)
  · obtain ⟨b9, e3, z3, rfl, q3⟩ := h3
    subst S3
    obtain ⟨g, hg3, hgG3, ex3, h51_3, hl3, ea3, k4_3, n10_3⟩ := tG_some hR1 e3 z3
    refine z_aload_n C rfl dX4_distance_6 ?_
    refine z_iload_n C rfl dX4_distance_7 ?_
    refine z_callC 1 [zi y] C rfl (C_needTag hl0 hS hG.k y) rfl (zgoodV LWc_good wc168 wc169 wc170 wc58 wc171) rfl rfl rfl (by decide +kernel) rfl (by rw [hR]; exact ⟨Nat.le_of_ble_eq_true rfl, Nat.le_of_ble_eq_true rfl⟩) hS.c (by rw [hR]; exact ⟨Nat.le_of_ble_eq_true rfl, Nat.le_of_ble_eq_true rfl⟩) (Nat.le_of_ble_eq_true rfl) dX4_distance_8 (fun v8 S8 h8 => ?_) (fun E8 S8 h8 => ?_)
    · obtain ⟨b8, e8, z8, rfl, q8⟩ := h8
      subst S8
      obtain ⟨h, hg8, hgG8, ex8, h51_8, hl8, ea8, k4_8, n10_8⟩ := tG_some hR1 e8 z8
      refine z_callC 2 [zr (some b9), zr (some b8)] C rfl (C_distanceByTable hl0 (rG.tg hR1 hgG3 ea3).1 (rG.tg hR1 hgG8 ea8).1 hS) rfl (zgoodV LWc_good wc184 wc185 wc186 wc58 wc187) rfl rfl rfl (by decide +kernel) rfl (by rw [hR]; exact ⟨Nat.le_of_ble_eq_true rfl, Nat.le_of_ble_eq_true rfl⟩) hS.c (by rw [hR]; exact ⟨Nat.le_of_ble_eq_true rfl, Nat.le_of_ble_eq_true rfl⟩) (Nat.le_of_ble_eq_true rfl) dX4_distance_11 (fun v11 S11 h11 => ?_) (fun E11 S11 h11 => ?_)
      · obtain ⟨rfl, Tb, q11, hTb⟩ := h11
        subst S11
        refine z_ireturn C F (Nat.le_of_ble_eq_true rfl) (Nat.le_of_ble_eq_true rfl) dX4_distance_14 ?_
        exact ⟨g, h, hg3, hgG3, ex3, h51_3, hg8, hgG8, ex8, h51_8, rfl, hR1.sT hTb⟩
      · exact h11.elim
    · obtain ⟨e8, rfl, q8⟩ := h8
      subst S8
      exact z_out C F N (Nat.le_of_ble_eq_true rfl) (Nat.le_of_ble_eq_true rfl) ⟨rfl, fun q => tG_none hR1 e8 q.2, rfl⟩
  · obtain ⟨e3, rfl, q3⟩ := h3
    subst S3
    exact z_out C F N (Nat.le_of_ble_eq_true rfl) (Nat.le_of_ble_eq_true rfl) ⟨rfl, fun q => tG_none hR1 e3 q.1, rfl⟩
