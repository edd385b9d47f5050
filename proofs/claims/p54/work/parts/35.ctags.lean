/-! the class: plays, days, tags of tracks -/
theorem mI_up {D : ZD} {S : ZM} {L : Nat → Nat} {A1 : Nat → Int32} {k b : Nat} (h : k ≠ 38) : mI (upS D S L A1) k b = mI S k b := mI_sI_k h
/-- the state behind days that pass -/
def opPass (D : ZD) (y : Int32) : ZD := dS D 40 (up1 (D 40) 0 (D 40 0 + y))
theorem cR.pass {D : ZD} {J : Nat → Int64} {lk : ZL} {as : Nat → Nat} {S : ZM} {L T : Nat → Nat} (h : cR D J lk as S L T) {y : Int32} (h1 : 1 ≤ y) (h365 : y ≤ 365) (hle : y ≤ 9999 - D 40 0) :
    cX (opPass D y) lk as (sI S 36 (L 0) (D 40 0 + y)) L ∧ cV (opPass D y) (sI S 36 (L 0) (D 40 0 + y)) L ∧ (∀ l : Nat, l < 8 → tI (sI S 36 (L 0) (D 40 0 + y)) (L 5) l = (opPass D y) 61 l) ∧ (∀ l : Nat, l < 8 → dL (opPass D y) ≤ l → (opPass D y) 61 l = 0) ∧ cU (opPass D y) (sI S 36 (L 0) (D 40 0 + y)) L T ∧ wfQ (opPass D y) J lk as := by
  obtain ⟨D1, hD1⟩ : ∃ z : ZD, z = opPass D y := ⟨_, rfl⟩
  have hD : ∀ k : Nat, k ≠ 40 → D1 k = D k := fun k hk => by rw [hD1]; exact dS_ne hk
  have h40 : D1 40 0 = D 40 0 + y := by rw [hD1]; exact (congrFun dS_self 0).trans up1_self
  rw [← hD1]
  obtain ⟨hX, hV, hK, hU, hQ, hF⟩ := h
  obtain ⟨s1, s2, s3, s4, s5, s6, s7, s8, s9, s10⟩ := id hX
  have hpr : prD D1 = prD D := prD_eq (hD 41 (by decide)) (hD 47 (by decide))
  have hdT : dT D1 = dT D := by simp only [dT, hD 41 (by decide)]
  have hdL : dL D1 = dL D := by simp only [dL, hD 57 (by decide)]
  have hI : ∀ k b : Nat, k ≠ 36 → mI (sI S 36 (L 0) (D 40 0 + y)) k b = mI S k b := fun k b hk => mI_sI_k hk
  have hI' : ∀ k b c : Nat, mK S b = c → c ≠ 6 → mI (sI S 36 (L 0) (D 40 0 + y)) k b = mI S k b := fun k b c hc h6 => mI_sI_ne (fun q => h6 (by rw [← hc, q]; exact s1.c))
  refine ⟨⟨s1, ?_, ?_, ?_, ?_, ?_, ?_, ?_, ?_, ?_⟩, ?_, ?_, ?_, ?_, ?_⟩
  · intro i hi
    rw [hpr, hD 42 (by decide), hD 43 (by decide), hD 44 (by decide), hD 46 (by decide), show lastD D1 i = lastD D i from by simp only [lastD, hD 44 (by decide), hD 45 (by decide)]]
    refine ⟨(s2 i hi).1, fun q => ?_⟩
    obtain ⟨a, e, k1, k2, k3, k4, k5, k6, k7⟩ := (s2 i hi).2 q
    exact ⟨a, e, k1, (hI' _ _ _ k1 (by decide)).trans k2, (hI' _ _ _ k1 (by decide)).trans k3, (hI' _ _ _ k1 (by decide)).trans k4, (hI' _ _ _ k1 (by decide)).trans k5, (hI' _ _ _ k1 (by decide)).trans k6, (hI' _ _ _ k1 (by decide)).trans k7⟩
  · rw [rG_eq lk _ L (hD 48 (by decide)) (hD 49 (by decide)) (hD 50 (by decide))]
    exact s3.same rfl rfl (fun k b q => hI' k b _ q (by decide)) (fun k b hk _ => rfl) rfl (fun b _ => rfl)
  · rw [rR_eq as _ L (hD 52 (by decide)) (hD 53 (by decide)) (hD 54 (by decide)) (hD 55 (by decide)) (hD 56 (by decide))]
    exact s4.same rfl (fun k b q => hI' k b _ q (by decide)) (fun k b hk _ => rfl) rfl
  · rw [rL_eq _ L (hD 57 (by decide)) (hD 58 (by decide)) (hD 59 (by decide)) (hD 60 (by decide))]
    exact s5.same rfl (fun k b q => hI' k b _ q (by decide)) (fun k b hk _ => rfl) rfl
  · rw [wfA_eq lk as (hD 41 (by decide)) (hD 48 (by decide)) (hD 52 (by decide)) (hD 53 (by decide)) (hD 54 (by decide)) (hD 55 (by decide)) (hD 57 (by decide))]; exact s6
  · rw [h40]; exact mI_sI _ _ _ _
  · rw [hD 44 (by decide), hD 45 (by decide)]; exact s8
  · rw [wfO_eq (hD 52 (by decide)) (hD 57 (by decide)) (hD 58 (by decide))]; exact s9
  · rw [acD_eq (hD 53 (by decide)) (hD 54 (by decide)) (hD 55 (by decide)) (hD 57 (by decide)) (hD 58 (by decide))]; exact s10
  · obtain ⟨v1, v2, v3, v4, v5, v6⟩ := hV
    refine ⟨?_, ?_, ?_, ?_, ?_, ?_⟩
    · rw [hI _ _ (by decide), hD 41 (by decide)]; exact v1
    · rw [hI _ _ (by decide), hpr]; exact v2
    · rw [hI _ _ (by decide), hD 48 (by decide)]; exact v3
    · rw [hI _ _ (by decide), hD 52 (by decide)]; exact v4
    · rw [hI _ _ (by decide), hD 57 (by decide)]; exact v5
    · rw [hdT, scF_eq (hD 42 (by decide)) (hD 44 (by decide))]; exact v6
  · rw [hD 61 (by decide)]; exact hK.1
  · rw [hdL, hD 61 (by decide)]; exact hF.2
  · exact hU.same (cU_eq _ L T (hD 41 (by decide)) (hD 47 (by decide)) (hD 48 (by decide)) (hD 67 (by decide)) (hD 69 (by decide)) (hD 70 (by decide))) rfl rfl rfl rfl rfl
  · refine hQ.same ?_ ?_ (fun k a b c => hD k (by omega))
    · have q := hQ.1
      simp only [wfQ1, hdT]
      rw [hD 42 (by decide), hD 43 (by decide), hD 44 (by decide), hD 46 (by decide), hD 47 (by decide)]; exact q
    · obtain ⟨d, ed, hd⟩ := hQ.2.1
      obtain ⟨n, rfl, hn⟩ := in_nI (n := 365) (x := y) (Int32.le_trans (by decide) h1) h365 (by decide)
      rw [h40, ed, nI_add]
      refine ⟨d + n, rfl, ?_⟩
      rw [ed, show (9999 : Int32) = nI 9999 from rfl, pk_sub hd] at hle
      have := (nI_leI (by omega) (by omega)).1 hle
      omega
/-- the state behind a track's tags anew -/
def opTags (D : ZD) (t : Nat) (s : Int32) : ZD := dS (dS D 46 (up1 (D 46) t s)) 67 (up1 (D 67) 0 0)
theorem opTags_ne {D : ZD} {t k : Nat} {s : Int32} (h : k ≠ 46 ∧ k ≠ 67) : opTags D t s k = D k := (dS_ne h.2).trans (dS_ne h.1)
theorem opTags_46 (D : ZD) (t : Nat) (s : Int32) : opTags D t s 46 = up1 (D 46) t s := (dS_ne (by decide)).trans dS_self
theorem opTags_67 (D : ZD) (t : Nat) (s : Int32) : opTags D t s 67 0 = 0 := (congrFun dS_self 0).trans up1_self
abbrev tagsS (S : ZM) (L : Nat → Nat) (a : Nat) (s : Int32) : ZM := sQ (sI S 21 a s) 35 (L 0) none
theorem cR.tags {D : ZD} {J : Nat → Int64} {lk : ZL} {as : Nat → Nat} {S : ZM} {L T : Nat → Nat} (h : cR D J lk as S L T) {t a : Nat} (ht : t < 24) (ha : tQ S (L 1) t = some a) (s : Int32) :
    cX (opTags D t s) lk as (tagsS S L a s) L ∧ cV (opTags D t s) (tagsS S L a s) L ∧ (∀ l : Nat, l < 8 → tI (tagsS S L a s) (L 5) l = (opTags D t s) 61 l) ∧ (∀ l : Nat, l < 8 → dL (opTags D t s) ≤ l → (opTags D t s) 61 l = 0) ∧ cU (opTags D t s) (tagsS S L a s) L T ∧ wfQ (opTags D t s) J lk as := by
  obtain ⟨D1, hD1⟩ : ∃ z : ZD, z = opTags D t s := ⟨_, rfl⟩
  have hD : ∀ k : Nat, k ≠ 46 ∧ k ≠ 67 → D1 k = D k := fun k hk => by rw [hD1]; exact opTags_ne hk
  have h46 : D1 46 = up1 (D 46) t s := by rw [hD1]; exact opTags_46 D t s
  have h67 : D1 67 0 = 0 := by rw [hD1]; exact opTags_67 D t s
  rw [← hD1]
  obtain ⟨hp, k5, n16, n17, n18, n19, n20, n21⟩ := h.1.2.1.at ht ha
  have hlt' : t < dT D := prD_lt hp
  obtain ⟨⟨len, el, l1, l2⟩, ⟨rt, er, r2⟩, ⟨p, ep, p2⟩⟩ := (h.2.2.2.2.1.1 t ht).1 hlt'
  obtain ⟨d, ed, hd⟩ := h.2.2.2.2.1.2.1
  have hI : ∀ k b : Nat, mI (tagsS S L a s) k b = mI (sI S 21 a s) k b := fun _ _ => rfl
  obtain ⟨g1, g2, g3, g4, g5⟩ := h.one (D1 := D1) (S1 := tagsS S L a s) ht ha (fun k hk hk2 => hD k (by omega)) (fun i hi => ⟨by rw [hD 43 (by decide)], by rw [hD 44 (by decide)], by rw [hD 45 (by decide)], by rw [h46, up1_ne hi]⟩) rfl rfl
    (fun k hk => by
      show up2 S.2.2.1 35 (L 0) none k = S.2.2.1 k
      funext b; rw [up2_k hk]) rfl rfl
    (fun k b hb => by rw [hI, mI_sI_ne hb])
    (by rw [scF_eq (hD 42 (by decide)) (hD 44 (by decide))]; exact h.2.1.2.2.2.2.2) (by rw [hI, mI_sI_k (by decide)]) (by rw [hI, mI_sI_k (by decide)]) (by rw [hI, mI_sI_k (by decide), n18, hD 43 (by decide)]) (by rw [hI, mI_sI_k (by decide), n19, hD 44 (by decide)])
    (by rw [hI, mI_sI_k (by decide), n20]; simp only [lastD, hD 44 (by decide), hD 45 (by decide)]) (by rw [hI, mI_sI, h46, up1_self])
    ⟨rt, by rw [hD 43 (by decide)]; exact er, r2⟩ ⟨p, by rw [hD 44 (by decide)]; exact ep, p2⟩ (by rw [hD 45 (by decide)]; exact (h.1.2.2.2.2.2.2.2.1 t).2)
  have hdU : dU D1 = 0 := by simp only [dU, h67]; rfl
  have hdG : dG D1 = dG D := by simp only [dG, hD 48 (by decide)]
  have hdR : dR D1 = dR D := by simp only [dR, hD 52 (by decide)]
  refine ⟨g1, g2, g3, g4, ?_, g5, by rw [hD 40 (by decide)]; exact ⟨d, ed, hd⟩, ?_, ?_, ?_, ?_, ?_⟩
  · obtain ⟨u1, u2, u3, u4, u5⟩ := h.2.2.2.1
    refine ⟨fun i b hi hb => ?_, by rw [hdG]; exact u2, by rw [hdG]; exact u3, ?_, fun k hk => by rw [hdU] at hk; exact absurd hk (Nat.not_lt_zero k)⟩
    · rw [hdG] at hi
      exact u1 i b hi hb
    · rw [hdU]; show up2 S.2.2.1 35 (L 0) none 35 (L 0) = none; exact up2_self
  · rw [hD 49 (by decide), hD 50 (by decide), hdG]; exact h.2.2.2.2.1.2.2.1
  · rw [hD 51 (by decide)]; exact h.2.2.2.2.1.2.2.2.1
  · rw [hD 56 (by decide), hdR]; exact h.2.2.2.2.1.2.2.2.2.1
  · rw [hdU, h67, show dL D1 = dL D from by simp only [dL, hD 57 (by decide)], hD 59 (by decide)]; exact ⟨rfl, Nat.zero_le _, h.2.2.2.2.1.2.2.2.2.2.1.2.2⟩
  · intro k hk; rw [hdU] at hk; exact absurd hk (Nat.not_lt_zero k)
/-- a tag's number, of one that is not gone -/
def hasTg (D : ZD) (x : Int32) : Prop := ∃ g : Nat, g < 16 ∧ g < dG D ∧ x = nI g ∧ D 51 g = 0
theorem tG_some {D : ZD} {J : Nat → Int64} {lk : ZL} {as : Nat → Nat} {S : ZM} {L T : Nat → Nat} (h : cR D J lk as S L T) {x : Int32} {a : Nat} (ha : cAt (tQ S (L 2)) 16 x = some a) (hb : mQ S 13 a = none) : ∃ g : Nat, g < 16 ∧ g < dG D ∧ x = nI g ∧ D 51 g = 0 ∧ look lk g = none ∧ tQ S (L 2) g = some a ∧ mK S a = 4 ∧ mI S 10 a = nI g := by
  obtain ⟨g, hg, e, ea⟩ := cAt_some (by decide) ha
  have hG := h.1.2.2.1
  have hgG : g < dG D := by
    rcases Nat.lt_or_ge g (dG D) with q | q
    · exact q
    · rw [hG.1 g hg q] at ea; cases ea
  obtain ⟨b, nm, eb, h1, h2, h3, h4, h5, h6, h7, h8⟩ := hG.2 g hgG
  have : b = a := by rw [eb] at ea; exact Option.some.inj ea
  subst this
  have hl : look lk g = none := by
    cases hq : look lk g with
    | none => rfl
    | some j =>
      rw [hb, hq] at h8
      obtain ⟨c, nm2, ec, -⟩ := hG.2 j (look_lt h.1.2.2.2.2.2.1.2.2.1 g j hq).2
      rw [Option.bind_some, ec] at h8; cases h8
  refine ⟨g, hg, hgG, e, ?_, hl, eb, h1, h2⟩
  rw [h.2.2.2.2.1.2.2.2.1 g hg, hl]; rfl
theorem tG_none {D : ZD} {J : Nat → Int64} {lk : ZL} {as : Nat → Nat} {S : ZM} {L T : Nat → Nat} (h : cR D J lk as S L T) {x : Int32} (ha : ∀ a : Nat, cAt (tQ S (L 2)) 16 x = some a → ¬ mQ S 13 a = none) : ¬ hasTg D x := by
  rintro ⟨g, hg, hgG, e, h51⟩
  obtain ⟨b, nm, eb, h1, h2, h3, h4, h5, h6, h7, h8⟩ := h.1.2.2.1.2 g hgG
  refine ha b (by rw [e, cAt_nI hg (by decide)]; exact eb) ?_
  rw [h8]
  cases hq : look lk g with
  | none => rfl
  | some j =>
    rw [h.2.2.2.2.1.2.2.2.1 g hg, hq] at h51
    exact absurd h51 (show ¬ (1 : Int32) = 0 by decide)
theorem hasTr_nI {D : ZD} {x : Int32} {t : Nat} (ht : t < 24) (e : x = nI t) (hp : prD D t = true) : hasTr D x := ⟨t, ht, e, hp⟩

set_option maxRecDepth 100000 in
set_option maxHeartbeats 4000000 in
theorem C_play {l : Launch} (hl0 : l.stackTraces = false) {D : ZD} {J : Nat → Int64} {lk : ZL} {as : Nat → Nat} {S : ZM} {L T : Nat → Nat} (hR1 : cR D J lk as S L T) (x : Int32) : zMet l yX4_play (Cond.code yX4_play cX4_play 3 (some .int) :: LWc) ({ frames := 45, cells := 2, slots := 12, locals := 1001 } : Room) 2 12 [zr (some (L 0)), zi x] S (zPo (fun v S' => ∃ t : Nat, t < 24 ∧ x = nI t ∧ prD D t = true ∧ D 44 t < 999 ∧ v = some (zi (D 44 t + 1)) ∧ cR (chgD (opPlay D t)) J lk as S' L T) (fun E S' => S' = S ∧ ((¬ hasTr D x ∧ E = "java/util/NoSuchElementException") ∨ (∃ t : Nat, t < 24 ∧ x = nI t ∧ prD D t = true ∧ ¬ D 44 t < 999 ∧ E = "java/lang/IllegalStateException")))) := by
  refine zMet.of' [some (zr (some (L 0))), some (zi x), none] hl0 (by decide) rfl (Nat.le_of_ble_eq_true rfl) rfl ?_
  intro X C N hR hN0 hX F
  subst hX
  obtain ⟨hX0, hV, hK, hU, hQ, hF⟩ := id hR1
  obtain ⟨hS, hT, hG, hRR, hLL, hA, hday, hpl, hO, hAc⟩ := id hX0
  refine z_aload_n C rfl dX4_play_0 ?_
  refine z_iload_n C rfl dX4_play_1 ?_
  refine z_callC 1 [zi x] C rfl (C_needTrack hl0 hS x) rfl (zgoodV LWc_good wc157 wc158 wc159 wc58 wc160) rfl rfl rfl (by decide +kernel) rfl (by rw [hR]; exact ⟨Nat.le_of_ble_eq_true rfl, Nat.le_of_ble_eq_true rfl⟩) hS.c (by rw [hR]; exact ⟨Nat.le_of_ble_eq_true rfl, Nat.le_of_ble_eq_true rfl⟩) (Nat.le_of_ble_eq_true rfl) dX4_play_2 (fun v2 S2 h2 => ?_) (fun E2 S2 h2 => ?_)
  · obtain ⟨a9, e2, rfl, q2⟩ := h2
    subst S2
    obtain ⟨t, ht2, ex2, ea2, hp2, k5, n16, n17, n18, n19, n20, n21⟩ := hT.some e2
    refine z_astore_n [_, _, _] C (by decide) rfl dX4_play_5 ?_
    refine z_aload_n C rfl dX4_play_6 ?_
    refine zg3_plays C (fun w h => List.mem_cons_of_mem _ (uc_wsX30 w h)) k5 (List.mem_cons_of_mem _ wc68) dX4_play_7 ?_
    refine z_int n19 ?_
    refine z_sipush 999 (by decide) C dX4_play_10 ?_
    refine z_icmp_lt 26 C dX4_play_13 (by decide) (fun c13 => ?_) (fun c13 => ?_)
    · refine z_aload_n C rfl dX4_play_26 ?_
      refine z_dup rfl C dX4_play_27 ?_
      refine zg3_plays C (fun w h => List.mem_cons_of_mem _ (uc_wsX30 w h)) k5 (List.mem_cons_of_mem _ wc68) dX4_play_28 ?_
      refine z_int n19 ?_
      refine z_iconst 1 (by decide) C dX4_play_31 ?_
      refine z_iadd C dX4_play_32 ?_
      refine zp3_plays C (fun w h => List.mem_cons_of_mem _ (uc_wsX30 w h)) k5 (List.mem_cons_of_mem _ wc68) dX4_play_33 ?_
      refine z_aload_n C rfl dX4_play_36 ?_
      refine z_aload_n C rfl dX4_play_37 ?_
      refine zg4_day C (fun w h => List.mem_cons_of_mem _ (uc_wsX40 w h)) hS.c (List.mem_cons_of_mem _ wc50) dX4_play_38 ?_
      refine z_int (x' := D 40 0) ((mI_sI_k (by decide)).trans hday) ?_
      refine zp3_lastDay C (fun w h => List.mem_cons_of_mem _ (uc_wsX30 w h)) k5 (List.mem_cons_of_mem _ wc70) dX4_play_41 ?_
      refine z_aload_n C rfl dX4_play_44 ?_
      refine z_dup rfl C dX4_play_45 ?_
      refine zg4_secondsPlayed C (fun w h => List.mem_cons_of_mem _ (uc_wsX40 w h)) hS.c (List.mem_cons_of_mem _ wc51) dX4_play_46 ?_
      refine z_lng (x' := scF D (dT D)) hV.2.2.2.2.2 ?_
      refine z_aload_n C rfl dX4_play_49 ?_
      refine zg3_length C (fun w h => List.mem_cons_of_mem _ (uc_wsX30 w h)) k5 (List.mem_cons_of_mem _ wc69) dX4_play_50 ?_
      refine z_int (x' := D 42 t) (((mI_sI_k (k := 20) (by decide)).trans (mI_sI_k (k := 19) (by decide))).trans n17) ?_
      refine z_i2l C dX4_play_53 ?_
      refine z_ladd C dX4_play_54 ?_
      refine zp4_secondsPlayed C (fun w h => List.mem_cons_of_mem _ (uc_wsX40 w h)) hS.c (List.mem_cons_of_mem _ wc51) dX4_play_55 ?_
      obtain ⟨g1, g2, g3, g4, g5, g6⟩ := hR1.play ht2 ea2 c13
      refine z_aload_n C rfl dX4_play_58 ?_
      refine z_callC 0 [] C rfl (C_update hl0 g1) rfl (zgoodV LWc_good wc151 wc152 wc153 wc58 wc154) rfl rfl rfl (by decide +kernel) rfl (by rw [hR]; exact ⟨Nat.le_of_ble_eq_true rfl, Nat.le_of_ble_eq_true rfl⟩) hS.c (by rw [hR]; exact ⟨Nat.le_of_ble_eq_true rfl, Nat.le_of_ble_eq_true rfl⟩) (Nat.le_of_ble_eq_true rfl) dX4_play_59 (fun v59 S59 h59 => ?_) (fun E59 S59 h59 => ?_)
      · obtain ⟨rfl, A1, q59⟩ := h59
        subst S59
        refine z_aload_n C rfl dX4_play_62 ?_
        refine zg3_plays C (fun w h => List.mem_cons_of_mem _ (uc_wsX30 w h)) k5 (List.mem_cons_of_mem _ wc68) dX4_play_63 ?_
        refine z_int (x' := D 44 t + 1) (by
          rw [mI_up (by decide)]
          show mI (sI (sI S 19 a9 (D 44 t + 1)) 20 a9 (D 40 0)) 19 a9 = _
          rw [mI_sI_k (by decide), mI_sI]) ?_
        refine z_ireturn C F (Nat.le_of_ble_eq_true rfl) (Nat.le_of_ble_eq_true rfl) dX4_play_66 ?_
        exact ⟨t, ht2, ex2, hp2, c13, rfl, cR.up g1 g2 g3 g4 g5 g6 A1⟩
      · exact h59.elim
    · refine z_throwS (text := "the track cannot be played more often") ["java/lang/RuntimeException", "java/lang/Exception"] C F N (by decide +kernel) (by decide +kernel) (List.mem_cons_of_mem _ wc141) (List.mem_cons_of_mem _ wc142) (by decide +kernel) (fun w h => List.mem_cons_of_mem _ (ac_1 w h)) bc_1 (by decide) (by decide +kernel) dX4_play_16 dX4_play_19 dX4_play_20 dX4_play_22 dX4_play_25 (by rw [hR]; exact Nat.le_of_ble_eq_true rfl) (by rw [hR]; exact Nat.le_of_ble_eq_true rfl) (by rw [hR]; exact Nat.le_of_ble_eq_true rfl) (by rw [hR]; exact Nat.le_of_ble_eq_true rfl) (Nat.le_of_ble_eq_true rfl) (Nat.le_of_ble_eq_true rfl) ?_
      exact ⟨rfl, Or.inr ⟨t, ht2, ex2, hp2, c13, rfl⟩⟩
  · obtain ⟨e2, rfl, q2⟩ := h2
    subst S2
    exact z_out C F N (Nat.le_of_ble_eq_true rfl) (Nat.le_of_ble_eq_true rfl) ⟨rfl, Or.inl ⟨hT.none e2, rfl⟩⟩
set_option maxRecDepth 100000 in
set_option maxHeartbeats 4000000 in
theorem C_pass {l : Launch} (hl0 : l.stackTraces = false) {D : ZD} {J : Nat → Int64} {lk : ZL} {as : Nat → Nat} {S : ZM} {L T : Nat → Nat} (hR1 : cR D J lk as S L T) (y : Int32) : zMet l yX4_pass (Cond.code yX4_pass cX4_pass 2 (some .int) :: LWc) ({ frames := 45, cells := 2, slots := 12, locals := 1001 } : Room) 2 12 [zr (some (L 0)), zi y] S (zPo (fun v S' => 1 ≤ y ∧ y ≤ 365 ∧ y ≤ 9999 - D 40 0 ∧ v = some (zi (D 40 0 + y)) ∧ cR (chgD (opPass D y)) J lk as S' L T) (fun E S' => S' = S ∧ ((¬ (1 ≤ y ∧ y ≤ 365) ∧ E = "java/lang/IllegalArgumentException") ∨ (1 ≤ y ∧ y ≤ 365 ∧ ¬ y ≤ 9999 - D 40 0 ∧ E = "java/lang/IllegalStateException")))) := by
  refine zMet.of' [some (zr (some (L 0))), some (zi y)] hl0 (by decide) rfl (Nat.le_of_ble_eq_true rfl) rfl ?_
  intro X C N hR hN0 hX F
  subst hX
  obtain ⟨hX0, hV, hK, hU, hQ, hF⟩ := id hR1
  obtain ⟨hS, hT, hG, hRR, hLL, hA, hday, hpl, hO, hAc⟩ := id hX0
  refine z_iload_n C rfl dX4_pass_0 ?_
  refine z_iconst 1 (by decide) C dX4_pass_1 ?_
  refine z_sipush 365 (by decide) C dX4_pass_2 ?_
  refine z_callS 3 [zi y, zi 1, zi 365] C (C_needRange hl0 y 1 365) rfl (zgoodS LWc_good wc145 wc146 wc58 wc147) rfl rfl rfl (by decide +kernel) rfl (by rw [hR]; exact ⟨Nat.le_of_ble_eq_true rfl, Nat.le_of_ble_eq_true rfl⟩) (by rw [hR]; exact ⟨Nat.le_of_ble_eq_true rfl, Nat.le_of_ble_eq_true rfl⟩) (Nat.le_of_ble_eq_true rfl) dX4_pass_5 (fun v5 S5 h5 => ?_) (fun E5 S5 h5 => ?_)
  · obtain ⟨lo5, hi5, rfl, q5⟩ := h5
    subst S5
    refine z_iload_n C rfl dX4_pass_8 ?_
    refine z_sipush 9999 (by decide) C dX4_pass_9 ?_
    refine z_aload_n C rfl dX4_pass_12 ?_
    refine zg4_day C (fun w h => List.mem_cons_of_mem _ (uc_wsX40 w h)) hS.c (List.mem_cons_of_mem _ wc50) dX4_pass_13 ?_
    refine z_int hday ?_
    refine z_isub C dX4_pass_16 ?_
    refine z_icmp_le 30 C dX4_pass_17 (by decide) (fun c17 => ?_) (fun c17 => ?_)
    · refine z_aload_n C rfl dX4_pass_30 ?_
      refine z_dup rfl C dX4_pass_31 ?_
      refine zg4_day C (fun w h => List.mem_cons_of_mem _ (uc_wsX40 w h)) hS.c (List.mem_cons_of_mem _ wc50) dX4_pass_32 ?_
      refine z_int hday ?_
      refine z_iload_n C rfl dX4_pass_35 ?_
      refine z_iadd C dX4_pass_36 ?_
      refine zp4_day C (fun w h => List.mem_cons_of_mem _ (uc_wsX40 w h)) hS.c (List.mem_cons_of_mem _ wc50) dX4_pass_37 ?_
      obtain ⟨g1, g2, g3, g4, g5, g6⟩ := hR1.pass lo5 hi5 c17
      refine z_aload_n C rfl dX4_pass_40 ?_
      refine z_callC 0 [] C rfl (C_update hl0 g1) rfl (zgoodV LWc_good wc151 wc152 wc153 wc58 wc154) rfl rfl rfl (by decide +kernel) rfl (by rw [hR]; exact ⟨Nat.le_of_ble_eq_true rfl, Nat.le_of_ble_eq_true rfl⟩) hS.c (by rw [hR]; exact ⟨Nat.le_of_ble_eq_true rfl, Nat.le_of_ble_eq_true rfl⟩) (Nat.le_of_ble_eq_true rfl) dX4_pass_41 (fun v41 S41 h41 => ?_) (fun E41 S41 h41 => ?_)
      · obtain ⟨rfl, A1, q41⟩ := h41
        subst S41
        refine z_aload_n C rfl dX4_pass_44 ?_
        refine zg4_day C (fun w h => List.mem_cons_of_mem _ (uc_wsX40 w h)) hS.c (List.mem_cons_of_mem _ wc50) dX4_pass_45 ?_
        refine z_int (x' := D 40 0 + y) (by rw [mI_up (by decide), mI_sI]) ?_
        refine z_ireturn C F (Nat.le_of_ble_eq_true rfl) (Nat.le_of_ble_eq_true rfl) dX4_pass_48 ?_
        exact ⟨lo5, hi5, c17, rfl, cR.up g1 g2 g3 g4 g5 g6 A1⟩
      · exact h41.elim
    · refine z_throwS (text := "there are no days that late") ["java/lang/RuntimeException", "java/lang/Exception"] C F N (by decide +kernel) (by decide +kernel) (List.mem_cons_of_mem _ wc141) (List.mem_cons_of_mem _ wc142) (by decide +kernel) (fun w h => List.mem_cons_of_mem _ (ac_1 w h)) bc_1 (by decide) (by decide +kernel) dX4_pass_20 dX4_pass_23 dX4_pass_24 dX4_pass_26 dX4_pass_29 (by rw [hR]; exact Nat.le_of_ble_eq_true rfl) (by rw [hR]; exact Nat.le_of_ble_eq_true rfl) (by rw [hR]; exact Nat.le_of_ble_eq_true rfl) (by rw [hR]; exact Nat.le_of_ble_eq_true rfl) (Nat.le_of_ble_eq_true rfl) (Nat.le_of_ble_eq_true rfl) ?_
      exact ⟨rfl, Or.inr ⟨lo5, hi5, c17, rfl⟩⟩
  · obtain ⟨e5, rfl, q5⟩ := h5
    subst S5
    exact z_out C F N (Nat.le_of_ble_eq_true rfl) (Nat.le_of_ble_eq_true rfl) ⟨rfl, Or.inl ⟨e5, rfl⟩⟩
set_option maxRecDepth 100000 in
set_option maxHeartbeats 4000000 in
theorem C_changeTags {l : Launch} (hl0 : l.stackTraces = false) {D : ZD} {J : Nat → Int64} {lk : ZL} {as : Nat → Nat} {S : ZM} {L T : Nat → Nat} (hR1 : cR D J lk as S L T) {t a : Nat} (ht : t < 24) (ha : tQ S (L 1) t = some a) (s : Int32) : zMet l yX4_changeTags (Cond.code yX4_changeTags cX4_changeTags 3 (some .int) :: LWc) ({ frames := 45, cells := 0, slots := 0, locals := 1001 } : Room) 0 0 [zr (some (L 0)), zr (some a), zi s] S (zPo (fun v S' => v = some (zi (bcJ s)) ∧ cR (chgD (opTags D t s)) J lk as S' L T) (fun _ _ => False)) := by
  refine zMet.of' [some (zr (some (L 0))), some (zr (some a)), some (zi s)] hl0 (by decide) rfl (Nat.le_of_ble_eq_true rfl) rfl ?_
  intro X C N hR hN0 hX F
  subst hX
  obtain ⟨hX0, hV, hK, hU, hQ, hF⟩ := id hR1
  obtain ⟨hS, hT, hG, hRR, hLL, hA, hday, hpl, hO, hAc⟩ := id hX0
  obtain ⟨hp0, k5, n16, n17, n18, n19, n20, n21⟩ := hT.at ht ha
  refine z_aload_n C rfl dX4_changeTags_0 ?_
  refine z_iload_n C rfl dX4_changeTags_1 ?_
  refine zp3_tagSet C (fun w h => List.mem_cons_of_mem _ (uc_wsX30 w h)) k5 (List.mem_cons_of_mem _ wc66) dX4_changeTags_2 ?_
  refine z_aload_n C rfl dX4_changeTags_5 ?_
  refine z_null C dX4_changeTags_6 ?_
  refine zp4_goneLatest C (fun w h => List.mem_cons_of_mem _ (uc_wsX40 w h)) hS.c (List.mem_cons_of_mem _ wc49) dX4_changeTags_7 ?_
  obtain ⟨g1, g2, g3, g4, g5, g6⟩ := hR1.tags ht ha s
  refine z_aload_n C rfl dX4_changeTags_10 ?_
  refine z_callC 0 [] C rfl (C_update hl0 g1) rfl (zgoodV LWc_good wc151 wc152 wc153 wc58 wc154) rfl rfl rfl (by decide +kernel) rfl (by rw [hR]; exact ⟨Nat.le_of_ble_eq_true rfl, Nat.le_of_ble_eq_true rfl⟩) hS.c (by rw [hR]; exact ⟨Nat.le_of_ble_eq_true rfl, Nat.le_of_ble_eq_true rfl⟩) (Nat.le_of_ble_eq_true rfl) dX4_changeTags_11 (fun v11 S11 h11 => ?_) (fun E11 S11 h11 => ?_)
  · obtain ⟨rfl, A1, q11⟩ := h11
    subst S11
    refine z_iload_n C rfl dX4_changeTags_14 ?_
    refine z_callS 1 [zi s] C (C_bitCount hl0 s) rfl (zgoodS LWc_good wc112 wc113 wc114 wc115) rfl rfl rfl (by decide +kernel) rfl (by rw [hR]; exact ⟨Nat.le_of_ble_eq_true rfl, Nat.le_of_ble_eq_true rfl⟩) (by rw [hR]; exact ⟨Nat.le_of_ble_eq_true rfl, Nat.le_of_ble_eq_true rfl⟩) (Nat.le_of_ble_eq_true rfl) dX4_changeTags_15 (fun v15 S15 h15 => ?_) (fun E15 S15 h15 => ?_)
    · obtain ⟨rfl, q15⟩ := h15
      subst S15
      refine z_ireturn C F (Nat.le_of_ble_eq_true rfl) (Nat.le_of_ble_eq_true rfl) dX4_changeTags_18 ?_
      exact ⟨rfl, cR.up g1 g2 g3 g4 g5 g6 A1⟩
    · exact h15.elim
  · exact h11.elim
set_option maxRecDepth 100000 in
set_option maxHeartbeats 4000000 in
theorem C_tag {l : Launch} (hl0 : l.stackTraces = false) {D : ZD} {J : Nat → Int64} {lk : ZL} {as : Nat → Nat} {S : ZM} {L T : Nat → Nat} (hR1 : cR D J lk as S L T) (x z : Int32) : zMet l yX4_tag (Cond.code yX4_tag cX4_tag 5 (some .int) :: LWc) ({ frames := 46, cells := 3, slots := 18, locals := 1023 } : Room) 3 18 [zr (some (L 0)), zi x, zi z] S (zPo (fun v S' => ∃ t g : Nat, t < 24 ∧ x = nI t ∧ prD D t = true ∧ g < 16 ∧ g < dG D ∧ z = nI g ∧ D 51 g = 0 ∧ hasB (D 46 t) (nI g) = false ∧ v = some (zi (bcJ (D 46 t ||| bitI g))) ∧ cR (chgD (opTags D t (D 46 t ||| bitI g))) J lk as S' L T) (fun E S' => S' = S ∧ ((¬ (hasTr D x ∧ hasTg D z) ∧ E = "java/util/NoSuchElementException") ∨ (∃ t g : Nat, t < 24 ∧ x = nI t ∧ prD D t = true ∧ g < 16 ∧ g < dG D ∧ z = nI g ∧ D 51 g = 0 ∧ hasB (D 46 t) (nI g) = true ∧ E = "java/lang/IllegalStateException")))) := by
  refine zMet.of' [some (zr (some (L 0))), some (zi x), some (zi z), none, none] hl0 (by decide) rfl (Nat.le_of_ble_eq_true rfl) rfl ?_
  intro X C N hR hN0 hX F
  subst hX
  obtain ⟨hX0, hV, hK, hU, hQ, hF⟩ := id hR1
  obtain ⟨hS, hT, hG, hRR, hLL, hA, hday, hpl, hO, hAc⟩ := id hX0
  have hb_0 : ∀ {s : Int32} {g : Nat}, s &&& bitI g = 0 → hasB s (nI g) = false := fun h => by simp only [hasB]; exact decide_eq_false (fun q => q h)
  have hb_1 : ∀ {s : Int32} {g : Nat}, ¬ s &&& bitI g = 0 → hasB s (nI g) = true := fun h => decide_eq_true h
  refine z_aload_n C rfl dX4_tag_0 ?_
  refine z_iload_n C rfl dX4_tag_1 ?_
  refine z_callC 1 [zi x] C rfl (C_needTrack hl0 hS x) rfl (zgoodV LWc_good wc157 wc158 wc159 wc58 wc160) rfl rfl rfl (by decide +kernel) rfl (by rw [hR]; exact ⟨Nat.le_of_ble_eq_true rfl, Nat.le_of_ble_eq_true rfl⟩) hS.c (by rw [hR]; exact ⟨Nat.le_of_ble_eq_true rfl, Nat.le_of_ble_eq_true rfl⟩) (Nat.le_of_ble_eq_true rfl) dX4_tag_2 (fun v2 S2 h2 => ?_) (fun E2 S2 h2 => ?_)
  · obtain ⟨a9, e2, rfl, q2⟩ := h2
    subst S2
    obtain ⟨t, ht2, ex2, ea2, hp2, k5, n16, n17, n18, n19, n20, n21⟩ := hT.some e2
    refine z_astore_n [_, _, _, _, _] C (by decide) rfl dX4_tag_5 ?_
    refine z_iconst 1 (by decide) C dX4_tag_6 ?_
    refine z_aload_n C rfl dX4_tag_7 ?_
    refine z_iload_n C rfl dX4_tag_8 ?_
    refine z_callC 1 [zi z] C rfl (C_needTag hl0 hS hG.k z) rfl (zgoodV LWc_good wc168 wc169 wc170 wc58 wc171) rfl rfl rfl (by decide +kernel) rfl (by rw [hR]; exact ⟨Nat.le_of_ble_eq_true rfl, Nat.le_of_ble_eq_true rfl⟩) hS.c (by rw [hR]; exact ⟨Nat.le_of_ble_eq_true rfl, Nat.le_of_ble_eq_true rfl⟩) (Nat.le_of_ble_eq_true rfl) dX4_tag_9 (fun v9 S9 h9 => ?_) (fun E9 S9 h9 => ?_)
    · obtain ⟨b9, e9, z9, rfl, q9⟩ := h9
      subst S9
      obtain ⟨g, hg9, hgG9, ex9, h51_9, hl9, ea9, k4_9, n10_9⟩ := tG_some hR1 e9 z9
      refine zg2_number C (fun w h => List.mem_cons_of_mem _ (uc_wsX20 w h)) k4_9 (List.mem_cons_of_mem _ wc61) dX4_tag_12 ?_
      refine z_int n10_9 ?_
      refine z_ishl C dX4_tag_15 ?_
      refine z_int (x' := bitI g) rfl ?_
      refine z_istore [_, _, _, _, _] C (by decide) rfl dX4_tag_16 ?_
      refine z_aload_n C rfl dX4_tag_18 ?_
      refine zg3_tagSet C (fun w h => List.mem_cons_of_mem _ (uc_wsX30 w h)) k5 (List.mem_cons_of_mem _ wc66) dX4_tag_19 ?_
      refine z_int n21 ?_
      refine z_iload C rfl dX4_tag_22 ?_
      refine z_iand C dX4_tag_24 ?_
      refine z_if_eq 38 C dX4_tag_25 (by decide) (fun c25 => ?_) (fun c25 => ?_)
      · refine z_aload_n C rfl dX4_tag_38 ?_
        refine z_aload_n C rfl dX4_tag_39 ?_
        refine z_aload_n C rfl dX4_tag_40 ?_
        refine zg3_tagSet C (fun w h => List.mem_cons_of_mem _ (uc_wsX30 w h)) k5 (List.mem_cons_of_mem _ wc66) dX4_tag_41 ?_
        refine z_int n21 ?_
        refine z_iload C rfl dX4_tag_44 ?_
        refine z_ior C dX4_tag_46 ?_
        refine z_callC 2 [zr (some a9), zi (D 46 t ||| bitI g)] C rfl (C_changeTags hl0 hR1 ht2 ea2 (D 46 t ||| bitI g)) rfl (zgoodV LWc_good wc172 wc173 wc174 wc58 wc175) rfl rfl rfl (by decide +kernel) rfl (by rw [hR]; exact ⟨Nat.le_of_ble_eq_true rfl, Nat.le_of_ble_eq_true rfl⟩) hS.c (by rw [hR]; exact ⟨Nat.le_of_ble_eq_true rfl, Nat.le_of_ble_eq_true rfl⟩) (Nat.le_of_ble_eq_true rfl) dX4_tag_47 (fun v47 S47 h47 => ?_) (fun E47 S47 h47 => ?_)
        · obtain ⟨rfl, q47⟩ := h47
          refine z_ireturn C F (Nat.le_of_ble_eq_true rfl) (Nat.le_of_ble_eq_true rfl) dX4_tag_50 ?_
          exact ⟨t, g, ht2, ex2, hp2, hg9, hgG9, ex9, h51_9, by first | exact hb_0 c25 | exact hb_1 c25, rfl, q47⟩
        · exact h47.elim
      · refine z_throwS (text := "the track has the tag") ["java/lang/RuntimeException", "java/lang/Exception"] C F N (by decide +kernel) (by decide +kernel) (List.mem_cons_of_mem _ wc141) (List.mem_cons_of_mem _ wc142) (by decide +kernel) (fun w h => List.mem_cons_of_mem _ (ac_1 w h)) bc_1 (by decide) (by decide +kernel) dX4_tag_28 dX4_tag_31 dX4_tag_32 dX4_tag_34 dX4_tag_37 (by rw [hR]; exact Nat.le_of_ble_eq_true rfl) (by rw [hR]; exact Nat.le_of_ble_eq_true rfl) (by rw [hR]; exact Nat.le_of_ble_eq_true rfl) (by rw [hR]; exact Nat.le_of_ble_eq_true rfl) (Nat.le_of_ble_eq_true rfl) (Nat.le_of_ble_eq_true rfl) ?_
        exact ⟨rfl, Or.inr ⟨t, g, ht2, ex2, hp2, hg9, hgG9, ex9, h51_9, by first | exact hb_0 c25 | exact hb_1 c25, rfl⟩⟩
    · obtain ⟨e9, rfl, q9⟩ := h9
      subst S9
      exact z_out C F N (Nat.le_of_ble_eq_true rfl) (Nat.le_of_ble_eq_true rfl) ⟨rfl, Or.inl ⟨fun q => tG_none hR1 e9 q.2, rfl⟩⟩
  · obtain ⟨e2, rfl, q2⟩ := h2
    subst S2
    exact z_out C F N (Nat.le_of_ble_eq_true rfl) (Nat.le_of_ble_eq_true rfl) ⟨rfl, Or.inl ⟨fun q => hT.none e2 q.1, rfl⟩⟩
set_option maxRecDepth 100000 in
set_option maxHeartbeats 4000000 in
theorem C_untag {l : Launch} (hl0 : l.stackTraces = false) {D : ZD} {J : Nat → Int64} {lk : ZL} {as : Nat → Nat} {S : ZM} {L T : Nat → Nat} (hR1 : cR D J lk as S L T) (x z : Int32) : zMet l yX4_untag (Cond.code yX4_untag cX4_untag 5 (some .int) :: LWc) ({ frames := 46, cells := 3, slots := 18, locals := 1023 } : Room) 3 18 [zr (some (L 0)), zi x, zi z] S (zPo (fun v S' => ∃ t g : Nat, t < 24 ∧ x = nI t ∧ prD D t = true ∧ g < 16 ∧ g < dG D ∧ z = nI g ∧ D 51 g = 0 ∧ hasB (D 46 t) (nI g) = true ∧ v = some (zi (bcJ (D 46 t &&& (bitI g ^^^ (-1))))) ∧ cR (chgD (opTags D t (D 46 t &&& (bitI g ^^^ (-1))))) J lk as S' L T) (fun E S' => S' = S ∧ ((¬ (hasTr D x ∧ hasTg D z) ∧ E = "java/util/NoSuchElementException") ∨ (∃ t g : Nat, t < 24 ∧ x = nI t ∧ prD D t = true ∧ g < 16 ∧ g < dG D ∧ z = nI g ∧ D 51 g = 0 ∧ hasB (D 46 t) (nI g) = false ∧ E = "java/lang/IllegalStateException")))) := by
  refine zMet.of' [some (zr (some (L 0))), some (zi x), some (zi z), none, none] hl0 (by decide) rfl (Nat.le_of_ble_eq_true rfl) rfl ?_
  intro X C N hR hN0 hX F
  subst hX
  obtain ⟨hX0, hV, hK, hU, hQ, hF⟩ := id hR1
  obtain ⟨hS, hT, hG, hRR, hLL, hA, hday, hpl, hO, hAc⟩ := id hX0
  have hb_0 : ∀ {s : Int32} {g : Nat}, s &&& bitI g = 0 → hasB s (nI g) = false := fun h => by simp only [hasB]; exact decide_eq_false (fun q => q h)
  have hb_1 : ∀ {s : Int32} {g : Nat}, ¬ s &&& bitI g = 0 → hasB s (nI g) = true := fun h => decide_eq_true h
  refine z_aload_n C rfl dX4_untag_0 ?_
  refine z_iload_n C rfl dX4_untag_1 ?_
  refine z_callC 1 [zi x] C rfl (C_needTrack hl0 hS x) rfl (zgoodV LWc_good wc157 wc158 wc159 wc58 wc160) rfl rfl rfl (by decide +kernel) rfl (by rw [hR]; exact ⟨Nat.le_of_ble_eq_true rfl, Nat.le_of_ble_eq_true rfl⟩) hS.c (by rw [hR]; exact ⟨Nat.le_of_ble_eq_true rfl, Nat.le_of_ble_eq_true rfl⟩) (Nat.le_of_ble_eq_true rfl) dX4_untag_2 (fun v2 S2 h2 => ?_) (fun E2 S2 h2 => ?_)
  · obtain ⟨a9, e2, rfl, q2⟩ := h2
    subst S2
    obtain ⟨t, ht2, ex2, ea2, hp2, k5, n16, n17, n18, n19, n20, n21⟩ := hT.some e2
    refine z_astore_n [_, _, _, _, _] C (by decide) rfl dX4_untag_5 ?_
    refine z_iconst 1 (by decide) C dX4_untag_6 ?_
    refine z_aload_n C rfl dX4_untag_7 ?_
    refine z_iload_n C rfl dX4_untag_8 ?_
    refine z_callC 1 [zi z] C rfl (C_needTag hl0 hS hG.k z) rfl (zgoodV LWc_good wc168 wc169 wc170 wc58 wc171) rfl rfl rfl (by decide +kernel) rfl (by rw [hR]; exact ⟨Nat.le_of_ble_eq_true rfl, Nat.le_of_ble_eq_true rfl⟩) hS.c (by rw [hR]; exact ⟨Nat.le_of_ble_eq_true rfl, Nat.le_of_ble_eq_true rfl⟩) (Nat.le_of_ble_eq_true rfl) dX4_untag_9 (fun v9 S9 h9 => ?_) (fun E9 S9 h9 => ?_)
    · obtain ⟨b9, e9, z9, rfl, q9⟩ := h9
      subst S9
      obtain ⟨g, hg9, hgG9, ex9, h51_9, hl9, ea9, k4_9, n10_9⟩ := tG_some hR1 e9 z9
      refine zg2_number C (fun w h => List.mem_cons_of_mem _ (uc_wsX20 w h)) k4_9 (List.mem_cons_of_mem _ wc61) dX4_untag_12 ?_
      refine z_int n10_9 ?_
      refine z_ishl C dX4_untag_15 ?_
      refine z_int (x' := bitI g) rfl ?_
      refine z_istore [_, _, _, _, _] C (by decide) rfl dX4_untag_16 ?_
      refine z_aload_n C rfl dX4_untag_18 ?_
      refine zg3_tagSet C (fun w h => List.mem_cons_of_mem _ (uc_wsX30 w h)) k5 (List.mem_cons_of_mem _ wc66) dX4_untag_19 ?_
      refine z_int n21 ?_
      refine z_iload C rfl dX4_untag_22 ?_
      refine z_iand C dX4_untag_24 ?_
      refine z_if_ne 38 C dX4_untag_25 (by decide) (fun c25 => ?_) (fun c25 => ?_)
      · refine z_aload_n C rfl dX4_untag_38 ?_
        refine z_aload_n C rfl dX4_untag_39 ?_
        refine z_aload_n C rfl dX4_untag_40 ?_
        refine zg3_tagSet C (fun w h => List.mem_cons_of_mem _ (uc_wsX30 w h)) k5 (List.mem_cons_of_mem _ wc66) dX4_untag_41 ?_
        refine z_int n21 ?_
        refine z_iload C rfl dX4_untag_44 ?_
        refine z_iconst (-1) (by decide) C dX4_untag_46 ?_
        refine z_ixor C dX4_untag_47 ?_
        refine z_iand C dX4_untag_48 ?_
        refine z_callC 2 [zr (some a9), zi (D 46 t &&& (bitI g ^^^ (-1)))] C rfl (C_changeTags hl0 hR1 ht2 ea2 (D 46 t &&& (bitI g ^^^ (-1)))) rfl (zgoodV LWc_good wc172 wc173 wc174 wc58 wc175) rfl rfl rfl (by decide +kernel) rfl (by rw [hR]; exact ⟨Nat.le_of_ble_eq_true rfl, Nat.le_of_ble_eq_true rfl⟩) hS.c (by rw [hR]; exact ⟨Nat.le_of_ble_eq_true rfl, Nat.le_of_ble_eq_true rfl⟩) (Nat.le_of_ble_eq_true rfl) dX4_untag_49 (fun v49 S49 h49 => ?_) (fun E49 S49 h49 => ?_)
        · obtain ⟨rfl, q49⟩ := h49
          refine z_ireturn C F (Nat.le_of_ble_eq_true rfl) (Nat.le_of_ble_eq_true rfl) dX4_untag_52 ?_
          exact ⟨t, g, ht2, ex2, hp2, hg9, hgG9, ex9, h51_9, by first | exact hb_0 c25 | exact hb_1 c25, rfl, q49⟩
        · exact h49.elim
      · refine z_throwS (text := "the track does not have the tag") ["java/lang/RuntimeException", "java/lang/Exception"] C F N (by decide +kernel) (by decide +kernel) (List.mem_cons_of_mem _ wc141) (List.mem_cons_of_mem _ wc142) (by decide +kernel) (fun w h => List.mem_cons_of_mem _ (ac_1 w h)) bc_1 (by decide) (by decide +kernel) dX4_untag_28 dX4_untag_31 dX4_untag_32 dX4_untag_34 dX4_untag_37 (by rw [hR]; exact Nat.le_of_ble_eq_true rfl) (by rw [hR]; exact Nat.le_of_ble_eq_true rfl) (by rw [hR]; exact Nat.le_of_ble_eq_true rfl) (by rw [hR]; exact Nat.le_of_ble_eq_true rfl) (Nat.le_of_ble_eq_true rfl) (Nat.le_of_ble_eq_true rfl) ?_
        exact ⟨rfl, Or.inr ⟨t, g, ht2, ex2, hp2, hg9, hgG9, ex9, h51_9, by first | exact hb_0 c25 | exact hb_1 c25, rfl⟩⟩
    · obtain ⟨e9, rfl, q9⟩ := h9
      subst S9
      exact z_out C F N (Nat.le_of_ble_eq_true rfl) (Nat.le_of_ble_eq_true rfl) ⟨rfl, Or.inl ⟨fun q => tG_none hR1 e9 q.2, rfl⟩⟩
  · obtain ⟨e2, rfl, q2⟩ := h2
    subst S2
    exact z_out C F N (Nat.le_of_ble_eq_true rfl) (Nat.le_of_ble_eq_true rfl) ⟨rfl, Or.inl ⟨fun q => hT.none e2 q.1, rfl⟩⟩
