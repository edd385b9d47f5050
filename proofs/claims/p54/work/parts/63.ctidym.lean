/-! the class: tidy, undoTidy -/
/-- the memory is as it was, but for the row A and the tracks' tags -/
def mvP (S S' : ZM) (L : Nat → Nat) (A : Nat) (f : Nat → Int32) : Prop :=
  mK S' = mK S ∧ mN S' = mN S ∧ mJ S' = mJ S ∧ tQ S' = tQ S ∧ mQ S' = mQ S ∧ (∀ b : Nat, b ≠ A → tI S' b = tI S b) ∧
  (∀ k b : Nat, k ≠ 21 ∨ mK S b ≠ 5 → mI S' k b = mI S k b) ∧ (∀ j a : Nat, j < 24 → tQ S (L 1) j = some a → mI S' 21 a = f j)
theorem mvP.row {S S' : ZM} {L : Nat → Nat} {A : Nat} {f : Nat → Int32} (h : mvP S S' L A f) (i : Nat) (v : Int32) : mvP S (eI S' A i v) L A f := by
  obtain ⟨h1, h2, h3, h4, h5, h6, h7, h8⟩ := h
  refine ⟨h1, h2, h3, h4, h5, fun b hb => ?_, h7, h8⟩
  show up2 S'.2.2.2.2.2.1 A i v b = _
  rw [up2f hb]; exact h6 b hb
theorem mvP.to {S S' : ZM} {L : Nat → Nat} {A : Nat} {f g : Nat → Int32} (h : mvP S S' L A f) (e : ∀ j a : Nat, j < 24 → tQ S (L 1) j = some a → f j = g j) : mvP S S' L A g := by
  obtain ⟨h1, h2, h3, h4, h5, h6, h7, h8⟩ := h
  exact ⟨h1, h2, h3, h4, h5, h6, h7, fun j a hj ha => (h8 j a hj ha).trans (e j a hj ha)⟩
theorem mvP.trk {D : ZD} {S S' : ZM} {L : Nat → Nat} {A : Nat} {f : Nat → Int32} (h : mvP S S' L A f) (hT : rT D S L) {i a : Nat} (hi : i < 24) (ha : tQ S (L 1) i = some a) (v : Int32) : mvP S (sI S' 21 a v) L A (fun j => if j = i then v else f j) := by
  obtain ⟨h1, h2, h3, h4, h5, h6, h7, h8⟩ := h
  have k5 := (hT.at hi ha).2.1
  refine ⟨h1, h2, h3, h4, h5, h6, fun k b q => ?_, fun j b hj hb => ?_⟩
  · rcases q with q | q
    · exact (mI_sI_k q).trans (h7 k b (Or.inl q))
    · exact (mI_sI_ne (fun z => q (by rw [z]; exact k5))).trans (h7 k b (Or.inr q))
  · show _ = if j = i then v else f j
    by_cases q : j = i
    · rw [if_pos q]; subst q
      have : b = a := by rw [ha] at hb; exact (Option.some.inj hb).symm
      subst this
      exact mI_sI _ _ _ _
    · rw [if_neg q]
      refine (mI_sI_ne (fun z => ?_)).trans (h8 j b hj hb)
      subst z
      have e1 := (hT.at hj hb).2.2.1
      have e2 := (hT.at hi ha).2.2.1
      exact q (nI_inj (by omega) (by omega) (e1.symm.trans e2))
theorem mvP.refl {D : ZD} {S : ZM} {L : Nat → Nat} (hT : rT D S L) (A : Nat) {f : Nat → Int32} (hf : ∀ j : Nat, j < 24 → D 46 j = f j) : mvP S S L A f :=
  ⟨rfl, rfl, rfl, rfl, rfl, fun _ _ => rfl, fun _ _ _ => rfl, fun j a hj ha => (hT.at hj ha).2.2.2.2.2.2.2.trans (hf j hj)⟩
theorem mvP.cS {S S' : ZM} {L : Nat → Nat} {A : Nat} {f : Nat → Int32} (h : mvP S S' L A f) (hS : cS S L) : cS S' L := hS.same h.1 h.2.1 (fun _ _ => by rw [h.2.2.2.2.1]) h.2.2.2.1
theorem mvP.tg {S S1 S' : ZM} {L : Nat → Nat} {A bo : Nat} {f : Nat → Int32} {v13 v15 v35 : Option Nat} (h : mvP S1 S' L A f) (hK : mK S1 = mK S) (hN : mN S1 = mN S) (hJ : mJ S1 = mJ S) (hQ : tQ S1 = tQ S) (hT : tI S1 = tI S) (hI : mI S1 = mI S)
    (hF : ∀ k b : Nat, ¬ (k = 13 ∧ b = bo) → ¬ (k = 15 ∧ b = bo) → ¬ (k = 35 ∧ b = L 0) → mQ S1 k b = mQ S k b) (h13 : mQ S1 13 bo = v13) (h15 : mQ S1 15 bo = v15) (h35 : mQ S1 35 (L 0) = v35) : tgP S S' L A bo f v13 v15 v35 := by
  obtain ⟨h1, h2, h3, h4, h5, h6, h7, h8⟩ := h
  refine ⟨h1.trans hK, h2.trans hN, h3.trans hJ, h4.trans hQ, fun b hb => by rw [h6 b hb, hT], fun k b q => ?_, fun j a hj ha => h8 j a hj (by rw [hQ]; exact ha), ?_, ?_, ?_, ?_⟩
  · rw [h7 k b (by rw [hK]; exact q), hI]
  · rw [h5]; exact hF
  · rw [h5]; exact h13
  · rw [h5]; exact h15
  · rw [h5]; exact h35
theorem cnF_s0 {p : Nat → Bool} {i : Nat} (h : p i = false) : cnF p (i + 1) = cnF p i := by simp only [cnF]; rw [h]; rfl
theorem cnF_s1 {p : Nat → Bool} {i : Nat} (h : p i = true) : cnF p (i + 1) = cnF p i + 1 := by simp only [cnF]; rw [h]; rfl
theorem up2_ne2 {α : Type} {f : Nat → Nat → α} {k a k' a' : Nat} {v : α} (h : ¬ (k' = k ∧ a' = a)) : up2 f k a v k' a' = f k' a' := by
  unfold up2
  by_cases e : k' = k
  · rw [if_pos e, if_neg (fun q => h ⟨e, q⟩)]
  · rw [if_neg e]
theorem fN_up {f g : Nat → Int32} {i j : Nat} (h : j = i → f j = g j) : (if j < i + 1 then f j else g j) = if j < i then f j else g j := by
  by_cases q : j = i
  · subst q; rw [if_pos (by omega), if_neg (by omega)]; exact h rfl
  · by_cases z : j < i
    · rw [if_pos z, if_pos (by omega)]
    · rw [if_neg z, if_neg (by omega)]
theorem fN_up1 {f g : Nat → Int32} {i j : Nat} : (if j < i + 1 then f j else g j) = if j = i then f i else (if j < i then f j else g j) := by
  by_cases q : j = i
  · subst q; rw [if_pos (by omega), if_pos rfl]
  · rw [if_neg q]
    by_cases z : j < i
    · rw [if_pos z, if_pos (by omega)]
    · rw [if_neg z, if_neg (by omega)]
theorem up2_rows {S' : ZM} {A i : Nat} {v : Int32} {p : Nat → Bool} {g : Nat → Int32} (h : ∀ j : Nat, j < i → tI S' A j = if p j = true then g j else 0) (hv : v = if p i = true then g i else 0) : ∀ j : Nat, j < i + 1 → tI (eI S' A i v) A j = if p j = true then g j else 0 := by
  intro j hj
  show up2 S'.2.2.2.2.2.1 A i v A j = _
  by_cases q : j = i
  · subst q; rw [up2_self]; exact hv
  · rw [up2_a q]; exact h j (by omega)

set_option maxRecDepth 100000 in
set_option maxHeartbeats 4000000 in
theorem C_moveTag {l : Launch} (hl0 : l.stackTraces = false) {D : ZD} {S : ZM} {L : Nat → Nat} (hS : cS S L) (hT : rT D S L) {bs bg A t o : Nat} (ks : mK S bs = 4) (ns : mI S 10 bs = nI t) (kg : mK S bg = 4) (ng : mI S 10 bg = nI o) (hA : mQ S 14 bg = some A) (kA : mK S A = 10) (lA : mN S A = 24) : zMet l yX4_moveTag (Cond.code yX4_moveTag cX4_moveTag 6 (some .int) :: LWc) ({ frames := 1, cells := 0, slots := 0, locals := 21 } : Room) 0 0 [zr (some (L 0)), zr (some bs), zr (some bg)] S (zPo (fun v S' => v = some (zi (nI (cnF (fun j => prD D j && hasB (D 46 j) (nI o)) 24))) ∧ mvP S S' L A (mvD D t o) ∧ ∀ j : Nat, j < 24 → tI S' A j = if prD D j = true then D 46 j else 0) (fun _ _ => False)) := by
  refine zMet.of' [some (zr (some (L 0))), some (zr (some bs)), some (zr (some bg)), none, none, none] hl0 (by decide) rfl (Nat.le_of_ble_eq_true rfl) rfl ?_
  intro X C N hR hN0 hX F
  subst hX
  have loop : ∀ (m i : Nat) (S1 : ZM) (w5 : Option ZV), i + m = 24 → mvP S S1 L A (fun j => if j < i then mvD D t o j else D 46 j) → (∀ j : Nat, j < i → tI S1 A j = if prD D j = true then D 46 j else 0) → zW X 6 0 0 S1 5 [some (zr (some (L 0))), some (zr (some bs)), some (zr (some bg)), some (zi (nI (cnF (fun j => prD D j && hasB (D 46 j) (nI o)) i))), some (zi (nI i)), w5] [] := by
    intro m
    induction m with
    | zero =>
      intro i S1 w5 hi hM hB
      obtain rfl : i = 24 := by omega
      refine z_iload C rfl dX4_moveTag_5 ?_
      refine z_bipush 24 (by decide) C dX4_moveTag_7 ?_
      refine z_icmp_ge 96 C dX4_moveTag_9 (by decide) (fun c9 => ?_) (fun c9 => ?_)
      · refine z_iload_n C rfl dX4_moveTag_96 ?_
        refine z_ireturn C F (Nat.le_of_ble_eq_true rfl) (Nat.le_of_ble_eq_true rfl) dX4_moveTag_97 ?_
        exact ⟨rfl, hM.to (fun j a hj _ => if_pos hj), hB⟩
      · exact absurd (by decide) c9
    | succ m ih =>
      intro i S1 w5 hi hM hB
      have hi24 : i < 24 := by omega
      obtain ⟨e1, e2, e3, e4, e5, e6, e7, e8⟩ := id hM
      have hS1 : cS S1 L := hM.cS hS
      have n1 : mI S1 10 bs = nI t := (e7 10 bs (Or.inl (by decide))).trans ns
      have n2 : mI S1 10 bg = nI o := (e7 10 bg (Or.inl (by decide))).trans ng
      have kA1 : mK S1 A = 10 := by rw [e1]; exact kA
      have lA1 : mN S1 A = 24 := by rw [e2]; exact lA
      refine z_iload C rfl dX4_moveTag_5 ?_
      refine z_bipush 24 (by decide) C dX4_moveTag_7 ?_
      refine z_icmp_ge 96 C dX4_moveTag_9 (by decide) (fun c9 => ?_) (fun c9 => ?_)
      · exact absurd c9 (n24 hi24)
      · refine z_aload_n C rfl dX4_moveTag_12 ?_
        refine z_iload C rfl dX4_moveTag_13 ?_
        refine z_callC 1 [zi (nI i)] C rfl (C_trackOrNull hl0 hS1 (nI i)) rfl (zgoodV LWc_good wc55 wc56 wc57 wc58 wc59) rfl rfl rfl (by decide +kernel) rfl (by rw [hR]; exact ⟨Nat.le_of_ble_eq_true rfl, Nat.le_of_ble_eq_true rfl⟩) hS1.c (by rw [hR]; exact ⟨Nat.le_of_ble_eq_true rfl, Nat.le_of_ble_eq_true rfl⟩) (Nat.le_of_ble_eq_true rfl) dX4_moveTag_15 (fun v15 S15 h15 => ?_) (fun E15 S15 h15 => ?_)
        · obtain ⟨rfl, q15⟩ := h15
          subst S15
          refine z_ref ((cAt_nI hi24 (by decide)).trans (congrFun (congrFun e4 (L 1)) i)) ?_
          refine z_astore [_, _, _, _, _, _] C (by decide) rfl dX4_moveTag_18 ?_
          refine z_aload_n C rfl dX4_moveTag_20 ?_
          refine zg2_tagSetsAhead C (fun w h => List.mem_cons_of_mem _ (uc_wsX20 w h)) (by rw [e1]; exact kg) (List.mem_cons_of_mem _ wc180) dX4_moveTag_21 ?_
          refine z_ref ((congrFun (congrFun e5 14) bg).trans hA) ?_
          refine z_iload C rfl dX4_moveTag_24 ?_
          refine z_aload C rfl dX4_moveTag_26 ?_
          refine z_ifnonnull 35 C dX4_moveTag_28 (by decide) (fun a28 c28 => ?_) (fun c28 => ?_)
          · obtain ⟨hp, k5, -, -, -, -, -, x21⟩ := hT.at hi24 c28
            have K3 : mK S1 a28 = 5 := by rw [e1]; exact k5
            have hx : mI S1 21 a28 = D 46 i := (e8 i a28 hi24 c28).trans (if_neg (Nat.lt_irrefl i))
            refine z_aload C rfl dX4_moveTag_35 ?_
            refine z_ref c28 ?_
            refine zg3_tagSet C (fun w h => List.mem_cons_of_mem _ (uc_wsX30 w h)) K3 (List.mem_cons_of_mem _ wc66) dX4_moveTag_37 ?_
            refine z_int hx ?_
            refine z_iastore C kA1 (by rw [lA1]; exact vp_in_nI hi24 (by decide)) dX4_moveTag_40 ?_
            refine z_mem (S' := eI S1 A i (D 46 i)) (by rw [nI_clamp (by omega)]) ?_
            refine z_aload C rfl dX4_moveTag_41 ?_
            refine z_ref c28 ?_
            refine z_ifnull 90 C dX4_moveTag_43 (by decide) (fun c43 => ?_) (fun a43 c43 => ?_)
            · first | exact absurd c43 nofun | exact absurd (c28.symm.trans c43) nofun
            · refine z_aload C rfl dX4_moveTag_46 ?_
              refine z_ref c28 ?_
              refine zg3_tagSet C (fun w h => List.mem_cons_of_mem _ (uc_wsX30 w h)) K3 (List.mem_cons_of_mem _ wc66) dX4_moveTag_48 ?_
              refine z_int hx ?_
              refine z_aload_n C rfl dX4_moveTag_51 ?_
              refine zg2_number C (fun w h => List.mem_cons_of_mem _ (uc_wsX20 w h)) (by rw [e1]; exact kg) (List.mem_cons_of_mem _ wc61) dX4_moveTag_52 ?_
              refine z_int n2 ?_
              refine z_callS 2 [zi (D 46 i), zi (nI o)] C (C_hasBit hl0 (D 46 i) (nI o)) rfl (zgoodS LWc_good wc102 wc103 wc58 wc104) rfl rfl rfl (by decide +kernel) rfl (by rw [hR]; exact ⟨Nat.le_of_ble_eq_true rfl, Nat.le_of_ble_eq_true rfl⟩) (by rw [hR]; exact ⟨Nat.le_of_ble_eq_true rfl, Nat.le_of_ble_eq_true rfl⟩) (Nat.le_of_ble_eq_true rfl) dX4_moveTag_55 (fun v55 S55 h55 => ?_) (fun E55 S55 h55 => ?_)
              · obtain ⟨rfl, q55⟩ := h55
                subst S55
                refine z_if_eq 90 C dX4_moveTag_58 (by decide) (fun c58 => ?_) (fun c58 => ?_)
                · refine z_inc (1) [_, _, _, _, _, _] C rfl (by decide) (by decide) rfl dX4_moveTag_90 ?_
                  refine z_goto 5 C dX4_moveTag_93 (by decide) ?_
                  have hc : (prD D i && hasB (D 46 i) (nI o)) = false := by rw [bI_eq.mp c58, Bool.and_false]
                  have q := ih (i + 1) (eI S1 A i (D 46 i)) (some (zr (tQ S (L 1) i))) (by omega) ((hM.row i _).to (fun j a hj ha => (fN_up (fun z => by subst z; unfold mvD; rw [bI_eq.mp c58]; exact if_neg Bool.false_ne_true)).symm)) (up2_rows hB (by rw [hp]; exact (if_pos rfl).symm))
                  rw [cnF_s0 (p := (fun j => prD D j && hasB (D 46 j) (nI o))) hc, nI_succ] at q
                  exact q
                · refine z_aload C rfl dX4_moveTag_61 ?_
                  refine z_ref c28 ?_
                  refine z_aload C rfl dX4_moveTag_63 ?_
                  refine z_ref c28 ?_
                  refine zg3_tagSet C (fun w h => List.mem_cons_of_mem _ (uc_wsX30 w h)) K3 (List.mem_cons_of_mem _ wc66) dX4_moveTag_65 ?_
                  refine z_int hx ?_
                  refine z_iconst 1 (by decide) C dX4_moveTag_68 ?_
                  refine z_aload_n C rfl dX4_moveTag_69 ?_
                  refine zg2_number C (fun w h => List.mem_cons_of_mem _ (uc_wsX20 w h)) (by rw [e1]; exact kg) (List.mem_cons_of_mem _ wc61) dX4_moveTag_70 ?_
                  refine z_int n2 ?_
                  refine z_ishl C dX4_moveTag_73 ?_
                  refine z_iconst (-1) (by decide) C dX4_moveTag_74 ?_
                  refine z_ixor C dX4_moveTag_75 ?_
                  refine z_iand C dX4_moveTag_76 ?_
                  refine z_iconst 1 (by decide) C dX4_moveTag_77 ?_
                  refine z_aload_n C rfl dX4_moveTag_78 ?_
                  refine zg2_number C (fun w h => List.mem_cons_of_mem _ (uc_wsX20 w h)) (by rw [e1]; exact ks) (List.mem_cons_of_mem _ wc61) dX4_moveTag_79 ?_
                  refine z_int n1 ?_
                  refine z_ishl C dX4_moveTag_82 ?_
                  refine z_ior C dX4_moveTag_83 ?_
                  refine zp3_tagSet C (fun w h => List.mem_cons_of_mem _ (uc_wsX30 w h)) K3 (List.mem_cons_of_mem _ wc66) dX4_moveTag_84 ?_
                  refine z_inc (1) [_, _, _, _, _, _] C rfl (by decide) (by decide) rfl dX4_moveTag_87 ?_
                  refine z_inc (1) [_, _, _, _, _, _] C rfl (by decide) (by decide) rfl dX4_moveTag_90 ?_
                  refine z_goto 5 C dX4_moveTag_93 (by decide) ?_
                  have hb : hasB (D 46 i) (nI o) = true := bI_ne.mp c58
                  have hc : (prD D i && hasB (D 46 i) (nI o)) = true := by rw [hp, hb]; rfl
                  have q := ih (i + 1) (sI (eI S1 A i (D 46 i)) 21 a28 (mvD D t o i)) (some (zr (tQ S (L 1) i))) (by omega) (((hM.row i _).trk hT hi24 c28 _).to (fun j a hj ha => fN_up1.symm)) (up2_rows hB (by rw [hp]; exact (if_pos rfl).symm))
                  rw [cnF_s1 (p := (fun j => prD D j && hasB (D 46 j) (nI o))) hc, nI_succ, nI_succ, show mvD D t o i = _ from if_pos hb] at q
                  exact q
              · exact h55.elim
          · have hp : prD D i = false := tr_no hT hi24 c28
            refine z_iconst 0 (by decide) C dX4_moveTag_31 ?_
            refine z_goto 40 C dX4_moveTag_32 (by decide) ?_
            refine z_iastore C kA1 (by rw [lA1]; exact vp_in_nI hi24 (by decide)) dX4_moveTag_40 ?_
            refine z_mem (S' := eI S1 A i (0)) (by rw [nI_clamp (by omega)]) ?_
            refine z_aload C rfl dX4_moveTag_41 ?_
            refine z_ref c28 ?_
            refine z_ifnull 90 C dX4_moveTag_43 (by decide) (fun c43 => ?_) (fun a43 c43 => ?_)
            · refine z_inc (1) [_, _, _, _, _, _] C rfl (by decide) (by decide) rfl dX4_moveTag_90 ?_
              refine z_goto 5 C dX4_moveTag_93 (by decide) ?_
              have hc : (prD D i && hasB (D 46 i) (nI o)) = false := by rw [hp]; rfl
              have q := ih (i + 1) (eI S1 A i 0) (some (zr (tQ S (L 1) i))) (by omega) ((hM.row i _).to (fun j a hj ha => (fN_up (fun z => by subst z; rw [c28] at ha; cases ha)).symm)) (up2_rows hB (by rw [hp]; exact (if_neg Bool.false_ne_true).symm))
              rw [cnF_s0 (p := (fun j => prD D j && hasB (D 46 j) (nI o))) hc, nI_succ] at q
              exact q
            · first | exact absurd c43 nofun | exact absurd (c28.symm.trans c43) nofun
        · exact h15.elim
  refine z_iconst 0 (by decide) C dX4_moveTag_0 ?_
  refine z_istore_n [_, _, _, _, _, _] C (by decide) rfl dX4_moveTag_1 ?_
  refine z_iconst 0 (by decide) C dX4_moveTag_2 ?_
  refine z_istore [_, _, _, _, _, _] C (by decide) rfl dX4_moveTag_3 ?_
  exact loop 24 0 S none rfl (mvP.refl hT A (fun j _ => (if_neg (Nat.not_lt_zero j)).symm)) (fun j hj => absurd hj (Nat.not_lt_zero j))
set_option maxRecDepth 100000 in
set_option maxHeartbeats 4000000 in
theorem C_tidy {l : Launch} (hl0 : l.stackTraces = false) {D : ZD} {J : Nat → Int64} {lk : ZL} {as : Nat → Nat} {S : ZM} {L T : Nat → Nat} (hR1 : cR D J lk as S L T) (x y : Int32) {J1 : Nat → Int64} (hJ : ∀ k : Nat, k < dU D → J1 k = J k) (hJ1 : ∀ r : Nat, bJ (J1 (dU D)) r = true ↔ r < dR D ∧ D 53 r = 0 ∧ D 54 r = y) : zMet l yX4_tidy (Cond.code yX4_tidy cX4_tidy 6 (some .int) :: LWc) ({ frames := 45, cells := 3, slots := 18, locals := 1001 } : Room) 3 18 [zr (some (L 0)), zi x, zi y] S (zPo (fun v S' => ∃ t o : Nat, t < 16 ∧ t < dG D ∧ x = nI t ∧ D 51 t = 0 ∧ o < 16 ∧ o < dG D ∧ y = nI o ∧ D 51 o = 0 ∧ t ≠ o ∧ nI (lvD D t o) ≤ 1 ∧ v = some (zi (nI (cnF (fun j => prD D j && hasB (D 46 j) (nI o)) 24))) ∧ cR (chgD (opTidy D t o)) J1 ((o, t) :: lk) as S' L T) (fun E S' => cR D J lk as S' L T ∧ ((¬ (hasTg D x ∧ hasTg D y) ∧ E = "java/util/NoSuchElementException") ∨ (∃ t o : Nat, t < 16 ∧ t < dG D ∧ x = nI t ∧ D 51 t = 0 ∧ o < 16 ∧ o < dG D ∧ y = nI o ∧ D 51 o = 0 ∧ t = o ∧ E = "java/lang/IllegalArgumentException") ∨ (∃ t o : Nat, t < 16 ∧ t < dG D ∧ x = nI t ∧ D 51 t = 0 ∧ o < 16 ∧ o < dG D ∧ y = nI o ∧ D 51 o = 0 ∧ t ≠ o ∧ ¬ nI (lvD D t o) ≤ 1 ∧ E = "java/lang/UnsupportedOperationException")))) := by
  refine zMet.of' [some (zr (some (L 0))), some (zi x), some (zi y), none, none, none] hl0 (by decide) rfl (Nat.le_of_ble_eq_true rfl) rfl ?_
  intro X C N hR hN0 hX F
  subst hX
  obtain ⟨hX0, hV, hK, hU, hQ, hF⟩ := id hR1
  obtain ⟨hS, hT, hG, hRR, hLL, hA, hday, hpl, hO, hAc⟩ := id hX0
  refine z_aload_n C rfl dX4_tidy_0 ?_
  refine z_iload_n C rfl dX4_tidy_1 ?_
  refine z_callC 1 [zi x] C rfl (C_needTag hl0 hS hG.k x) rfl (zgoodV LWc_good wc168 wc169 wc170 wc58 wc171) rfl rfl rfl (by decide +kernel) rfl (by rw [hR]; exact ⟨Nat.le_of_ble_eq_true rfl, Nat.le_of_ble_eq_true rfl⟩) hS.c (by rw [hR]; exact ⟨Nat.le_of_ble_eq_true rfl, Nat.le_of_ble_eq_true rfl⟩) (Nat.le_of_ble_eq_true rfl) dX4_tidy_2 (fun v2 S2 h2 => ?_) (fun E2 S2 h2 => ?_)
  · obtain ⟨bs, e2, z2, rfl, q2⟩ := h2
    subst S2
    obtain ⟨t, hg2, hgG2, ex2, h51_2, hl2, ea2, k4_2, n10_2⟩ := tG_some hR1 e2 z2
    refine z_astore_n [_, _, _, _, _, _] C (by decide) rfl dX4_tidy_5 ?_
    refine z_aload_n C rfl dX4_tidy_6 ?_
    refine z_iload_n C rfl dX4_tidy_7 ?_
    refine z_callC 1 [zi y] C rfl (C_needTag hl0 hS hG.k y) rfl (zgoodV LWc_good wc168 wc169 wc170 wc58 wc171) rfl rfl rfl (by decide +kernel) rfl (by rw [hR]; exact ⟨Nat.le_of_ble_eq_true rfl, Nat.le_of_ble_eq_true rfl⟩) hS.c (by rw [hR]; exact ⟨Nat.le_of_ble_eq_true rfl, Nat.le_of_ble_eq_true rfl⟩) (Nat.le_of_ble_eq_true rfl) dX4_tidy_8 (fun v8 S8 h8 => ?_) (fun E8 S8 h8 => ?_)
    · obtain ⟨bg, e8, z8, rfl, q8⟩ := h8
      subst S8
      obtain ⟨o, hg8, hgG8, ex8, h51_8, hl8, ea8, k4_8, n10_8⟩ := tG_some hR1 e8 z8
      refine z_astore [_, _, _, _, _, _] C (by decide) rfl dX4_tidy_11 ?_
      refine z_aload_n C rfl dX4_tidy_13 ?_
      refine zg2_number C (fun w h => List.mem_cons_of_mem _ (uc_wsX20 w h)) k4_2 (List.mem_cons_of_mem _ wc61) dX4_tidy_14 ?_
      refine z_int n10_2 ?_
      refine z_aload C rfl dX4_tidy_17 ?_
      refine zg2_number C (fun w h => List.mem_cons_of_mem _ (uc_wsX20 w h)) k4_8 (List.mem_cons_of_mem _ wc61) dX4_tidy_19 ?_
      refine z_int n10_8 ?_
      refine z_icmp_ne 35 C dX4_tidy_22 (by decide) (fun c22 => ?_) (fun c22 => ?_)
      · have hto : t ≠ o := fun q => c22 (by rw [q])
        refine z_aload_n C rfl dX4_tidy_35 ?_
        refine z_aload_n C rfl dX4_tidy_36 ?_
        refine z_aload C rfl dX4_tidy_37 ?_
        refine z_callC 2 [zr (some bs), zr (some bg)] C rfl (C_distanceByTable hl0 (rG.tg hR1 hgG2 ea2).1 (rG.tg hR1 hgG8 ea8).1 hS) rfl (zgoodV LWc_good wc184 wc185 wc186 wc58 wc187) rfl rfl rfl (by decide +kernel) rfl (by rw [hR]; exact ⟨Nat.le_of_ble_eq_true rfl, Nat.le_of_ble_eq_true rfl⟩) hS.c (by rw [hR]; exact ⟨Nat.le_of_ble_eq_true rfl, Nat.le_of_ble_eq_true rfl⟩) (Nat.le_of_ble_eq_true rfl) dX4_tidy_39 (fun v39 S39 h39 => ?_) (fun E39 S39 h39 => ?_)
        · obtain ⟨rfl, Tb, q39, hTb⟩ := h39
          subst S39
          refine z_int (x' := nI (lvD D t o)) rfl ?_
          refine z_iconst 1 (by decide) C dX4_tidy_42 ?_
          refine z_icmp_le 56 C dX4_tidy_43 (by decide) (fun c43 => ?_) (fun c43 => ?_)
          · have hRd := hR1.sT hTb
            obtain ⟨Sd, hSdE⟩ : ∃ z : ZM, z = sT S Tb := ⟨_, rfl⟩
            rw [← hSdE] at hRd
            rw [← hSdE]
            have ea2 : tQ Sd (L 2) t = some bs := by rw [hSdE]; exact ea2
            have ea8 : tQ Sd (L 2) o = some bg := by rw [hSdE]; exact ea8
            have k4_2 : mK Sd bs = 4 := by rw [hSdE]; exact k4_2
            have k4_8 : mK Sd bg = 4 := by rw [hSdE]; exact k4_8
            have n10_2 : mI Sd 10 bs = nI t := by rw [hSdE]; exact n10_2
            have n10_8 : mI Sd 10 bg = nI o := by rw [hSdE]; exact n10_8
            have hSd : cS Sd L := hRd.1.1
            have hS1 : cS (sQ (sQ (sQ Sd 13 bg (some bs)) 15 bg (mQ Sd 35 (L 0))) 35 (L 0) (some bg)) L := hSd.same rfl rfl (fun k hk => by
              have n6 : L 0 ≠ bg := fun q => by have := hSd.c; rw [q, k4_8] at this; cases this
              show up2 (up2 (up2 Sd.2.2.1 13 bg (some bs)) 15 bg (mQ Sd 35 (L 0))) 35 (L 0) (some bg) k (L 0) = _
              rw [up2_k (by omega), up2_a n6, up2_a n6]) rfl
            have hT1 : rT D (sQ (sQ (sQ Sd 13 bg (some bs)) 15 bg (mQ Sd 35 (L 0))) 35 (L 0) (some bg)) L := hRd.1.2.1
            obtain ⟨hA0, kA1, lA1⟩ := hRd.2.2.2.1.1 o bg hgG8 ea8
            have hA1 : mQ (sQ (sQ (sQ Sd 13 bg (some bs)) 15 bg (mQ Sd 35 (L 0))) 35 (L 0) (some bg)) 14 bg = some (T o) := by
              show up2 (up2 (up2 Sd.2.2.1 13 bg (some bs)) 15 bg (mQ Sd 35 (L 0))) 35 (L 0) (some bg) 14 bg = _
              rw [up2_k (by decide), up2_k (by decide), up2_k (by decide)]; exact hA0
            refine z_aload C rfl dX4_tidy_56 ?_
            refine z_aload_n C rfl dX4_tidy_58 ?_
            refine zp2_becomes C (fun w h => List.mem_cons_of_mem _ (uc_wsX20 w h)) k4_8 (List.mem_cons_of_mem _ wc60) dX4_tidy_59 ?_
            refine z_aload C rfl dX4_tidy_62 ?_
            refine z_aload_n C rfl dX4_tidy_64 ?_
            refine zg4_goneLatest C (fun w h => List.mem_cons_of_mem _ (uc_wsX40 w h)) hSd.c (List.mem_cons_of_mem _ wc49) dX4_tidy_65 ?_
            refine z_ref (show up2 Sd.2.2.1 13 bg (some bs) 35 (L 0) = mQ Sd 35 (L 0) from up2_k (by decide)) ?_
            refine zp2_goneEarlier C (fun w h => List.mem_cons_of_mem _ (uc_wsX20 w h)) k4_8 (List.mem_cons_of_mem _ wc183) dX4_tidy_68 ?_
            refine z_aload_n C rfl dX4_tidy_71 ?_
            refine z_aload C rfl dX4_tidy_72 ?_
            refine zp4_goneLatest C (fun w h => List.mem_cons_of_mem _ (uc_wsX40 w h)) hSd.c (List.mem_cons_of_mem _ wc49) dX4_tidy_74 ?_
            refine z_aload_n C rfl dX4_tidy_77 ?_
            refine z_aload_n C rfl dX4_tidy_78 ?_
            refine z_aload C rfl dX4_tidy_79 ?_
            refine z_callC 2 [zr (some bs), zr (some bg)] C rfl (C_moveTag hl0 hS1 hT1 k4_2 n10_2 k4_8 n10_8 hA1 kA1 lA1) rfl (zgoodV LWc_good wc188 wc189 wc190 wc58 wc191) rfl rfl rfl (by decide +kernel) rfl (by rw [hR]; exact ⟨Nat.le_of_ble_eq_true rfl, Nat.le_of_ble_eq_true rfl⟩) hS1.c (by rw [hR]; exact ⟨Nat.le_of_ble_eq_true rfl, Nat.le_of_ble_eq_true rfl⟩) (Nat.le_of_ble_eq_true rfl) dX4_tidy_81 (fun v81 S81 h81 => ?_) (fun E81 S81 h81 => ?_)
            · obtain ⟨rfl, hM, hB⟩ := h81
              have hP : tgP Sd S81 L (T o) bg (mvD D t o) (some bs) (mQ Sd 35 (L 0)) (some bg) := hM.tg rfl rfl rfl rfl rfl rfl (fun k b a1 a2 a3 => by
                show up2 (up2 (up2 Sd.2.2.1 13 bg (some bs)) 15 bg (mQ Sd 35 (L 0))) 35 (L 0) (some bg) k b = _
                rw [up2_ne2 a3, up2_ne2 a2, up2_ne2 a1]) (by
                show up2 (up2 (up2 Sd.2.2.1 13 bg (some bs)) 15 bg (mQ Sd 35 (L 0))) 35 (L 0) (some bg) 13 bg = _
                rw [up2_k (by decide), up2_k (by decide), up2_self]) (by
                show up2 (up2 (up2 Sd.2.2.1 13 bg (some bs)) 15 bg (mQ Sd 35 (L 0))) 35 (L 0) (some bg) 15 bg = _
                rw [up2_k (by decide), up2_self]) (by
                show up2 (up2 (up2 Sd.2.2.1 13 bg (some bs)) 15 bg (mQ Sd 35 (L 0))) 35 (L 0) (some bg) 35 (L 0) = _
                exact up2_self)
              obtain ⟨g1, g2, g3, g4, g5, g6⟩ := hRd.tidy (J1 := J1) hgG2 hgG8 hl2 hl8 hto ea2 ea8 hP hB (fun k hk => hJ k hk) (fun r => by rw [hJ1 r, ex8])
              refine z_istore [_, _, _, _, _, _] C (by decide) rfl dX4_tidy_84 ?_
              refine z_aload_n C rfl dX4_tidy_86 ?_
              refine z_callC 0 [] C rfl (C_update hl0 g1) rfl (zgoodV LWc_good wc151 wc152 wc153 wc58 wc154) rfl rfl rfl (by decide +kernel) rfl (by rw [hR]; exact ⟨Nat.le_of_ble_eq_true rfl, Nat.le_of_ble_eq_true rfl⟩) g1.1.c (by rw [hR]; exact ⟨Nat.le_of_ble_eq_true rfl, Nat.le_of_ble_eq_true rfl⟩) (Nat.le_of_ble_eq_true rfl) dX4_tidy_87 (fun v87 S87 h87 => ?_) (fun E87 S87 h87 => ?_)
              · obtain ⟨rfl, A1, q87⟩ := h87
                subst S87
                refine z_iload C rfl dX4_tidy_90 ?_
                refine z_ireturn C F (Nat.le_of_ble_eq_true rfl) (Nat.le_of_ble_eq_true rfl) dX4_tidy_92 ?_
                exact ⟨t, o, hg2, hgG2, ex2, h51_2, hg8, hgG8, ex8, h51_8, hto, c43, rfl, cR.up g1 g2 g3 g4 g5 g6 A1⟩
              · exact h87.elim
            · exact h81.elim
          · refine z_throwS (text := "the names are not nearly alike") ["java/lang/RuntimeException", "java/lang/Exception"] C F N (by decide +kernel) (by decide +kernel) (List.mem_cons_of_mem _ wc181) (List.mem_cons_of_mem _ wc182) (by decide +kernel) (fun w h => List.mem_cons_of_mem _ (ac_3 w h)) bc_3 (by decide) (by decide +kernel) dX4_tidy_46 dX4_tidy_49 dX4_tidy_50 dX4_tidy_52 dX4_tidy_55 (by rw [hR]; exact Nat.le_of_ble_eq_true rfl) (by rw [hR]; exact Nat.le_of_ble_eq_true rfl) (by rw [hR]; exact Nat.le_of_ble_eq_true rfl) (by rw [hR]; exact Nat.le_of_ble_eq_true rfl) (Nat.le_of_ble_eq_true rfl) (Nat.le_of_ble_eq_true rfl) ?_
            first | exact ⟨hR1, Or.inr (Or.inl ⟨t, o, hg2, hgG2, ex2, h51_2, hg8, hgG8, ex8, h51_8, nI_inj (by omega) (by omega) c22, rfl⟩)⟩ | exact ⟨hR1.sT hTb, Or.inr (Or.inr ⟨t, o, hg2, hgG2, ex2, h51_2, hg8, hgG8, ex8, h51_8, hto, c43, rfl⟩)⟩
        · exact h39.elim
      · refine z_throwS (text := "a tag cannot be made one with itself") ["java/lang/RuntimeException", "java/lang/Exception"] C F N (by decide +kernel) (by decide +kernel) (List.mem_cons_of_mem _ wc53) (List.mem_cons_of_mem _ wc54) (by decide +kernel) (fun w h => List.mem_cons_of_mem _ (ac_0 w h)) bc_0 (by decide) (by decide +kernel) dX4_tidy_25 dX4_tidy_28 dX4_tidy_29 dX4_tidy_31 dX4_tidy_34 (by rw [hR]; exact Nat.le_of_ble_eq_true rfl) (by rw [hR]; exact Nat.le_of_ble_eq_true rfl) (by rw [hR]; exact Nat.le_of_ble_eq_true rfl) (by rw [hR]; exact Nat.le_of_ble_eq_true rfl) (Nat.le_of_ble_eq_true rfl) (Nat.le_of_ble_eq_true rfl) ?_
        first | exact ⟨hR1, Or.inr (Or.inl ⟨t, o, hg2, hgG2, ex2, h51_2, hg8, hgG8, ex8, h51_8, nI_inj (by omega) (by omega) c22, rfl⟩)⟩ | exact ⟨hR1.sT hTb, Or.inr (Or.inr ⟨t, o, hg2, hgG2, ex2, h51_2, hg8, hgG8, ex8, h51_8, hto, c43, rfl⟩)⟩
    · obtain ⟨e8, rfl, q8⟩ := h8
      subst S8
      exact z_out C F N (Nat.le_of_ble_eq_true rfl) (Nat.le_of_ble_eq_true rfl) ⟨hR1, Or.inl ⟨fun q => tG_none hR1 e8 q.2, rfl⟩⟩
  · obtain ⟨e2, rfl, q2⟩ := h2
    subst S2
    exact z_out C F N (Nat.le_of_ble_eq_true rfl) (Nat.le_of_ble_eq_true rfl) ⟨hR1, Or.inl ⟨fun q => tG_none hR1 e2 q.1, rfl⟩⟩
theorem undo_at {D : ZD} {J : Nat → Int64} {lk : ZL} {as : Nat → Nat} {S : ZM} {L T : Nat → Nat} (h : cR D J lk as S L T) {bo : Nat} (e : glS D S L (dU D) = some bo) : ∃ o : Nat, o < dG D ∧ D 69 (dU D - 1) = nI o ∧ 0 < dU D ∧ tQ S (L 2) o = some bo := by
  unfold glS at e
  by_cases q : dU D = 0
  · rw [if_pos q] at e; cases e
  · rw [if_neg q] at e
    have w := (h.2.2.2.1.2.2.2.2 (dU D - 1) (by omega)).1
    obtain ⟨x, g, q1, q2, -⟩ := h.2.2.2.2.1.2.2.2.2.2.2 (dU D - 1) (by omega)
    obtain ⟨y, hy⟩ := look_in q1
    have hx := (look_lt h.1.2.2.2.2.2.1.2.2.1 x y hy).1
    have h16 : dG D ≤ 16 := h.1.2.2.2.2.2.1.1.2.1.2
    rw [q2, show ix (nI x) = x from nI_clamp (by omega)] at e
    exact ⟨x, hx, q2, by omega, e⟩
theorem undo_no {D : ZD} {J : Nat → Int64} {lk : ZL} {as : Nat → Nat} {S : ZM} {L T : Nat → Nat} (h : cR D J lk as S L T) (e : glS D S L (dU D) = none) : dU D = 0 := by
  unfold glS at e
  by_cases q : dU D = 0
  · exact q
  · rw [if_neg q] at e
    obtain ⟨a, nm, ea, -⟩ := h.1.2.2.1.2 _ (h.2.2.2.1.2.2.2.2 (dU D - 1) (by omega)).1
    rw [ea] at e; cases e
set_option maxRecDepth 100000 in
set_option maxHeartbeats 4000000 in
theorem C_undoTidy {l : Launch} (hl0 : l.stackTraces = false) {D : ZD} {J : Nat → Int64} {lk : ZL} {as : Nat → Nat} {S : ZM} {L T : Nat → Nat} (hR1 : cR D J lk as S L T) (hZ : wfZ D) : zMet l yX4_undoTidy (Cond.code yX4_undoTidy cX4_undoTidy 4 (some .int) :: LWc) ({ frames := 45, cells := 1, slots := 6, locals := 1001 } : Room) 1 6 [zr (some (L 0))] S (zPo (fun v S' => 0 < dU D ∧ v = some (zi (D 69 (dU D - 1))) ∧ cR (chgD (opUndo D J)) J lk.tail as S' L T) (fun E S' => S' = S ∧ dU D = 0 ∧ E = "java/lang/IllegalStateException")) := by
  refine zMet.of' [some (zr (some (L 0))), none, none, none] hl0 (by decide) rfl (Nat.le_of_ble_eq_true rfl) rfl ?_
  intro X C N hR hN0 hX F
  subst hX
  obtain ⟨hX0, hV, hK, hU, hQ, hF⟩ := id hR1
  obtain ⟨hS, hT, hG, hRR, hLL, hA, hday, hpl, hO, hAc⟩ := id hX0
  refine z_aload_n C rfl dX4_undoTidy_0 ?_
  refine zg4_goneLatest C (fun w h => List.mem_cons_of_mem _ (uc_wsX40 w h)) hS.c (List.mem_cons_of_mem _ wc49) dX4_undoTidy_1 ?_
  refine z_ref hU.2.2.2.1 ?_
  refine z_astore_n [_, _, _, _] C (by decide) rfl dX4_undoTidy_4 ?_
  refine z_aload_n C rfl dX4_undoTidy_5 ?_
  refine z_ifnonnull 19 C dX4_undoTidy_6 (by decide) (fun a6 c6 => ?_) (fun c6 => ?_)
  · obtain ⟨o, ho, eo, hu, hbo⟩ := undo_at hR1 c6
    have kb : mK S a6 = 4 := (hG.k o a6 (by have := hA.1.2.1.2; omega) hbo).1
    have nb : mI S 10 a6 = nI o := (hG.k o a6 (by have := hA.1.2.1.2; omega) hbo).2
    obtain ⟨hA0, kA, lA⟩ := hU.1 o a6 ho hbo
    rw [c6]
    refine z_aload_n C rfl dX4_undoTidy_19 ?_
    refine z_aload_n C rfl dX4_undoTidy_20 ?_
    refine zg2_goneEarlier C (fun w h => List.mem_cons_of_mem _ (uc_wsX20 w h)) kb (List.mem_cons_of_mem _ wc183) dX4_undoTidy_21 ?_
    refine zp4_goneLatest C (fun w h => List.mem_cons_of_mem _ (uc_wsX40 w h)) hS.c (List.mem_cons_of_mem _ wc49) dX4_undoTidy_24 ?_
    refine z_aload_n C rfl dX4_undoTidy_27 ?_
    refine z_null C dX4_undoTidy_28 ?_
    refine zp2_goneEarlier C (fun w h => List.mem_cons_of_mem _ (uc_wsX20 w h)) kb (List.mem_cons_of_mem _ wc183) dX4_undoTidy_29 ?_
    refine z_aload_n C rfl dX4_undoTidy_32 ?_
    refine z_null C dX4_undoTidy_33 ?_
    refine zp2_becomes C (fun w h => List.mem_cons_of_mem _ (uc_wsX20 w h)) kb (List.mem_cons_of_mem _ wc60) dX4_undoTidy_34 ?_
    have hS1 : cS (sQ (sQ (sQ S 35 (L 0) (mQ S 15 a6)) 15 a6 none) 13 a6 none) L := hS.same rfl rfl (fun k hk => by
      have n6 : L 0 ≠ a6 := fun q => by have := hS.c; rw [q, kb] at this; cases this
      show up2 (up2 (up2 S.2.2.1 35 (L 0) (mQ S 15 a6)) 15 a6 none) 13 a6 none k (L 0) = _
      rw [up2_a n6, up2_a n6, up2_k (by omega)]) rfl
    have hT1 : rT D (sQ (sQ (sQ S 35 (L 0) (mQ S 15 a6)) 15 a6 none) 13 a6 none) L := hT
    have hA1 : mQ (sQ (sQ (sQ S 35 (L 0) (mQ S 15 a6)) 15 a6 none) 13 a6 none) 14 a6 = some (T o) := by
      show up2 (up2 (up2 S.2.2.1 35 (L 0) (mQ S 15 a6)) 15 a6 none) 13 a6 none 14 a6 = _
      rw [up2_k (by decide), up2_k (by decide), up2_k (by decide)]; exact hA0
    have loop : ∀ (m i : Nat) (S1 : ZM) (w3 : Option ZV), i + m = 24 → mvP (sQ (sQ (sQ S 35 (L 0) (mQ S 15 a6)) 15 a6 none) 13 a6 none) S1 L (T o) (fun j => if j < i then D 70 (24 * (dU D - 1) + j) else D 46 j) → tI S1 = tI S → zW X 4 0 0 S1 39 [some (zr (some (L 0))), some (zr (some a6)), some (zi (nI i)), w3] [] := by
      intro m
      induction m with
      | zero =>
        intro i S1 w3 hi hM hB
        obtain rfl : i = 24 := by omega
        refine z_iload_n C rfl dX4_undoTidy_39 ?_
        refine z_bipush 24 (by decide) C dX4_undoTidy_40 ?_
        refine z_icmp_ge 71 C dX4_undoTidy_42 (by decide) (fun c42 => ?_) (fun c42 => ?_)
        · have hP : tgP S S1 L (T o) a6 (fun j => D 70 (24 * (dU D - 1) + j)) none none (mQ S 15 a6) := (hM.to (g := fun j => D 70 (24 * (dU D - 1) + j)) (fun j a hj _ => if_pos hj)).tg rfl rfl rfl rfl rfl rfl (fun k b a1 a2 a3 => by
            show up2 (up2 (up2 S.2.2.1 35 (L 0) (mQ S 15 a6)) 15 a6 none) 13 a6 none k b = _
            rw [up2_ne2 a1, up2_ne2 a2, up2_ne2 a3]) (by
            show up2 (up2 (up2 S.2.2.1 35 (L 0) (mQ S 15 a6)) 15 a6 none) 13 a6 none 13 a6 = _
            exact up2_self) (by
            show up2 (up2 (up2 S.2.2.1 35 (L 0) (mQ S 15 a6)) 15 a6 none) 13 a6 none 15 a6 = _
            rw [up2_k (by decide), up2_self]) (by
            show up2 (up2 (up2 S.2.2.1 35 (L 0) (mQ S 15 a6)) 15 a6 none) 13 a6 none 35 (L 0) = _
            rw [up2_k (by decide), up2_k (by decide), up2_self])
          obtain ⟨g1, g2, g3, g4, g5, g6⟩ := hR1.undo hZ hu eo ho hbo hP hB
          refine z_aload_n C rfl dX4_undoTidy_71 ?_
          refine z_callC 0 [] C rfl (C_update hl0 g1) rfl (zgoodV LWc_good wc151 wc152 wc153 wc58 wc154) rfl rfl rfl (by decide +kernel) rfl (by rw [hR]; exact ⟨Nat.le_of_ble_eq_true rfl, Nat.le_of_ble_eq_true rfl⟩) g1.1.c (by rw [hR]; exact ⟨Nat.le_of_ble_eq_true rfl, Nat.le_of_ble_eq_true rfl⟩) (Nat.le_of_ble_eq_true rfl) dX4_undoTidy_72 (fun v72 S72 h72 => ?_) (fun E72 S72 h72 => ?_)
          · obtain ⟨rfl, A1, q72⟩ := h72
            subst S72
            refine z_aload_n C rfl dX4_undoTidy_75 ?_
            refine zg2_number C (fun w h => List.mem_cons_of_mem _ (uc_wsX20 w h)) (by show mK S1 a6 = 4; rw [hM.1]; exact kb) (List.mem_cons_of_mem _ wc61) dX4_undoTidy_76 ?_
            refine z_int (x' := D 69 (dU D - 1)) ((mI_up (by decide)).trans ((hP.2.2.2.2.2.1 10 a6 (Or.inl (by decide))).trans (nb.trans eo.symm))) ?_
            refine z_ireturn C F (Nat.le_of_ble_eq_true rfl) (Nat.le_of_ble_eq_true rfl) dX4_undoTidy_79 ?_
            exact ⟨hu, rfl, cR.up g1 g2 g3 g4 g5 g6 A1⟩
          · exact h72.elim
        · exact absurd (by decide) c42
      | succ m ih =>
        intro i S1 w3 hi hM hB
        have hi24 : i < 24 := by omega
        obtain ⟨e1, e2, e3, e4, e5, e6, e7, e8⟩ := id hM
        have hS2 : cS S1 L := hM.cS hS1
        have kA1 : mK S1 (T o) = 10 := by rw [e1]; exact kA
        have lA1 : mN S1 (T o) = 24 := by rw [e2]; exact lA
        refine z_iload_n C rfl dX4_undoTidy_39 ?_
        refine z_bipush 24 (by decide) C dX4_undoTidy_40 ?_
        refine z_icmp_ge 71 C dX4_undoTidy_42 (by decide) (fun c42 => ?_) (fun c42 => ?_)
        · exact absurd c42 (n24 hi24)
        · refine z_aload_n C rfl dX4_undoTidy_45 ?_
          refine z_iload_n C rfl dX4_undoTidy_46 ?_
          refine z_callC 1 [zi (nI i)] C rfl (C_trackOrNull hl0 hS2 (nI i)) rfl (zgoodV LWc_good wc55 wc56 wc57 wc58 wc59) rfl rfl rfl (by decide +kernel) rfl (by rw [hR]; exact ⟨Nat.le_of_ble_eq_true rfl, Nat.le_of_ble_eq_true rfl⟩) hS2.c (by rw [hR]; exact ⟨Nat.le_of_ble_eq_true rfl, Nat.le_of_ble_eq_true rfl⟩) (Nat.le_of_ble_eq_true rfl) dX4_undoTidy_47 (fun v47 S47 h47 => ?_) (fun E47 S47 h47 => ?_)
          · obtain ⟨rfl, q47⟩ := h47
            subst S47
            refine z_ref (r' := tQ S (L 1) i) ((cAt_nI hi24 (by decide)).trans (congrFun (congrFun e4 (L 1)) i)) ?_
            refine z_astore_n [_, _, _, _] C (by decide) rfl dX4_undoTidy_50 ?_
            refine z_aload_n C rfl dX4_undoTidy_51 ?_
            refine z_ifnull 65 C dX4_undoTidy_52 (by decide) (fun c52 => ?_) (fun a52 c52 => ?_)
            · refine z_inc (1) [_, _, _, _] C rfl (by decide) (by decide) rfl dX4_undoTidy_65 ?_
              refine z_goto 39 C dX4_undoTidy_68 (by decide) ?_
              have q := ih (i + 1) (S1) (some (zr (tQ S (L 1) i))) (by omega) (hM.to (fun j a hj ha => (fN_up (f := fun j => D 70 (24 * (dU D - 1) + j)) (fun z => by subst z; rw [show tQ S (L 1) j = some a from ha] at c52; cases c52)).symm)) hB
              rw [nI_succ] at q
              exact q
            · obtain ⟨hp, k5, -, -, -, -, -, x21⟩ := hT.at hi24 c52
              have K3 : mK S1 a52 = 5 := by rw [e1]; exact k5
              refine z_aload_n C rfl dX4_undoTidy_55 ?_
              refine z_ref c52 ?_
              refine z_aload_n C rfl dX4_undoTidy_56 ?_
              refine zg2_tagSetsAhead C (fun w h => List.mem_cons_of_mem _ (uc_wsX20 w h)) (by rw [e1]; exact kb) (List.mem_cons_of_mem _ wc180) dX4_undoTidy_57 ?_
              refine z_ref ((congrFun (congrFun e5 14) a6).trans hA1) ?_
              refine z_iload_n C rfl dX4_undoTidy_60 ?_
              refine z_iaload C kA1 (by rw [lA1]; exact vp_in_nI hi24 (by decide)) dX4_undoTidy_61 ?_
              refine z_int (x' := D 70 (24 * (dU D - 1) + i)) (by rw [hB, nI_clamp (by omega)]; have w := (hU.2.2.2.2 (dU D - 1) (by omega)).2.2 i hi24 (Or.inl hp); rw [eo, show ix (nI o) = o from nI_clamp (by have := hA.1.2.1.2; omega)] at w; exact w) ?_
              refine zp3_tagSet C (fun w h => List.mem_cons_of_mem _ (uc_wsX30 w h)) K3 (List.mem_cons_of_mem _ wc66) dX4_undoTidy_62 ?_
              refine z_inc (1) [_, _, _, _] C rfl (by decide) (by decide) rfl dX4_undoTidy_65 ?_
              refine z_goto 39 C dX4_undoTidy_68 (by decide) ?_
              have q := ih (i + 1) (sI S1 21 a52 (D 70 (24 * (dU D - 1) + i))) (some (zr (tQ S (L 1) i))) (by omega) ((hM.trk hT1 hi24 c52 _).to (fun j a hj ha => (fN_up1 (f := fun j => D 70 (24 * (dU D - 1) + j))).symm)) hB
              rw [nI_succ] at q
              exact q
          · exact h47.elim
    refine z_iconst 0 (by decide) C dX4_undoTidy_37 ?_
    refine z_istore_n [_, _, _, _] C (by decide) rfl dX4_undoTidy_38 ?_
    exact loop 24 0 (sQ (sQ (sQ S 35 (L 0) (mQ S 15 a6)) 15 a6 none) 13 a6 none) none rfl (mvP.refl hT1 (T o) (fun j _ => (if_neg (Nat.not_lt_zero j)).symm)) rfl
  · refine z_throwS (text := "nothing can be undone") ["java/lang/RuntimeException", "java/lang/Exception"] C F N (by decide +kernel) (by decide +kernel) (List.mem_cons_of_mem _ wc141) (List.mem_cons_of_mem _ wc142) (by decide +kernel) (fun w h => List.mem_cons_of_mem _ (ac_1 w h)) bc_1 (by decide) (by decide +kernel) dX4_undoTidy_9 dX4_undoTidy_12 dX4_undoTidy_13 dX4_undoTidy_15 dX4_undoTidy_18 (by rw [hR]; exact Nat.le_of_ble_eq_true rfl) (by rw [hR]; exact Nat.le_of_ble_eq_true rfl) (by rw [hR]; exact Nat.le_of_ble_eq_true rfl) (by rw [hR]; exact Nat.le_of_ble_eq_true rfl) (Nat.le_of_ble_eq_true rfl) (Nat.le_of_ble_eq_true rfl) ?_
    exact ⟨rfl, undo_no hR1 c6, rfl⟩
