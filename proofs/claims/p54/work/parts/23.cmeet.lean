/-! the class: the tracks that meet a rule -/
set_option maxRecDepth 100000 in
set_option maxHeartbeats 4000000 in
theorem C_tracksMeeting {l : Launch} (hl0 : l.stackTraces = false) {D : ZD} {lk : ZL} {as : Nat → Nat} {S : ZM} {L : Nat → Nat} (hS : cS S L) (hT : rT D S L) (hG : rG D lk S L) (hR : rR D as S L) (hw : wfA D lk as) (hday : mI S 36 (L 0) = D 40 0) (hpl : ∀ t : Nat, 0 ≤ D 44 t ∧ ¬ D 45 t = -1) {sa : Nat} (hk : mK S sa = 10) (hn : mN S sa = 8) : ∀ (m r : Nat), r < m → r < dR D → (∀ l : Nat, l < 8 → hasB (lsD D r) (nI l) = true → subD D (tI S sa l)) → ∀ a : Nat, tQ S (L 3) r = some a → zMet l yX4_tracksMeeting (Cond.code yX4_tracksMeeting cX4_tracksMeeting 3 (some .int) :: LWc) ({ frames := 2 + r, cells := 0, slots := 0, locals := 48 + 22 * r } : Room) 0 0 [zr (some (L 0)), zr (some a), zr (some sa)] S (zPo (fun v S' => v = some (zi (mtD D (tI S sa) r)) ∧ S' = S) (fun _ _ => False)) := by
  intro m
  induction m with
  | zero => intro r h; exact absurd h (Nat.not_lt_zero r)
  | succ m ih =>
    intro r hrm hr hK a ha
    obtain ⟨hN, hWR, hWL, hlen, hAs⟩ := id hw
    have h40 : dR D ≤ 40 := hN.2.2.1.2
    obtain ⟨a9, e9, k3, n3, n4, n5, n6, n7, -, -⟩ := hR.2 r hr
    have ea : a9 = a := by rw [e9] at ha; exact Option.some.inj ha
    subst ea
    refine zMet.of' [some (zr (some (L 0))), some (zr (some a9)), some (zr (some sa))] hl0 (by decide) rfl (Nat.le_of_ble_eq_true rfl) rfl ?_
    intro X C N hR0 hN0 hX F
    subst hX
    have hR0 : xR X = { frames := 2 + r, cells := 0, slots := 0, locals := 48 + 22 * r } := hR0
    refine z_aload_n C rfl dX4_tracksMeeting_0 ?_
    refine z_ifnonnull 6 C dX4_tracksMeeting_1 (by decide) (fun a1 c1 => ?_) (fun c1 => ?_)
    · refine z_aload_n C rfl dX4_tracksMeeting_6 ?_
      refine zg1_kind C (fun w h => List.mem_cons_of_mem _ (uc_wsX10 w h)) k3 (List.mem_cons_of_mem _ wc75) dX4_tracksMeeting_7 ?_
      refine z_int n4 ?_
      by_cases q0 : D 53 r = 0
      · refine z_tableIn 144 C dX4_tracksMeeting_10 (by rw [q0]; decide) (by rw [q0]; decide) (by rw [q0]; rfl) (by decide) ?_
        obtain ⟨g, hg, -⟩ := (hWR r hr).2.1 q0
        obtain ⟨ag, eg⟩ := hAs r hr q0
        obtain ⟨tg, et, ent⟩ := hG.meant hWL hlen ag
        have ebm : (bmS S 16 (cAt (tQ S (L 2)) 16 (nI (as r)))).elim (0 : Int32) (fun a => 1 <<< (mI S 10 a &&& 31)) = bitI (mean lk (as r)) := by
          rw [cAt_nI (by have := hN.2.1.2; omega) (by decide), et]
          show 1 <<< (mI S 10 tg &&& 31) = _
          rw [ent]; rfl
        refine z_aload_n C rfl dX4_tracksMeeting_144 ?_
        refine z_aload_n C rfl dX4_tracksMeeting_145 ?_
        refine z_aload_n C rfl dX4_tracksMeeting_146 ?_
        refine zg1_asked C (fun w h => List.mem_cons_of_mem _ (uc_wsX10 w h)) k3 (List.mem_cons_of_mem _ wc78) dX4_tracksMeeting_147 ?_
        refine z_int (n5.trans (by rw [askD, if_pos q0])) ?_
        refine z_callC 1 [zi (nI (as r))] C rfl (C_bitMeant hl0 hS hG.k (hG.b hWL hN.2.1.2) (nI (as r))) rfl (zgoodV LWc_good wc86 wc87 wc88 wc58 wc89) rfl rfl rfl (by decide +kernel) rfl (by rw [hR0]; exact ⟨by show _ ≤ 2 + r; exact Nat.le_trans (Nat.le_of_ble_eq_true rfl) (Nat.le_add_right _ _), by show _ ≤ 48 + 22 * r; exact Nat.le_trans (Nat.le_of_ble_eq_true rfl) (Nat.le_add_right _ _)⟩) hS.c (by rw [hR0]; exact ⟨Nat.le_refl 0, Nat.le_refl 0⟩) (Nat.le_of_ble_eq_true rfl) dX4_tracksMeeting_150 (fun v150 S150 h150 => ?_) (fun E150 S150 h150 => ?_)
        · obtain ⟨rfl, q150⟩ := h150
          subst S150
          refine z_int ebm ?_
          refine z_callC 1 [zi (bitI (mean lk (as r)))] C rfl (C_tracksTagged hl0 hS hT.k _) rfl (zgoodV LWc_good wc90 wc91 wc92 wc58 wc93) rfl rfl rfl (by decide +kernel) rfl (by rw [hR0]; exact ⟨by show _ ≤ 2 + r; exact Nat.le_trans (Nat.le_of_ble_eq_true rfl) (Nat.le_add_right _ _), by show _ ≤ 48 + 22 * r; exact Nat.le_trans (Nat.le_of_ble_eq_true rfl) (Nat.le_add_right _ _)⟩) hS.c (by rw [hR0]; exact ⟨Nat.le_refl 0, Nat.le_refl 0⟩) (Nat.le_of_ble_eq_true rfl) dX4_tracksMeeting_153 (fun v153 S153 h153 => ?_) (fun E153 S153 h153 => ?_)
          · obtain ⟨rfl, q153⟩ := h153
            subst S153
            refine z_ireturn C F (Nat.le_of_ble_eq_true rfl) (Nat.le_of_ble_eq_true rfl) dX4_tracksMeeting_156 ?_
            exact ⟨by rw [mtD, sF_cong (q := pS S L (fun _ a => decide (¬ mI S 21 a &&& bitI (mean lk (as r)) = 0))) (fun i hi => (hT.pS (p := fun t => ev D (tI S sa) r t) hi (fun b hb => by
              have hb := (hT.at hi hb).2.2.2.2.2.2.2
              rw [ev_0 q0, eg, hb]; rfl)).symm)], rfl⟩
          · exact h153.elim
        · exact h150.elim
      by_cases q1 : D 53 r = 1
      · refine z_tableIn 157 C dX4_tracksMeeting_10 (by rw [q1]; decide) (by rw [q1]; decide) (by rw [q1]; rfl) (by decide) ?_
        have hnum : D 53 r = 1 ∨ D 53 r = 2 ∨ D 53 r = 3 ∨ D 53 r = 4 := by
          first
          | exact Or.inl q1
          | exact Or.inr (Or.inl q2)
          | exact Or.inr (Or.inr (Or.inl q3))
          | exact Or.inr (Or.inr (Or.inr q4))
          | (obtain ⟨k, hk, ek⟩ := (hWR r hr).1
             rcases (show k = 0 ∨ k = 1 ∨ k = 2 ∨ k = 3 ∨ k = 4 ∨ k = 5 ∨ k = 6 ∨ k = 7 ∨ k = 8 by omega) with rfl | rfl | rfl | rfl | rfl | rfl | rfl | rfl | rfl <;> first | (exact absurd ek q0) | (exact absurd ek q1) | (exact absurd ek q2) | (exact absurd ek q3) | (exact absurd ek q4) | (exact absurd ek q5) | (exact absurd ek q6) | (exact absurd ek q7) | (exact absurd ek q8))
        have hask : mI S 5 a9 = D 54 r := n5.trans (by rcases hnum with h | h | h | h <;> simp [askD, h])
        refine z_aload_n C rfl dX4_tracksMeeting_157 ?_
        refine z_aload_n C rfl dX4_tracksMeeting_158 ?_
        refine zg1_kind C (fun w h => List.mem_cons_of_mem _ (uc_wsX10 w h)) k3 (List.mem_cons_of_mem _ wc75) dX4_tracksMeeting_159 ?_
        refine z_int n4 ?_
        refine z_aload_n C rfl dX4_tracksMeeting_162 ?_
        refine zg1_asked C (fun w h => List.mem_cons_of_mem _ (uc_wsX10 w h)) k3 (List.mem_cons_of_mem _ wc78) dX4_tracksMeeting_163 ?_
        refine z_int hask ?_
        refine z_callC 2 [zi (D 53 r), zi (D 54 r)] C rfl (C_tracksMeetingNumber hl0 hS hT.k (D 53 r) (D 54 r)) rfl (zgoodV LWc_good wc94 wc95 wc96 wc58 wc97) rfl rfl rfl (by decide +kernel) rfl (by rw [hR0]; exact ⟨by show _ ≤ 2 + r; exact Nat.le_trans (Nat.le_of_ble_eq_true rfl) (Nat.le_add_right _ _), by show _ ≤ 48 + 22 * r; exact Nat.le_trans (Nat.le_of_ble_eq_true rfl) (Nat.le_add_right _ _)⟩) hS.c (by rw [hR0]; exact ⟨Nat.le_refl 0, Nat.le_refl 0⟩) (Nat.le_of_ble_eq_true rfl) dX4_tracksMeeting_166 (fun v166 S166 h166 => ?_) (fun E166 S166 h166 => ?_)
        · obtain ⟨rfl, q166⟩ := h166
          subst S166
          refine z_ireturn C F (Nat.le_of_ble_eq_true rfl) (Nat.le_of_ble_eq_true rfl) dX4_tracksMeeting_169 ?_
          exact ⟨by rw [mtD, sF_cong (q := pS S L (fun _ a => mnS S L (D 53 r) (D 54 r) a)) (fun i hi => (hT.pS (p := fun t => ev D (tI S sa) r t) hi (fun b hb => by
            have hb := hT.at hi hb
            exact ev_num hnum hday hb.2.2.2.1 hb.2.2.2.2.1 hb.2.2.2.2.2.1 hb.2.2.2.2.2.2.1 (hpl i).1 (hpl i).2)).symm)], rfl⟩
        · exact h166.elim
      by_cases q2 : D 53 r = 2
      · refine z_tableIn 157 C dX4_tracksMeeting_10 (by rw [q2]; decide) (by rw [q2]; decide) (by rw [q2]; rfl) (by decide) ?_
        have hnum : D 53 r = 1 ∨ D 53 r = 2 ∨ D 53 r = 3 ∨ D 53 r = 4 := by
          first
          | exact Or.inl q1
          | exact Or.inr (Or.inl q2)
          | exact Or.inr (Or.inr (Or.inl q3))
          | exact Or.inr (Or.inr (Or.inr q4))
          | (obtain ⟨k, hk, ek⟩ := (hWR r hr).1
             rcases (show k = 0 ∨ k = 1 ∨ k = 2 ∨ k = 3 ∨ k = 4 ∨ k = 5 ∨ k = 6 ∨ k = 7 ∨ k = 8 by omega) with rfl | rfl | rfl | rfl | rfl | rfl | rfl | rfl | rfl <;> first | (exact absurd ek q0) | (exact absurd ek q1) | (exact absurd ek q2) | (exact absurd ek q3) | (exact absurd ek q4) | (exact absurd ek q5) | (exact absurd ek q6) | (exact absurd ek q7) | (exact absurd ek q8))
        have hask : mI S 5 a9 = D 54 r := n5.trans (by rcases hnum with h | h | h | h <;> simp [askD, h])
        refine z_aload_n C rfl dX4_tracksMeeting_157 ?_
        refine z_aload_n C rfl dX4_tracksMeeting_158 ?_
        refine zg1_kind C (fun w h => List.mem_cons_of_mem _ (uc_wsX10 w h)) k3 (List.mem_cons_of_mem _ wc75) dX4_tracksMeeting_159 ?_
        refine z_int n4 ?_
        refine z_aload_n C rfl dX4_tracksMeeting_162 ?_
        refine zg1_asked C (fun w h => List.mem_cons_of_mem _ (uc_wsX10 w h)) k3 (List.mem_cons_of_mem _ wc78) dX4_tracksMeeting_163 ?_
        refine z_int hask ?_
        refine z_callC 2 [zi (D 53 r), zi (D 54 r)] C rfl (C_tracksMeetingNumber hl0 hS hT.k (D 53 r) (D 54 r)) rfl (zgoodV LWc_good wc94 wc95 wc96 wc58 wc97) rfl rfl rfl (by decide +kernel) rfl (by rw [hR0]; exact ⟨by show _ ≤ 2 + r; exact Nat.le_trans (Nat.le_of_ble_eq_true rfl) (Nat.le_add_right _ _), by show _ ≤ 48 + 22 * r; exact Nat.le_trans (Nat.le_of_ble_eq_true rfl) (Nat.le_add_right _ _)⟩) hS.c (by rw [hR0]; exact ⟨Nat.le_refl 0, Nat.le_refl 0⟩) (Nat.le_of_ble_eq_true rfl) dX4_tracksMeeting_166 (fun v166 S166 h166 => ?_) (fun E166 S166 h166 => ?_)
        · obtain ⟨rfl, q166⟩ := h166
          subst S166
          refine z_ireturn C F (Nat.le_of_ble_eq_true rfl) (Nat.le_of_ble_eq_true rfl) dX4_tracksMeeting_169 ?_
          exact ⟨by rw [mtD, sF_cong (q := pS S L (fun _ a => mnS S L (D 53 r) (D 54 r) a)) (fun i hi => (hT.pS (p := fun t => ev D (tI S sa) r t) hi (fun b hb => by
            have hb := hT.at hi hb
            exact ev_num hnum hday hb.2.2.2.1 hb.2.2.2.2.1 hb.2.2.2.2.2.1 hb.2.2.2.2.2.2.1 (hpl i).1 (hpl i).2)).symm)], rfl⟩
        · exact h166.elim
      by_cases q3 : D 53 r = 3
      · refine z_tableIn 157 C dX4_tracksMeeting_10 (by rw [q3]; decide) (by rw [q3]; decide) (by rw [q3]; rfl) (by decide) ?_
        have hnum : D 53 r = 1 ∨ D 53 r = 2 ∨ D 53 r = 3 ∨ D 53 r = 4 := by
          first
          | exact Or.inl q1
          | exact Or.inr (Or.inl q2)
          | exact Or.inr (Or.inr (Or.inl q3))
          | exact Or.inr (Or.inr (Or.inr q4))
          | (obtain ⟨k, hk, ek⟩ := (hWR r hr).1
             rcases (show k = 0 ∨ k = 1 ∨ k = 2 ∨ k = 3 ∨ k = 4 ∨ k = 5 ∨ k = 6 ∨ k = 7 ∨ k = 8 by omega) with rfl | rfl | rfl | rfl | rfl | rfl | rfl | rfl | rfl <;> first | (exact absurd ek q0) | (exact absurd ek q1) | (exact absurd ek q2) | (exact absurd ek q3) | (exact absurd ek q4) | (exact absurd ek q5) | (exact absurd ek q6) | (exact absurd ek q7) | (exact absurd ek q8))
        have hask : mI S 5 a9 = D 54 r := n5.trans (by rcases hnum with h | h | h | h <;> simp [askD, h])
        refine z_aload_n C rfl dX4_tracksMeeting_157 ?_
        refine z_aload_n C rfl dX4_tracksMeeting_158 ?_
        refine zg1_kind C (fun w h => List.mem_cons_of_mem _ (uc_wsX10 w h)) k3 (List.mem_cons_of_mem _ wc75) dX4_tracksMeeting_159 ?_
        refine z_int n4 ?_
        refine z_aload_n C rfl dX4_tracksMeeting_162 ?_
        refine zg1_asked C (fun w h => List.mem_cons_of_mem _ (uc_wsX10 w h)) k3 (List.mem_cons_of_mem _ wc78) dX4_tracksMeeting_163 ?_
        refine z_int hask ?_
        refine z_callC 2 [zi (D 53 r), zi (D 54 r)] C rfl (C_tracksMeetingNumber hl0 hS hT.k (D 53 r) (D 54 r)) rfl (zgoodV LWc_good wc94 wc95 wc96 wc58 wc97) rfl rfl rfl (by decide +kernel) rfl (by rw [hR0]; exact ⟨by show _ ≤ 2 + r; exact Nat.le_trans (Nat.le_of_ble_eq_true rfl) (Nat.le_add_right _ _), by show _ ≤ 48 + 22 * r; exact Nat.le_trans (Nat.le_of_ble_eq_true rfl) (Nat.le_add_right _ _)⟩) hS.c (by rw [hR0]; exact ⟨Nat.le_refl 0, Nat.le_refl 0⟩) (Nat.le_of_ble_eq_true rfl) dX4_tracksMeeting_166 (fun v166 S166 h166 => ?_) (fun E166 S166 h166 => ?_)
        · obtain ⟨rfl, q166⟩ := h166
          subst S166
          refine z_ireturn C F (Nat.le_of_ble_eq_true rfl) (Nat.le_of_ble_eq_true rfl) dX4_tracksMeeting_169 ?_
          exact ⟨by rw [mtD, sF_cong (q := pS S L (fun _ a => mnS S L (D 53 r) (D 54 r) a)) (fun i hi => (hT.pS (p := fun t => ev D (tI S sa) r t) hi (fun b hb => by
            have hb := hT.at hi hb
            exact ev_num hnum hday hb.2.2.2.1 hb.2.2.2.2.1 hb.2.2.2.2.2.1 hb.2.2.2.2.2.2.1 (hpl i).1 (hpl i).2)).symm)], rfl⟩
        · exact h166.elim
      by_cases q4 : D 53 r = 4
      · refine z_tableIn 157 C dX4_tracksMeeting_10 (by rw [q4]; decide) (by rw [q4]; decide) (by rw [q4]; rfl) (by decide) ?_
        have hnum : D 53 r = 1 ∨ D 53 r = 2 ∨ D 53 r = 3 ∨ D 53 r = 4 := by
          first
          | exact Or.inl q1
          | exact Or.inr (Or.inl q2)
          | exact Or.inr (Or.inr (Or.inl q3))
          | exact Or.inr (Or.inr (Or.inr q4))
          | (obtain ⟨k, hk, ek⟩ := (hWR r hr).1
             rcases (show k = 0 ∨ k = 1 ∨ k = 2 ∨ k = 3 ∨ k = 4 ∨ k = 5 ∨ k = 6 ∨ k = 7 ∨ k = 8 by omega) with rfl | rfl | rfl | rfl | rfl | rfl | rfl | rfl | rfl <;> first | (exact absurd ek q0) | (exact absurd ek q1) | (exact absurd ek q2) | (exact absurd ek q3) | (exact absurd ek q4) | (exact absurd ek q5) | (exact absurd ek q6) | (exact absurd ek q7) | (exact absurd ek q8))
        have hask : mI S 5 a9 = D 54 r := n5.trans (by rcases hnum with h | h | h | h <;> simp [askD, h])
        refine z_aload_n C rfl dX4_tracksMeeting_157 ?_
        refine z_aload_n C rfl dX4_tracksMeeting_158 ?_
        refine zg1_kind C (fun w h => List.mem_cons_of_mem _ (uc_wsX10 w h)) k3 (List.mem_cons_of_mem _ wc75) dX4_tracksMeeting_159 ?_
        refine z_int n4 ?_
        refine z_aload_n C rfl dX4_tracksMeeting_162 ?_
        refine zg1_asked C (fun w h => List.mem_cons_of_mem _ (uc_wsX10 w h)) k3 (List.mem_cons_of_mem _ wc78) dX4_tracksMeeting_163 ?_
        refine z_int hask ?_
        refine z_callC 2 [zi (D 53 r), zi (D 54 r)] C rfl (C_tracksMeetingNumber hl0 hS hT.k (D 53 r) (D 54 r)) rfl (zgoodV LWc_good wc94 wc95 wc96 wc58 wc97) rfl rfl rfl (by decide +kernel) rfl (by rw [hR0]; exact ⟨by show _ ≤ 2 + r; exact Nat.le_trans (Nat.le_of_ble_eq_true rfl) (Nat.le_add_right _ _), by show _ ≤ 48 + 22 * r; exact Nat.le_trans (Nat.le_of_ble_eq_true rfl) (Nat.le_add_right _ _)⟩) hS.c (by rw [hR0]; exact ⟨Nat.le_refl 0, Nat.le_refl 0⟩) (Nat.le_of_ble_eq_true rfl) dX4_tracksMeeting_166 (fun v166 S166 h166 => ?_) (fun E166 S166 h166 => ?_)
        · obtain ⟨rfl, q166⟩ := h166
          subst S166
          refine z_ireturn C F (Nat.le_of_ble_eq_true rfl) (Nat.le_of_ble_eq_true rfl) dX4_tracksMeeting_169 ?_
          exact ⟨by rw [mtD, sF_cong (q := pS S L (fun _ a => mnS S L (D 53 r) (D 54 r) a)) (fun i hi => (hT.pS (p := fun t => ev D (tI S sa) r t) hi (fun b hb => by
            have hb := hT.at hi hb
            exact ev_num hnum hday hb.2.2.2.1 hb.2.2.2.2.1 hb.2.2.2.2.2.1 hb.2.2.2.2.2.2.1 (hpl i).1 (hpl i).2)).symm)], rfl⟩
        · exact h166.elim
      by_cases q5 : D 53 r = 5
      · refine z_tableIn 117 C dX4_tracksMeeting_10 (by rw [q5]; decide) (by rw [q5]; decide) (by rw [q5]; rfl) (by decide) ?_
        obtain ⟨l5, hl5, e5⟩ := (hWR r hr).2.2.1 q5
        have hl8 : l5 < 8 := by have := hN.2.2.2.2; omega
        refine z_aload_n C rfl dX4_tracksMeeting_117 ?_
        refine zg1_asked C (fun w h => List.mem_cons_of_mem _ (uc_wsX10 w h)) k3 (List.mem_cons_of_mem _ wc78) dX4_tracksMeeting_118 ?_
        refine z_int (x' := D 54 r) (n5.trans (by simp [askD, q5])) ?_
        refine z_if_lt 142 C dX4_tracksMeeting_121 (by decide) (fun c121 => ?_) (fun c121 => ?_)
        · refine z_iconst 0 (by decide) C dX4_tracksMeeting_142 ?_
          refine z_ireturn C F (Nat.le_of_ble_eq_true rfl) (Nat.le_of_ble_eq_true rfl) dX4_tracksMeeting_143 ?_
          first | exact ⟨by rw [mtD, sF_cong (q := fun t => prD D t && hasB (tI S sa l5) (nI t)) (fun t _ => by rw [ev_5 q5, e5, ix, nI_clamp (by omega)]), (hK l5 hl8 (by rw [ls_5 q5 e5, hasB_bit (by omega) (by omega)]; simp)).eq, e5, nI_clamp (by omega)], rfl⟩ | (exfalso; rw [e5] at *; first | exact absurd c121 (nI_pos (by omega)) | exact absurd c130 (nI_ge (b := 8) hl8 (by decide)))
        · refine z_aload_n C rfl dX4_tracksMeeting_124 ?_
          refine zg1_asked C (fun w h => List.mem_cons_of_mem _ (uc_wsX10 w h)) k3 (List.mem_cons_of_mem _ wc78) dX4_tracksMeeting_125 ?_
          refine z_int (x' := D 54 r) (n5.trans (by simp [askD, q5])) ?_
          refine z_aload_n C rfl dX4_tracksMeeting_128 ?_
          refine z_alen_i (v := 8) C hk (by rw [hn]; decide) dX4_tracksMeeting_129 ?_
          refine z_icmp_ge 142 C dX4_tracksMeeting_130 (by decide) (fun c130 => ?_) (fun c130 => ?_)
          · refine z_iconst 0 (by decide) C dX4_tracksMeeting_142 ?_
            refine z_ireturn C F (Nat.le_of_ble_eq_true rfl) (Nat.le_of_ble_eq_true rfl) dX4_tracksMeeting_143 ?_
            first | exact ⟨by rw [mtD, sF_cong (q := fun t => prD D t && hasB (tI S sa l5) (nI t)) (fun t _ => by rw [ev_5 q5, e5, ix, nI_clamp (by omega)]), (hK l5 hl8 (by rw [ls_5 q5 e5, hasB_bit (by omega) (by omega)]; simp)).eq, e5, nI_clamp (by omega)], rfl⟩ | (exfalso; rw [e5] at *; first | exact absurd c121 (nI_pos (by omega)) | exact absurd c130 (nI_ge (b := 8) hl8 (by decide)))
          · refine z_aload_n C rfl dX4_tracksMeeting_133 ?_
            refine z_aload_n C rfl dX4_tracksMeeting_134 ?_
            refine zg1_asked C (fun w h => List.mem_cons_of_mem _ (uc_wsX10 w h)) k3 (List.mem_cons_of_mem _ wc78) dX4_tracksMeeting_135 ?_
            refine z_int (x' := D 54 r) (n5.trans (by simp [askD, q5])) ?_
            refine z_iaload C hk (by rw [hn, e5]; exact vp_in_nI hl8 (by decide)) dX4_tracksMeeting_138 ?_
            refine z_goto 143 C dX4_tracksMeeting_139 (by decide) ?_
            refine z_ireturn C F (Nat.le_of_ble_eq_true rfl) (Nat.le_of_ble_eq_true rfl) dX4_tracksMeeting_143 ?_
            first | exact ⟨by rw [mtD, sF_cong (q := fun t => prD D t && hasB (tI S sa l5) (nI t)) (fun t _ => by rw [ev_5 q5, e5, ix, nI_clamp (by omega)]), (hK l5 hl8 (by rw [ls_5 q5 e5, hasB_bit (by omega) (by omega)]; simp)).eq, e5, nI_clamp (by omega)], rfl⟩ | (exfalso; rw [e5] at *; first | exact absurd c121 (nI_pos (by omega)) | exact absurd c130 (nI_ge (b := 8) hl8 (by decide)))
      by_cases q6 : D 53 r = 6
      · refine z_tableIn 60 C dX4_tracksMeeting_10 (by rw [q6]; decide) (by rw [q6]; decide) (by rw [q6]; rfl) (by decide) ?_
        obtain ⟨x, y, hx, hy, ex, ey⟩ := (hWR r hr).2.2.2 (by simp [q6])
        obtain ⟨bx, ebx, -⟩ := hR.2 x (by omega)
        obtain ⟨b_y, eby, -⟩ := hR.2 y (by omega)
        have lx : ix (D 54 r) = x := by rw [ex, ix]; exact nI_clamp (by omega)
        have ly : ix (D 55 r) = y := by rw [ey, ix]; exact nI_clamp (by omega)
        have f6 := n6 (by simp [q6])
        rw [lx, ebx] at f6
        have f7 := n7 (by simp [q6])
        rw [ly, eby] at f7
        have hls := ls_67 (D := D) (r := r) (by simp [q6])
        rw [(ls_two hWR h40 hr hx hy ex ey).1, (ls_two hWR h40 hr hx hy ex ey).2] at hls
        refine z_aload_n C rfl dX4_tracksMeeting_60 ?_
        refine z_aload_n C rfl dX4_tracksMeeting_61 ?_
        refine zg1_one C (fun w h => List.mem_cons_of_mem _ (uc_wsX10 w h)) k3 (List.mem_cons_of_mem _ wc76) dX4_tracksMeeting_62 ?_
        refine z_ref f6 ?_
        refine z_aload_n C rfl dX4_tracksMeeting_65 ?_
        refine z_callC 2 [zr (some bx), zr (some sa)] C rfl (ih x (by omega) (by omega) (fun l hl hb => hK l hl (by rw [hls]; rw [hasB_or (by omega), hb]; rfl)) bx ebx) rfl (zgoodV LWc_good wc79 wc80 wc81 wc58 wc111) rfl rfl rfl (by decide +kernel) rfl (by rw [hR0]; exact ⟨by show 2 + x + 1 ≤ 2 + r; omega, by show 8 + (3 + 11) + (48 + 22 * x) ≤ 48 + 22 * r; omega⟩) hS.c (by rw [hR0]; exact ⟨Nat.le_refl 0, Nat.le_refl 0⟩) (Nat.le_of_ble_eq_true rfl) dX4_tracksMeeting_66 (fun v66 S66 h66 => ?_) (fun E66 S66 h66 => ?_)
        · obtain ⟨rfl, q66⟩ := h66
          subst S66
          refine z_aload_n C rfl dX4_tracksMeeting_69 ?_
          refine z_aload_n C rfl dX4_tracksMeeting_70 ?_
          refine zg1_other C (fun w h => List.mem_cons_of_mem _ (uc_wsX10 w h)) k3 (List.mem_cons_of_mem _ wc77) dX4_tracksMeeting_71 ?_
          refine z_ref f7 ?_
          refine z_aload_n C rfl dX4_tracksMeeting_74 ?_
          refine z_callC 2 [zr (some b_y), zr (some sa)] C rfl (ih y (by omega) (by omega) (fun l hl hb => hK l hl (by rw [hls]; rw [hasB_or (by omega), hb, Bool.or_true])) b_y eby) rfl (zgoodV LWc_good wc79 wc80 wc81 wc58 wc111) rfl rfl rfl (by decide +kernel) rfl (by rw [hR0]; exact ⟨by show 2 + y + 1 ≤ 2 + r; omega, by show 8 + (3 + 11) + (48 + 22 * y) ≤ 48 + 22 * r; omega⟩) hS.c (by rw [hR0]; exact ⟨Nat.le_refl 0, Nat.le_refl 0⟩) (Nat.le_of_ble_eq_true rfl) dX4_tracksMeeting_75 (fun v75 S75 h75 => ?_) (fun E75 S75 h75 => ?_)
          · obtain ⟨rfl, q75⟩ := h75
            subst S75
            refine z_iand C dX4_tracksMeeting_78 ?_
            refine z_ireturn C F (Nat.le_of_ble_eq_true rfl) (Nat.le_of_ble_eq_true rfl) dX4_tracksMeeting_79 ?_
            exact ⟨by rw [show mtD D (tI S sa) r = mtD D (tI S sa) x &&& mtD D (tI S sa) y from mt_and (fun t _ => (ev_6 q6).trans (by rw [(ev_two hWR h40 hr hx hy ex ey t).1, (ev_two hWR h40 hr hx hy ex ey t).2]))], rfl⟩
          · exact h75.elim
        · exact h66.elim
      by_cases q7 : D 53 r = 7
      · refine z_tableIn 80 C dX4_tracksMeeting_10 (by rw [q7]; decide) (by rw [q7]; decide) (by rw [q7]; rfl) (by decide) ?_
        obtain ⟨x, y, hx, hy, ex, ey⟩ := (hWR r hr).2.2.2 (by simp [q7])
        obtain ⟨bx, ebx, -⟩ := hR.2 x (by omega)
        obtain ⟨b_y, eby, -⟩ := hR.2 y (by omega)
        have lx : ix (D 54 r) = x := by rw [ex, ix]; exact nI_clamp (by omega)
        have ly : ix (D 55 r) = y := by rw [ey, ix]; exact nI_clamp (by omega)
        have f6 := n6 (by simp [q7])
        rw [lx, ebx] at f6
        have f7 := n7 (by simp [q7])
        rw [ly, eby] at f7
        have hls := ls_67 (D := D) (r := r) (by simp [q7])
        rw [(ls_two hWR h40 hr hx hy ex ey).1, (ls_two hWR h40 hr hx hy ex ey).2] at hls
        refine z_aload_n C rfl dX4_tracksMeeting_80 ?_
        refine z_aload_n C rfl dX4_tracksMeeting_81 ?_
        refine zg1_one C (fun w h => List.mem_cons_of_mem _ (uc_wsX10 w h)) k3 (List.mem_cons_of_mem _ wc76) dX4_tracksMeeting_82 ?_
        refine z_ref f6 ?_
        refine z_aload_n C rfl dX4_tracksMeeting_85 ?_
        refine z_callC 2 [zr (some bx), zr (some sa)] C rfl (ih x (by omega) (by omega) (fun l hl hb => hK l hl (by rw [hls]; rw [hasB_or (by omega), hb]; rfl)) bx ebx) rfl (zgoodV LWc_good wc79 wc80 wc81 wc58 wc111) rfl rfl rfl (by decide +kernel) rfl (by rw [hR0]; exact ⟨by show 2 + x + 1 ≤ 2 + r; omega, by show 8 + (3 + 11) + (48 + 22 * x) ≤ 48 + 22 * r; omega⟩) hS.c (by rw [hR0]; exact ⟨Nat.le_refl 0, Nat.le_refl 0⟩) (Nat.le_of_ble_eq_true rfl) dX4_tracksMeeting_86 (fun v86 S86 h86 => ?_) (fun E86 S86 h86 => ?_)
        · obtain ⟨rfl, q86⟩ := h86
          subst S86
          refine z_aload_n C rfl dX4_tracksMeeting_89 ?_
          refine z_aload_n C rfl dX4_tracksMeeting_90 ?_
          refine zg1_other C (fun w h => List.mem_cons_of_mem _ (uc_wsX10 w h)) k3 (List.mem_cons_of_mem _ wc77) dX4_tracksMeeting_91 ?_
          refine z_ref f7 ?_
          refine z_aload_n C rfl dX4_tracksMeeting_94 ?_
          refine z_callC 2 [zr (some b_y), zr (some sa)] C rfl (ih y (by omega) (by omega) (fun l hl hb => hK l hl (by rw [hls]; rw [hasB_or (by omega), hb, Bool.or_true])) b_y eby) rfl (zgoodV LWc_good wc79 wc80 wc81 wc58 wc111) rfl rfl rfl (by decide +kernel) rfl (by rw [hR0]; exact ⟨by show 2 + y + 1 ≤ 2 + r; omega, by show 8 + (3 + 11) + (48 + 22 * y) ≤ 48 + 22 * r; omega⟩) hS.c (by rw [hR0]; exact ⟨Nat.le_refl 0, Nat.le_refl 0⟩) (Nat.le_of_ble_eq_true rfl) dX4_tracksMeeting_95 (fun v95 S95 h95 => ?_) (fun E95 S95 h95 => ?_)
          · obtain ⟨rfl, q95⟩ := h95
            subst S95
            refine z_ior C dX4_tracksMeeting_98 ?_
            refine z_ireturn C F (Nat.le_of_ble_eq_true rfl) (Nat.le_of_ble_eq_true rfl) dX4_tracksMeeting_99 ?_
            exact ⟨by rw [show mtD D (tI S sa) r = mtD D (tI S sa) x ||| mtD D (tI S sa) y from mt_or (fun t _ => (ev_7 q7).trans (by rw [(ev_two hWR h40 hr hx hy ex ey t).1, (ev_two hWR h40 hr hx hy ex ey t).2]))], rfl⟩
          · exact h95.elim
        · exact h86.elim
      by_cases q8 : D 53 r = 8
      · refine z_tableIn 100 C dX4_tracksMeeting_10 (by rw [q8]; decide) (by rw [q8]; decide) (by rw [q8]; rfl) (by decide) ?_
        obtain ⟨x, y, hx, hy, ex, ey⟩ := (hWR r hr).2.2.2 (by simp [q8])
        obtain ⟨bx, ebx, -⟩ := hR.2 x (by omega)
        obtain ⟨b_y, eby, -⟩ := hR.2 y (by omega)
        have lx : ix (D 54 r) = x := by rw [ex, ix]; exact nI_clamp (by omega)
        have ly : ix (D 55 r) = y := by rw [ey, ix]; exact nI_clamp (by omega)
        have f6 := n6 (by simp [q8])
        rw [lx, ebx] at f6
        have hls := ls_8 (D := D) (r := r) q8
        rw [(ls_two hWR h40 hr hx hy ex ey).1] at hls
        refine z_aload_n C rfl dX4_tracksMeeting_100 ?_
        refine z_callC 0 [] C rfl (C_tracksThere hl0 hS) rfl (zgoodV LWc_good wc82 wc83 wc84 wc58 wc85) rfl rfl rfl (by decide +kernel) rfl (by rw [hR0]; exact ⟨by show _ ≤ 2 + r; exact Nat.le_trans (Nat.le_of_ble_eq_true rfl) (Nat.le_add_right _ _), by show _ ≤ 48 + 22 * r; exact Nat.le_trans (Nat.le_of_ble_eq_true rfl) (Nat.le_add_right _ _)⟩) hS.c (by rw [hR0]; exact ⟨Nat.le_refl 0, Nat.le_refl 0⟩) (Nat.le_of_ble_eq_true rfl) dX4_tracksMeeting_101 (fun v101 S101 h101 => ?_) (fun E101 S101 h101 => ?_)
        · obtain ⟨rfl, q101⟩ := h101
          subst S101
          refine z_aload_n C rfl dX4_tracksMeeting_104 ?_
          refine z_aload_n C rfl dX4_tracksMeeting_105 ?_
          refine zg1_one C (fun w h => List.mem_cons_of_mem _ (uc_wsX10 w h)) k3 (List.mem_cons_of_mem _ wc76) dX4_tracksMeeting_106 ?_
          refine z_ref f6 ?_
          refine z_aload_n C rfl dX4_tracksMeeting_109 ?_
          refine z_callC 2 [zr (some bx), zr (some sa)] C rfl (ih x (by omega) (by omega) (fun l hl hb => hK l hl (by rw [hls]; exact hb)) bx ebx) rfl (zgoodV LWc_good wc79 wc80 wc81 wc58 wc111) rfl rfl rfl (by decide +kernel) rfl (by rw [hR0]; exact ⟨by show 2 + x + 1 ≤ 2 + r; omega, by show 8 + (3 + 11) + (48 + 22 * x) ≤ 48 + 22 * r; omega⟩) hS.c (by rw [hR0]; exact ⟨Nat.le_refl 0, Nat.le_refl 0⟩) (Nat.le_of_ble_eq_true rfl) dX4_tracksMeeting_110 (fun v110 S110 h110 => ?_) (fun E110 S110 h110 => ?_)
          · obtain ⟨rfl, q110⟩ := h110
            subst S110
            refine z_iconst (-1) (by decide) C dX4_tracksMeeting_113 ?_
            refine z_ixor C dX4_tracksMeeting_114 ?_
            refine z_iand C dX4_tracksMeeting_115 ?_
            refine z_ireturn C F (Nat.le_of_ble_eq_true rfl) (Nat.le_of_ble_eq_true rfl) dX4_tracksMeeting_116 ?_
            exact ⟨by rw [show mtD D (tI S sa) r = sF (fun t => prD D t && true) 24 &&& (mtD D (tI S sa) x ^^^ (-1)) from mt_not (fun t _ => (ev_8 q8).trans (by rw [(ev_two hWR h40 hr hx hy ex ey t).1])), sF_cong (p := fun t => prD D t && true) (q := pS S L (fun _ _ => true)) (fun i hi => (hT.pS (p := fun _ => true) hi (fun _ _ => rfl)).symm)], rfl⟩
          · exact h110.elim
        · exact h101.elim
      refine z_tableOut 157 C dX4_tracksMeeting_10 (by have r0 := zt_ne (w := 0) q0 (by decide); have r1 := zt_ne (w := 1) q1 (by decide); have r2 := zt_ne (w := 2) q2 (by decide); have r3 := zt_ne (w := 3) q3 (by decide); have r4 := zt_ne (w := 4) q4 (by decide); have r5 := zt_ne (w := 5) q5 (by decide); have r6 := zt_ne (w := 6) q6 (by decide); have r7 := zt_ne (w := 7) q7 (by decide); have r8 := zt_ne (w := 8) q8 (by decide); omega) (by decide) ?_
      have hnum : D 53 r = 1 ∨ D 53 r = 2 ∨ D 53 r = 3 ∨ D 53 r = 4 := by
        first
        | exact Or.inl q1
        | exact Or.inr (Or.inl q2)
        | exact Or.inr (Or.inr (Or.inl q3))
        | exact Or.inr (Or.inr (Or.inr q4))
        | (obtain ⟨k, hk, ek⟩ := (hWR r hr).1
           rcases (show k = 0 ∨ k = 1 ∨ k = 2 ∨ k = 3 ∨ k = 4 ∨ k = 5 ∨ k = 6 ∨ k = 7 ∨ k = 8 by omega) with rfl | rfl | rfl | rfl | rfl | rfl | rfl | rfl | rfl <;> first | (exact absurd ek q0) | (exact absurd ek q1) | (exact absurd ek q2) | (exact absurd ek q3) | (exact absurd ek q4) | (exact absurd ek q5) | (exact absurd ek q6) | (exact absurd ek q7) | (exact absurd ek q8))
      have hask : mI S 5 a9 = D 54 r := n5.trans (by rcases hnum with h | h | h | h <;> simp [askD, h])
      refine z_aload_n C rfl dX4_tracksMeeting_157 ?_
      refine z_aload_n C rfl dX4_tracksMeeting_158 ?_
      refine zg1_kind C (fun w h => List.mem_cons_of_mem _ (uc_wsX10 w h)) k3 (List.mem_cons_of_mem _ wc75) dX4_tracksMeeting_159 ?_
      refine z_int n4 ?_
      refine z_aload_n C rfl dX4_tracksMeeting_162 ?_
      refine zg1_asked C (fun w h => List.mem_cons_of_mem _ (uc_wsX10 w h)) k3 (List.mem_cons_of_mem _ wc78) dX4_tracksMeeting_163 ?_
      refine z_int hask ?_
      refine z_callC 2 [zi (D 53 r), zi (D 54 r)] C rfl (C_tracksMeetingNumber hl0 hS hT.k (D 53 r) (D 54 r)) rfl (zgoodV LWc_good wc94 wc95 wc96 wc58 wc97) rfl rfl rfl (by decide +kernel) rfl (by rw [hR0]; exact ⟨by show _ ≤ 2 + r; exact Nat.le_trans (Nat.le_of_ble_eq_true rfl) (Nat.le_add_right _ _), by show _ ≤ 48 + 22 * r; exact Nat.le_trans (Nat.le_of_ble_eq_true rfl) (Nat.le_add_right _ _)⟩) hS.c (by rw [hR0]; exact ⟨Nat.le_refl 0, Nat.le_refl 0⟩) (Nat.le_of_ble_eq_true rfl) dX4_tracksMeeting_166 (fun v166 S166 h166 => ?_) (fun E166 S166 h166 => ?_)
      · obtain ⟨rfl, q166⟩ := h166
        subst S166
        refine z_ireturn C F (Nat.le_of_ble_eq_true rfl) (Nat.le_of_ble_eq_true rfl) dX4_tracksMeeting_169 ?_
        exact ⟨by rw [mtD, sF_cong (q := pS S L (fun _ a => mnS S L (D 53 r) (D 54 r) a)) (fun i hi => (hT.pS (p := fun t => ev D (tI S sa) r t) hi (fun b hb => by
          have hb := hT.at hi hb
          exact ev_num hnum hday hb.2.2.2.1 hb.2.2.2.2.1 hb.2.2.2.2.2.1 hb.2.2.2.2.2.2.1 (hpl i).1 (hpl i).2)).symm)], rfl⟩
      · exact h166.elim
    · cases c1
