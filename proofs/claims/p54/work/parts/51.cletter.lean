/-! the class: letter -/
set_option maxRecDepth 100000 in
set_option maxHeartbeats 4000000 in
theorem C_letter {l : Launch} (hl0 : l.stackTraces = false) {D : ZD} {J : Nat → Int64} {lk : ZL} {as : Nat → Nat} {S : ZM} {L T : Nat → Nat} (hR1 : cR D J lk as S L T) (x c : Int32) : zMet l yX4_letter (Cond.code yX4_letter cX4_letter 4 (some .int) :: LWc) ({ frames := 7, cells := 3, slots := 18, locals := 108 } : Room) 3 18 [zr (some (L 0)), zi x, zi c] S (zPo (fun v S' => ∃ g : Nat, g < 16 ∧ g < dG D ∧ x = nI g ∧ D 51 g = 0 ∧ 97 ≤ c ∧ c ≤ 122 ∧ D 49 g < 6 ∧ v = some (zi (D 49 g + 1)) ∧ cR (opLet D g c) J lk as S' L T) (fun E S' => S' = S ∧ ((¬ hasTg D x ∧ E = "java/util/NoSuchElementException") ∨ (hasTg D x ∧ ¬ (97 ≤ c ∧ c ≤ 122) ∧ E = "java/lang/IllegalArgumentException") ∨ (∃ g : Nat, g < 16 ∧ g < dG D ∧ x = nI g ∧ D 51 g = 0 ∧ 97 ≤ c ∧ c ≤ 122 ∧ ¬ D 49 g < 6 ∧ E = "java/lang/IllegalStateException")))) := by
  refine zMet.of' [some (zr (some (L 0))), some (zi x), some (zi c), none] hl0 (by decide) rfl (Nat.le_of_ble_eq_true rfl) rfl ?_
  intro X C N hR hN0 hX F
  subst hX
  obtain ⟨hX0, hV, hK, hU, hQ, hF⟩ := id hR1
  obtain ⟨hS, hT, hG, hRR, hLL, hA, hday, hpl, hO, hAc⟩ := id hX0
  refine z_aload_n C rfl dX4_letter_0 ?_
  refine z_iload_n C rfl dX4_letter_1 ?_
  refine z_callC 1 [zi x] C rfl (C_needTag hl0 hS hG.k x) rfl (zgoodV LWc_good wc168 wc169 wc170 wc58 wc171) rfl rfl rfl (by decide +kernel) rfl (by rw [hR]; exact ⟨Nat.le_of_ble_eq_true rfl, Nat.le_of_ble_eq_true rfl⟩) hS.c (by rw [hR]; exact ⟨Nat.le_of_ble_eq_true rfl, Nat.le_of_ble_eq_true rfl⟩) (Nat.le_of_ble_eq_true rfl) dX4_letter_2 (fun v2 S2 h2 => ?_) (fun E2 S2 h2 => ?_)
  · obtain ⟨b9, e2, z2, rfl, q2⟩ := h2
    subst S2
    obtain ⟨g, hg2, hgG2, ex2, h51_2, hl2, ea2, k4_2, n10_2⟩ := tG_some hR1 e2 z2
    obtain ⟨⟨-, hle, h6, nm, enm, knm, lnm, fnm⟩, h49⟩ := rG.tg hR1 hgG2 ea2
    refine z_astore_n [_, _, _, _] C (by decide) rfl dX4_letter_5 ?_
    refine z_iload_n C rfl dX4_letter_6 ?_
    refine z_bipush 97 (by decide) C dX4_letter_7 ?_
    refine z_bipush 122 (by decide) C dX4_letter_9 ?_
    refine z_callS 3 [zi c, zi 97, zi 122] C (C_needRange hl0 c 97 122) rfl (zgoodS LWc_good wc145 wc146 wc58 wc147) rfl rfl rfl (by decide +kernel) rfl (by rw [hR]; exact ⟨Nat.le_of_ble_eq_true rfl, Nat.le_of_ble_eq_true rfl⟩) (by rw [hR]; exact ⟨Nat.le_of_ble_eq_true rfl, Nat.le_of_ble_eq_true rfl⟩) (Nat.le_of_ble_eq_true rfl) dX4_letter_11 (fun v11 S11 h11 => ?_) (fun E11 S11 h11 => ?_)
    · obtain ⟨lo11, hi11, rfl, q11⟩ := h11
      subst S11
      refine z_aload_n C rfl dX4_letter_14 ?_
      refine zg2_letters C (fun w h => List.mem_cons_of_mem _ (uc_wsX20 w h)) k4_2 (List.mem_cons_of_mem _ wc166) dX4_letter_15 ?_
      refine z_int (hle.trans h49.symm) ?_
      refine z_bipush 6 (by decide) C dX4_letter_18 ?_
      refine z_icmp_lt 33 C dX4_letter_20 (by decide) (fun c20 => ?_) (fun c20 => ?_)
      · obtain ⟨m, em, hm⟩ := in_nI (n := 122) (x := c) (Int32.le_trans (by decide) lo11) hi11 (by decide)
        have hnc : vp_nar .char c = c := by
          have q := (pk_charN (q := m) (by omega)).1
          rw [← em] at q
          unfold vp_nar; rw [q]
        have hn6 : ix (D 49 g) < 6 := by rw [h49] at c20; exact (nI_ltI (b := 6) (by omega) (by decide)).1 c20
        refine z_aload_n C rfl dX4_letter_33 ?_
        refine zg2_name C (fun w h => List.mem_cons_of_mem _ (uc_wsX20 w h)) k4_2 (List.mem_cons_of_mem _ wc167) dX4_letter_34 ?_
        refine z_ref enm ?_
        refine z_aload_n C rfl dX4_letter_37 ?_
        refine zg2_letters C (fun w h => List.mem_cons_of_mem _ (uc_wsX20 w h)) k4_2 (List.mem_cons_of_mem _ wc166) dX4_letter_38 ?_
        refine z_int (hle.trans h49.symm) ?_
        refine z_iload_n C rfl dX4_letter_41 ?_
        refine z_castore C knm (by rw [lnm, h49]; exact vp_in_nI hn6 (by decide)) dX4_letter_42 ?_
        refine z_mem (S' := eI S nm (ix (D 49 g)) c) (by rw [hnc]) ?_
        refine z_aload_n C rfl dX4_letter_43 ?_
        refine z_dup rfl C dX4_letter_44 ?_
        refine zg2_letters C (fun w h => List.mem_cons_of_mem _ (uc_wsX20 w h)) k4_2 (List.mem_cons_of_mem _ wc166) dX4_letter_45 ?_
        refine z_int (hle.trans h49.symm) ?_
        refine z_iconst 1 (by decide) C dX4_letter_48 ?_
        refine z_iadd C dX4_letter_49 ?_
        refine zp2_letters C (fun w h => List.mem_cons_of_mem _ (uc_wsX20 w h)) k4_2 (List.mem_cons_of_mem _ wc166) dX4_letter_50 ?_
        refine z_aload_n C rfl dX4_letter_53 ?_
        refine zg2_letters C (fun w h => List.mem_cons_of_mem _ (uc_wsX20 w h)) k4_2 (List.mem_cons_of_mem _ wc166) dX4_letter_54 ?_
        refine z_int (x' := D 49 g + 1) (mI_sI _ _ _ _) ?_
        refine z_ireturn C F (Nat.le_of_ble_eq_true rfl) (Nat.le_of_ble_eq_true rfl) dX4_letter_57 ?_
        exact ⟨g, hg2, hgG2, ex2, h51_2, lo11, hi11, c20, rfl, hR1.letter hgG2 ea2 enm c20 ⟨m, em, by omega⟩⟩
      · refine z_throwS (text := "the name has no room for a letter") ["java/lang/RuntimeException", "java/lang/Exception"] C F N (by decide +kernel) (by decide +kernel) (List.mem_cons_of_mem _ wc141) (List.mem_cons_of_mem _ wc142) (by decide +kernel) (fun w h => List.mem_cons_of_mem _ (ac_1 w h)) bc_1 (by decide) (by decide +kernel) dX4_letter_23 dX4_letter_26 dX4_letter_27 dX4_letter_29 dX4_letter_32 (by rw [hR]; exact Nat.le_of_ble_eq_true rfl) (by rw [hR]; exact Nat.le_of_ble_eq_true rfl) (by rw [hR]; exact Nat.le_of_ble_eq_true rfl) (by rw [hR]; exact Nat.le_of_ble_eq_true rfl) (Nat.le_of_ble_eq_true rfl) (Nat.le_of_ble_eq_true rfl) ?_
        exact ⟨rfl, Or.inr (Or.inr ⟨g, hg2, hgG2, ex2, h51_2, lo11, hi11, c20, rfl⟩)⟩
    · obtain ⟨e11, rfl, q11⟩ := h11
      subst S11
      exact z_out C F N (Nat.le_of_ble_eq_true rfl) (Nat.le_of_ble_eq_true rfl) ⟨rfl, Or.inr (Or.inl ⟨⟨g, hg2, hgG2, ex2, h51_2⟩, e11, rfl⟩)⟩
  · obtain ⟨e2, rfl, q2⟩ := h2
    subst S2
    exact z_out C F N (Nat.le_of_ble_eq_true rfl) (Nat.le_of_ble_eq_true rfl) ⟨rfl, Or.inl ⟨tG_none hR1 e2, rfl⟩⟩
