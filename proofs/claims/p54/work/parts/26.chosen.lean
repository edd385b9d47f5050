/-! the class: what a list takes -/
set_option maxRecDepth 100000 in
set_option maxHeartbeats 4000000 in
theorem C_chosen {l : Launch} (hl0 : l.stackTraces = false) {D : ZD} {lk : ZL} {as : Nat → Nat} {S : ZM} {L : Nat → Nat} (hS : cS S L) (hT : rT D S L) (hG : rG D lk S L) (hR : rR D as S L) (hLi : rL D S L) (hw : wfA D lk as) (hday : mI S 36 (L 0) = D 40 0) (hpl : ∀ t : Nat, 0 ≤ D 44 t ∧ ¬ D 45 t = -1) {sa : Nat} (hk : mK S sa = 10) (hn : mN S sa = 8) {li a : Nat} (hl : li < dL D) (ha : tQ S (L 4) li = some a) (hr : ix (D 58 li) < dR D) (hK : ∀ l2 : Nat, l2 < 8 → hasB (lsD D (ix (D 58 li))) (nI l2) = true → subD D (tI S sa l2)) : zMet l yX4_chosen (Cond.code yX4_chosen cX4_chosen 9 (some .int) :: LWc) ({ frames := 42, cells := 0, slots := 0, locals := 928 } : Room) 0 0 [zr (some (L 0)), zr (some a), zr (some sa)] S (zPo (fun v S' => v = some (zi (chD D (tI S sa) li)) ∧ S' = S) (fun _ _ => False)) := by
  refine zMet.of' [some (zr (some (L 0))), some (zr (some a)), some (zr (some sa)), none, none, none, none, none, none] hl0 (by decide) rfl (Nat.le_of_ble_eq_true rfl) rfl ?_
  intro X C N hR0 hN0 hX F
  subst hX
  obtain ⟨a9, r, e9, ka, hr0, hr5, ho, hlim⟩ := hLi.2 li hl
  have ea : a9 = a := by rw [e9] at ha; exact Option.some.inj ha
  subst ea
  have hl5 : dR D ≤ 40 := hw.1.2.2.1.2
  have loop : ∀ (f : Nat) (left tk s : Int32) (w7 w8 : Option ZV), pcB left ≤ f → subD D left → tkL tk (chL (prD D) (plD D (D 59 li)) (fun j => D 42 j) (D 60 li) f left s) = chD D (tI S sa) li → zW X 9 0 0 S 22 [some (zr (some (L 0))), some (zr (some a9)), some (zr (some sa)), some (zi (left)), some (zi (tk)), some (zi (s)), some (zi (nI (pcB left))), w7, w8] [] := by
    intro f
    induction f with
    | zero =>
      intro left tk s w7 w8 hf hsub hR9
      have h0 : pcB left = 0 := by omega
      refine z_iload C rfl dX4_chosen_22 ?_
      refine z_if_le 95 C dX4_chosen_24 (by decide) (fun c24 => ?_) (fun c24 => ?_)
      · refine z_iload C rfl dX4_chosen_95 ?_
        refine z_ireturn C F (Nat.le_of_ble_eq_true rfl) (Nat.le_of_ble_eq_true rfl) dX4_chosen_97 ?_
        exact ⟨by rw [← hR9]; rfl, rfl⟩
      · exact absurd (by rw [h0]; decide) c24
    | succ f ih =>
      intro left tk s w7 w8 hf hsub hR9
      refine z_iload C rfl dX4_chosen_22 ?_
      refine z_if_le 95 C dX4_chosen_24 (by decide) (fun c24 => ?_) (fun c24 => ?_)
      · have h0 : pcB left = 0 := by
          rcases Nat.eq_zero_or_pos (pcB left) with q | q
          · exact q
          · exact absurd c24 (nI_nle q (by have := pcB_32 left; omega))
        refine z_iload C rfl dX4_chosen_95 ?_
        refine z_ireturn C F (Nat.le_of_ble_eq_true rfl) (Nat.le_of_ble_eq_true rfl) dX4_chosen_97 ?_
        exact ⟨by rw [← hR9, chL_none (first_zero h0)]; rfl, rfl⟩
      · have hpos : 0 < pcB left := by
          rcases Nat.eq_zero_or_pos (pcB left) with q | q
          · rw [q] at c24; exact absurd (by decide) c24
          · exact q
        refine z_aload_n C rfl dX4_chosen_27 ?_
        refine z_iload_n C rfl dX4_chosen_28 ?_
        refine z_aload_n C rfl dX4_chosen_29 ?_
        refine zg0_order C (fun w h => List.mem_cons_of_mem _ (uc_wsX00 w h)) ka (List.mem_cons_of_mem _ wc109) dX4_chosen_30 ?_
        refine z_int ho ?_
        refine z_callC 2 [zi left, zi (D 59 li)] C rfl (C_firstOf hl0 hS hT.k left (D 59 li)) rfl (zgoodV LWc_good wc116 wc117 wc118 wc58 wc119) rfl rfl rfl (by decide +kernel) rfl (by rw [hR0]; exact ⟨Nat.le_of_ble_eq_true rfl, Nat.le_of_ble_eq_true rfl⟩) hS.c (by rw [hR0]; exact ⟨Nat.le_of_ble_eq_true rfl, Nat.le_of_ble_eq_true rfl⟩) (Nat.le_of_ble_eq_true rfl) dX4_chosen_33 (fun v33 S33 h33 => ?_) (fun E33 S33 h33 => ?_)
        · obtain ⟨rfl, q33⟩ := h33
          subst S33
          rw [hT.first] at *
          obtain ⟨j, hj, hj24, hjp, hjb⟩ := first_some (ord := D 59 li) hsub hpos
          refine z_int (x' := nI j) (by rw [hj]; rfl) ?_
          refine z_istore [_, _, _, _, _, _, _, _, _] C (by decide) rfl dX4_chosen_36 ?_
          refine z_iload_n C rfl dX4_chosen_38 ?_
          refine z_iconst 1 (by decide) C dX4_chosen_39 ?_
          refine z_iload C rfl dX4_chosen_40 ?_
          refine z_ishl C dX4_chosen_42 ?_
          refine z_iconst (-1) (by decide) C dX4_chosen_43 ?_
          refine z_ixor C dX4_chosen_44 ?_
          refine z_iand C dX4_chosen_45 ?_
          refine z_istore_n [_, _, _, _, _, _, _, _, _] C (by decide) rfl dX4_chosen_46 ?_
          refine z_iload C rfl dX4_chosen_47 ?_
          refine z_aload_n C rfl dX4_chosen_49 ?_
          refine z_iconst 1 (by decide) C dX4_chosen_50 ?_
          refine z_iload C rfl dX4_chosen_51 ?_
          refine z_ishl C dX4_chosen_53 ?_
          refine z_callC 1 [zi (1 <<< (nI j &&& 31))] C rfl (C_lengthsOf hl0 hS hT.k (bitI j)) rfl (zgoodV LWc_good wc120 wc121 wc122 wc58 wc123) rfl rfl rfl (by decide +kernel) rfl (by rw [hR0]; exact ⟨Nat.le_of_ble_eq_true rfl, Nat.le_of_ble_eq_true rfl⟩) hS.c (by rw [hR0]; exact ⟨Nat.le_of_ble_eq_true rfl, Nat.le_of_ble_eq_true rfl⟩) (Nat.le_of_ble_eq_true rfl) dX4_chosen_54 (fun v54 S54 h54 => ?_) (fun E54 S54 h54 => ?_)
          · obtain ⟨rfl, q54⟩ := h54
            subst S54
            refine z_int (rT_len1 hT hj24 hjp) ?_
            refine z_iadd C dX4_chosen_57 ?_
            refine z_istore [_, _, _, _, _, _, _, _, _] C (by decide) rfl dX4_chosen_58 ?_
            refine z_aload_n C rfl dX4_chosen_60 ?_
            refine zg0_limit C (fun w h => List.mem_cons_of_mem _ (uc_wsX00 w h)) ka (List.mem_cons_of_mem _ wc110) dX4_chosen_61 ?_
            refine z_int hlim ?_
            refine z_if_eq 76 C dX4_chosen_64 (by decide) (fun c64 => ?_) (fun c64 => ?_)
            · refine z_iload C rfl dX4_chosen_76 ?_
              refine z_iconst 1 (by decide) C dX4_chosen_78 ?_
              refine z_iload C rfl dX4_chosen_79 ?_
              refine z_ishl C dX4_chosen_81 ?_
              refine z_ior C dX4_chosen_82 ?_
              refine z_istore [_, _, _, _, _, _, _, _, _] C (by decide) rfl dX4_chosen_83 ?_
              refine z_iload C rfl dX4_chosen_85 ?_
              refine z_istore [_, _, _, _, _, _, _, _, _] C (by decide) rfl dX4_chosen_87 ?_
              refine z_inc (-1) [_, _, _, _, _, _, _, _, _] C rfl (by decide) (by decide) rfl dX4_chosen_89 ?_
              refine z_goto 22 C dX4_chosen_92 (by decide) ?_
              have hpc := pcB_out (show j < 32 by omega) hjb
              have e6 : nI (pcB left) + -1 = nI (pcB (outB left j)) := by rw [← hpc]; exact pk_m1 _
              first
              | (have q := ih (outB left j) (tk ||| bitI j) (s + D 42 j) (some (zi (nI j))) (some (zi (s + D 42 j))) (by omega) (subD_out (by omega) hsub) (by rw [← hR9, chL_yes hj (by first | exact Or.inl c64 | exact Or.inr (Int32.not_lt.mp c73))]; rfl)
                 rw [← e6] at q; exact q)
              | (have q := ih (outB left j) tk s (some (zi (nI j))) (some (zi (s + D 42 j))) (by omega) (subD_out (by omega) hsub) (by rw [← hR9, chL_no hj (by rintro (q | q); exact c64 q; exact absurd c73 (Int32.not_lt.mpr q))])
                 rw [← e6] at q; exact q)
            · refine z_iload C rfl dX4_chosen_67 ?_
              refine z_aload_n C rfl dX4_chosen_69 ?_
              refine zg0_limit C (fun w h => List.mem_cons_of_mem _ (uc_wsX00 w h)) ka (List.mem_cons_of_mem _ wc110) dX4_chosen_70 ?_
              refine z_int hlim ?_
              refine z_icmp_gt 89 C dX4_chosen_73 (by decide) (fun c73 => ?_) (fun c73 => ?_)
              · refine z_inc (-1) [_, _, _, _, _, _, _, _, _] C rfl (by decide) (by decide) rfl dX4_chosen_89 ?_
                refine z_goto 22 C dX4_chosen_92 (by decide) ?_
                have hpc := pcB_out (show j < 32 by omega) hjb
                have e6 : nI (pcB left) + -1 = nI (pcB (outB left j)) := by rw [← hpc]; exact pk_m1 _
                first
                | (have q := ih (outB left j) (tk ||| bitI j) (s + D 42 j) (some (zi (nI j))) (some (zi (s + D 42 j))) (by omega) (subD_out (by omega) hsub) (by rw [← hR9, chL_yes hj (by first | exact Or.inl c64 | exact Or.inr (Int32.not_lt.mp c73))]; rfl)
                   rw [← e6] at q; exact q)
                | (have q := ih (outB left j) tk s (some (zi (nI j))) (some (zi (s + D 42 j))) (by omega) (subD_out (by omega) hsub) (by rw [← hR9, chL_no hj (by rintro (q | q); exact c64 q; exact absurd c73 (Int32.not_lt.mpr q))])
                   rw [← e6] at q; exact q)
              · refine z_iload C rfl dX4_chosen_76 ?_
                refine z_iconst 1 (by decide) C dX4_chosen_78 ?_
                refine z_iload C rfl dX4_chosen_79 ?_
                refine z_ishl C dX4_chosen_81 ?_
                refine z_ior C dX4_chosen_82 ?_
                refine z_istore [_, _, _, _, _, _, _, _, _] C (by decide) rfl dX4_chosen_83 ?_
                refine z_iload C rfl dX4_chosen_85 ?_
                refine z_istore [_, _, _, _, _, _, _, _, _] C (by decide) rfl dX4_chosen_87 ?_
                refine z_inc (-1) [_, _, _, _, _, _, _, _, _] C rfl (by decide) (by decide) rfl dX4_chosen_89 ?_
                refine z_goto 22 C dX4_chosen_92 (by decide) ?_
                have hpc := pcB_out (show j < 32 by omega) hjb
                have e6 : nI (pcB left) + -1 = nI (pcB (outB left j)) := by rw [← hpc]; exact pk_m1 _
                first
                | (have q := ih (outB left j) (tk ||| bitI j) (s + D 42 j) (some (zi (nI j))) (some (zi (s + D 42 j))) (by omega) (subD_out (by omega) hsub) (by rw [← hR9, chL_yes hj (by first | exact Or.inl c64 | exact Or.inr (Int32.not_lt.mp c73))]; rfl)
                   rw [← e6] at q; exact q)
                | (have q := ih (outB left j) tk s (some (zi (nI j))) (some (zi (s + D 42 j))) (by omega) (subD_out (by omega) hsub) (by rw [← hR9, chL_no hj (by rintro (q | q); exact c64 q; exact absurd c73 (Int32.not_lt.mpr q))])
                   rw [← e6] at q; exact q)
          · exact h54.elim
        · exact h33.elim
  refine z_aload_n C rfl dX4_chosen_0 ?_
  refine z_aload_n C rfl dX4_chosen_1 ?_
  refine zg0_rule C (fun w h => List.mem_cons_of_mem _ (uc_wsX00 w h)) ka (List.mem_cons_of_mem _ wc108) dX4_chosen_2 ?_
  refine z_ref hr0 ?_
  refine z_aload_n C rfl dX4_chosen_5 ?_
  refine z_callC 2 [zr (some r), zr (some sa)] C rfl (C_tracksMeeting hl0 hS hT hG hR hw hday hpl hk hn 41 (ix (D 58 li)) (by omega) hr hK r hr5) rfl (zgoodV LWc_good wc79 wc80 wc81 wc58 wc111) rfl rfl rfl (by decide +kernel) rfl (by rw [hR0]; exact ⟨by show 2 + (ix (D 58 li)) + 1 ≤ 42; omega, by show 8 + (3 + 11) + (48 + 22 * (ix (D 58 li))) ≤ 928; omega⟩) hS.c (by rw [hR0]; exact ⟨Nat.zero_le _, Nat.zero_le _⟩) (Nat.le_of_ble_eq_true rfl) dX4_chosen_6 (fun v6 S6 h6 => ?_) (fun E6 S6 h6 => ?_)
  · obtain ⟨rfl, q6⟩ := h6
    subst S6
    refine z_istore_n [_, _, _, _, _, _, _, _, _] C (by decide) rfl dX4_chosen_9 ?_
    refine z_iconst 0 (by decide) C dX4_chosen_10 ?_
    refine z_istore [_, _, _, _, _, _, _, _, _] C (by decide) rfl dX4_chosen_11 ?_
    refine z_iconst 0 (by decide) C dX4_chosen_13 ?_
    refine z_istore [_, _, _, _, _, _, _, _, _] C (by decide) rfl dX4_chosen_14 ?_
    refine z_iload_n C rfl dX4_chosen_16 ?_
    refine z_callS 1 [zi (mtD D (tI S sa) (ix (D 58 li)))] C (C_bitCount hl0 _) rfl (zgoodS LWc_good wc112 wc113 wc114 wc115) rfl rfl rfl (by decide +kernel) rfl (by rw [hR0]; exact ⟨Nat.le_of_ble_eq_true rfl, Nat.le_of_ble_eq_true rfl⟩) (by rw [hR0]; exact ⟨Nat.le_of_ble_eq_true rfl, Nat.le_of_ble_eq_true rfl⟩) (Nat.le_of_ble_eq_true rfl) dX4_chosen_17 (fun v17 S17 h17 => ?_) (fun E17 S17 h17 => ?_)
    · obtain ⟨rfl, q17⟩ := h17
      subst S17
      refine z_int (bcJ_pc _) ?_
      refine z_istore [_, _, _, _, _, _, _, _, _] C (by decide) rfl dX4_chosen_20 ?_
      exact loop 24 _ 0 0 none none (pcB_24 (subD_mt D (tI S sa) _)) (subD_mt D (tI S sa) _) rfl
    · exact h17.elim
  · exact h6.elim
