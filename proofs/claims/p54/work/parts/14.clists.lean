/-! the class: lists behind lists, counts of bits, least of two, copies of rows -/
set_option maxRecDepth 100000 in
set_option maxHeartbeats 4000000 in
theorem C_withListsBehind {l : Launch} (hl0 : l.stackTraces = false) {S : ZM} {L : Nat → Nat} (hS : cS S L) (hLr : cLr S L) (x : Int32) : zMet l yX4_withListsBehind (Cond.code yX4_withListsBehind cX4_withListsBehind 6 (some .int) :: LWc) ({ frames := 1, cells := 0, slots := 0, locals := 21 } : Room) 0 0 [zr (some (L 0)), zi x] S (zPo (fun v S' => v = some (zi (wlO (lsS S L) 8 x)) ∧ S' = S) (fun _ _ => False)) := by
  refine zMet.of' [some (zr (some (L 0))), some (zi x), none, none, none, none] hl0 (by decide) rfl (Nat.le_of_ble_eq_true rfl) rfl ?_
  intro X C N hR hN0 hX F
  subst hX
  have loop : ∀ (m j : Nat) (w4 w5 : Option ZV), j + m = 8 → zW X 6 0 0 S 4 [some (zr (some (L 0))), some (zi x), some (zi (wlO (lsS S L) j x)), some (zi (nI j)), w4, w5] [] := by
    intro m
    induction m with
    | zero =>
      intro j w4 w5 hj
      obtain rfl : j = 8 := by omega
      refine z_iload_n C rfl dX4_withListsBehind_4 ?_
      refine z_bipush 8 (by decide) C dX4_withListsBehind_5 ?_
      refine z_icmp_ge 65 C dX4_withListsBehind_7 (by decide) (fun c7 => ?_) (fun c7 => ?_)
      · refine z_iload_n C rfl dX4_withListsBehind_65 ?_
        refine z_ireturn C F (Nat.le_of_ble_eq_true rfl) (Nat.le_of_ble_eq_true rfl) dX4_withListsBehind_66 ?_
        exact ⟨rfl, rfl⟩
      · exact absurd (by decide) c7
    | succ m ihm =>
      intro j w4 w5 hj
      have inner : ∀ (n i : Nat) (w5 : Option ZV), i + n = 8 → zW X 6 0 0 S 13 [some (zr (some (L 0))), some (zi x), some (zi (wlI (lsS S L) i (wlO (lsS S L) j x))), some (zi (nI j)), some (zi (nI i)), w5] [] := by
        intro n
        induction n with
        | zero =>
          intro i w5 hi
          obtain rfl : i = 8 := by omega
          refine z_iload C rfl dX4_withListsBehind_13 ?_
          refine z_bipush 8 (by decide) C dX4_withListsBehind_15 ?_
          refine z_icmp_ge 59 C dX4_withListsBehind_17 (by decide) (fun c17 => ?_) (fun c17 => ?_)
          · refine z_inc (1) [_, _, _, _, _, _] C rfl (by decide) (by decide) rfl dX4_withListsBehind_59 ?_
            refine z_goto 4 C dX4_withListsBehind_62 (by decide) ?_
            have q := ihm (j + 1) (some (zi (nI 8))) w5 (by omega)
            rw [nI_succ] at q
            exact q
          · exact absurd (by decide) c17
        | succ n ih =>
          intro i w5 hi
          have hi8 : i < 8 := by omega
          have fin : ∀ (r : Int32) (w5 : Option ZV), wlI (lsS S L) (i + 1) (wlO (lsS S L) j x) = r → zW X 6 0 0 S 13 [some (zr (some (L 0))), some (zi x), some (zi (r)), some (zi (nI j)), some (zi (nI i + 1)), w5] [] := by
            intro r w5 e
            have q := ih (i + 1) w5 (by omega)
            rw [e, nI_succ] at q
            exact q
          refine z_iload C rfl dX4_withListsBehind_13 ?_
          refine z_bipush 8 (by decide) C dX4_withListsBehind_15 ?_
          refine z_icmp_ge 59 C dX4_withListsBehind_17 (by decide) (fun c17 => ?_) (fun c17 => ?_)
          · exact absurd c17 (n8 hi8)
          · refine z_aload_n C rfl dX4_withListsBehind_20 ?_
            refine z_iload C rfl dX4_withListsBehind_21 ?_
            refine z_callC 1 [zi (nI i)] C rfl (C_listOrNull hl0 hS (nI i)) rfl (zgoodV LWc_good wc125 wc126 wc127 wc58 wc128) rfl rfl rfl (by decide +kernel) rfl (by rw [hR]; exact ⟨Nat.le_of_ble_eq_true rfl, Nat.le_of_ble_eq_true rfl⟩) hS.c (by rw [hR]; exact ⟨Nat.le_of_ble_eq_true rfl, Nat.le_of_ble_eq_true rfl⟩) (Nat.le_of_ble_eq_true rfl) dX4_withListsBehind_23 (fun v23 S23 h23 => ?_) (fun E23 S23 h23 => ?_)
            · obtain ⟨rfl, q23⟩ := h23
              subst S23
              refine z_ref (cAt_nI hi8 (by decide)) ?_
              refine z_astore [_, _, _, _, _, _] C (by decide) rfl dX4_withListsBehind_26 ?_
              refine z_aload C rfl dX4_withListsBehind_28 ?_
              refine z_ifnull 53 C dX4_withListsBehind_30 (by decide) (fun c30 => ?_) (fun a30 c30 => ?_)
              · refine z_inc (1) [_, _, _, _, _, _] C rfl (by decide) (by decide) rfl dX4_withListsBehind_53 ?_
                refine z_goto 13 C dX4_withListsBehind_56 (by decide) ?_
                first | exact fin _ _ (wlI_none (by rw [lsS, c30]; rfl)) | exact fin _ _ (wlI_no (b := mI S 9 ((mQ S 0 a30).getD 0)) (by simp only [lsS, c30, Option.map_some]) (bI_eq.mp c39)) | exact fin _ _ (wlI_yes (b := mI S 9 r) (by simp only [lsS, c30, Option.map_some, hr, Option.getD_some]) (bI_ne.mp c39))
              · refine z_iload_n C rfl dX4_withListsBehind_33 ?_
                refine z_iload C rfl dX4_withListsBehind_34 ?_
                refine z_callS 2 [zi (wlI (lsS S L) i (wlO (lsS S L) j x)), zi (nI i)] C (C_hasBit hl0 _ (nI i)) rfl (zgoodS LWc_good wc102 wc103 wc58 wc104) rfl rfl rfl (by decide +kernel) rfl (by rw [hR]; exact ⟨Nat.le_of_ble_eq_true rfl, Nat.le_of_ble_eq_true rfl⟩) (by rw [hR]; exact ⟨Nat.le_of_ble_eq_true rfl, Nat.le_of_ble_eq_true rfl⟩) (Nat.le_of_ble_eq_true rfl) dX4_withListsBehind_36 (fun v36 S36 h36 => ?_) (fun E36 S36 h36 => ?_)
                · obtain ⟨rfl, q36⟩ := h36
                  subst S36
                  refine z_if_eq 53 C dX4_withListsBehind_39 (by decide) (fun c39 => ?_) (fun c39 => ?_)
                  · refine z_inc (1) [_, _, _, _, _, _] C rfl (by decide) (by decide) rfl dX4_withListsBehind_53 ?_
                    refine z_goto 13 C dX4_withListsBehind_56 (by decide) ?_
                    first | exact fin _ _ (wlI_none (by rw [lsS, c30]; rfl)) | exact fin _ _ (wlI_no (b := mI S 9 ((mQ S 0 a30).getD 0)) (by simp only [lsS, c30, Option.map_some]) (bI_eq.mp c39)) | exact fin _ _ (wlI_yes (b := mI S 9 r) (by simp only [lsS, c30, Option.map_some, hr, Option.getD_some]) (bI_ne.mp c39))
                  · refine z_iload_n C rfl dX4_withListsBehind_42 ?_
                    refine z_aload C rfl dX4_withListsBehind_43 ?_
                    refine z_ref c30 ?_
                    obtain ⟨kl, r, hr, kr⟩ := hLr i a30 hi8 c30
                    refine zg0_rule C (fun w h => List.mem_cons_of_mem _ (uc_wsX00 w h)) kl (List.mem_cons_of_mem _ wc108) dX4_withListsBehind_45 ?_
                    refine z_ref hr ?_
                    refine zg1_listSet C (fun w h => List.mem_cons_of_mem _ (uc_wsX10 w h)) kr (List.mem_cons_of_mem _ wc124) dX4_withListsBehind_48 ?_
                    refine z_ior C dX4_withListsBehind_51 ?_
                    refine z_istore_n [_, _, _, _, _, _] C (by decide) rfl dX4_withListsBehind_52 ?_
                    refine z_inc (1) [_, _, _, _, _, _] C rfl (by decide) (by decide) rfl dX4_withListsBehind_53 ?_
                    refine z_goto 13 C dX4_withListsBehind_56 (by decide) ?_
                    first | exact fin _ _ (wlI_none (by rw [lsS, c30]; rfl)) | exact fin _ _ (wlI_no (b := mI S 9 ((mQ S 0 a30).getD 0)) (by simp only [lsS, c30, Option.map_some]) (bI_eq.mp c39)) | exact fin _ _ (wlI_yes (b := mI S 9 r) (by simp only [lsS, c30, Option.map_some, hr, Option.getD_some]) (bI_ne.mp c39))
                · exact h36.elim
            · exact h23.elim
      refine z_iload_n C rfl dX4_withListsBehind_4 ?_
      refine z_bipush 8 (by decide) C dX4_withListsBehind_5 ?_
      refine z_icmp_ge 65 C dX4_withListsBehind_7 (by decide) (fun c7 => ?_) (fun c7 => ?_)
      · exact absurd c7 (n8 (by omega))
      · refine z_iconst 0 (by decide) C dX4_withListsBehind_10 ?_
        refine z_istore [_, _, _, _, _, _] C (by decide) rfl dX4_withListsBehind_11 ?_
        exact inner 8 0 w5 rfl
  refine z_iload_n C rfl dX4_withListsBehind_0 ?_
  refine z_istore_n [_, _, _, _, _, _] C (by decide) rfl dX4_withListsBehind_1 ?_
  refine z_iconst 0 (by decide) C dX4_withListsBehind_2 ?_
  refine z_istore_n [_, _, _, _, _, _] C (by decide) rfl dX4_withListsBehind_3 ?_
  exact loop 8 0 none none rfl
def bcJ (x : Int32) : Int32 :=
  (fun a : Int32 => (fun b : Int32 => (fun c : Int32 => (fun d : Int32 => (d + ((d).toUInt32 >>> ((16 : Int32).toUInt32 &&& Int32.toUInt32 31)).toInt32) &&& 63) (c + ((c).toUInt32 >>> ((8 : Int32).toUInt32 &&& Int32.toUInt32 31)).toInt32)) ((b + ((b).toUInt32 >>> ((4 : Int32).toUInt32 &&& Int32.toUInt32 31)).toInt32) &&& 252645135)) ((a &&& 858993459) + (((a).toUInt32 >>> ((2 : Int32).toUInt32 &&& Int32.toUInt32 31)).toInt32 &&& 858993459))) (x - (((x).toUInt32 >>> ((1 : Int32).toUInt32 &&& Int32.toUInt32 31)).toInt32 &&& 1431655765))
set_option maxRecDepth 100000 in
set_option maxHeartbeats 4000000 in
theorem C_bitCount {l : Launch} (hl0 : l.stackTraces = false) {S : ZM} (x : Int32) : zMet l yJ6_bitCount_0f7a4 (Cond.code yJ6_bitCount_0f7a4 cJ6_bitCount_0f7a4 1 (some .int) :: LWc) ({ frames := 0, cells := 0, slots := 0, locals := 0 } : Room) 0 0 [zi x] S (zPo (fun v S' => v = some (zi (bcJ x)) ∧ S' = S) (fun _ _ => False)) := by
  refine zMet.of' [some (zi x)] hl0 (by decide) rfl (Nat.le_of_ble_eq_true rfl) rfl ?_
  intro X C N hR hN0 hX F
  subst hX
  refine z_iload_n C rfl dJ6_bitCount_0f7a4_0 ?_
  refine z_iload_n C rfl dJ6_bitCount_0f7a4_1 ?_
  refine z_iconst 1 (by decide) C dJ6_bitCount_0f7a4_2 ?_
  refine z_iushr C dJ6_bitCount_0f7a4_3 ?_
  refine z_ldc_w C (List.mem_cons_of_mem _ wc98) dJ6_bitCount_0f7a4_4 ?_
  refine z_iand C dJ6_bitCount_0f7a4_7 ?_
  refine z_isub C dJ6_bitCount_0f7a4_8 ?_
  refine z_istore_n [_] C (by decide) rfl dJ6_bitCount_0f7a4_9 ?_
  refine z_iload_n C rfl dJ6_bitCount_0f7a4_10 ?_
  refine z_ldc_w C (List.mem_cons_of_mem _ wc99) dJ6_bitCount_0f7a4_11 ?_
  refine z_iand C dJ6_bitCount_0f7a4_14 ?_
  refine z_iload_n C rfl dJ6_bitCount_0f7a4_15 ?_
  refine z_iconst 2 (by decide) C dJ6_bitCount_0f7a4_16 ?_
  refine z_iushr C dJ6_bitCount_0f7a4_17 ?_
  refine z_ldc_w C (List.mem_cons_of_mem _ wc99) dJ6_bitCount_0f7a4_18 ?_
  refine z_iand C dJ6_bitCount_0f7a4_21 ?_
  refine z_iadd C dJ6_bitCount_0f7a4_22 ?_
  refine z_istore_n [_] C (by decide) rfl dJ6_bitCount_0f7a4_23 ?_
  refine z_iload_n C rfl dJ6_bitCount_0f7a4_24 ?_
  refine z_iload_n C rfl dJ6_bitCount_0f7a4_25 ?_
  refine z_iconst 4 (by decide) C dJ6_bitCount_0f7a4_26 ?_
  refine z_iushr C dJ6_bitCount_0f7a4_27 ?_
  refine z_iadd C dJ6_bitCount_0f7a4_28 ?_
  refine z_ldc_w C (List.mem_cons_of_mem _ wc100) dJ6_bitCount_0f7a4_29 ?_
  refine z_iand C dJ6_bitCount_0f7a4_32 ?_
  refine z_istore_n [_] C (by decide) rfl dJ6_bitCount_0f7a4_33 ?_
  refine z_iload_n C rfl dJ6_bitCount_0f7a4_34 ?_
  refine z_iload_n C rfl dJ6_bitCount_0f7a4_35 ?_
  refine z_bipush 8 (by decide) C dJ6_bitCount_0f7a4_36 ?_
  refine z_iushr C dJ6_bitCount_0f7a4_38 ?_
  refine z_iadd C dJ6_bitCount_0f7a4_39 ?_
  refine z_istore_n [_] C (by decide) rfl dJ6_bitCount_0f7a4_40 ?_
  refine z_iload_n C rfl dJ6_bitCount_0f7a4_41 ?_
  refine z_iload_n C rfl dJ6_bitCount_0f7a4_42 ?_
  refine z_bipush 16 (by decide) C dJ6_bitCount_0f7a4_43 ?_
  refine z_iushr C dJ6_bitCount_0f7a4_45 ?_
  refine z_iadd C dJ6_bitCount_0f7a4_46 ?_
  refine z_istore_n [_] C (by decide) rfl dJ6_bitCount_0f7a4_47 ?_
  refine z_iload_n C rfl dJ6_bitCount_0f7a4_48 ?_
  refine z_bipush 63 (by decide) C dJ6_bitCount_0f7a4_49 ?_
  refine z_iand C dJ6_bitCount_0f7a4_51 ?_
  refine z_ireturn C F (Nat.le_of_ble_eq_true rfl) (Nat.le_of_ble_eq_true rfl) dJ6_bitCount_0f7a4_52 ?_
  exact ⟨rfl, rfl⟩
