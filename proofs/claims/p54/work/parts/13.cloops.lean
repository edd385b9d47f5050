/-! the class: loops over the tracks, lookups of tags and rules -/
set_option maxRecDepth 100000 in
set_option maxHeartbeats 4000000 in
theorem C_needTag {l : Launch} (hl0 : l.stackTraces = false) {S : ZM} {L : Nat → Nat} (hS : cS S L) (hG : cGk S L) (x : Int32) : zMet l yX4_needTag (Cond.code yX4_needTag cX4_needTag 3 (some (.object "Smartcrate$Tag")) :: LWc) ({ frames := 6, cells := 1, slots := 6, locals := 86 } : Room) 1 6 [zr (some (L 0)), zi x] S (zPo (fun v S' => ∃ a : Nat, cAt (tQ S (L 2)) 16 x = some a ∧ mQ S 13 a = none ∧ v = some (zr (some a)) ∧ S' = S) (fun E S' => (∀ a : Nat, cAt (tQ S (L 2)) 16 x = some a → ¬ mQ S 13 a = none) ∧ E = "java/util/NoSuchElementException" ∧ S' = S)) := by
  refine zMet.of' [some (zr (some (L 0))), some (zi x), none] hl0 (by decide) rfl (Nat.le_of_ble_eq_true rfl) rfl ?_
  intro X C N hR hN0 hX F
  subst hX
  refine z_aload_n C rfl dX4_needTag_0 ?_
  refine z_iload_n C rfl dX4_needTag_1 ?_
  refine z_callC 1 [zi x] C rfl (C_tagOrNull hl0 hS x) rfl (zgoodV LWc_good wc62 wc63 wc64 wc58 wc65) rfl rfl rfl (by decide +kernel) rfl (by rw [hR]; exact ⟨Nat.le_of_ble_eq_true rfl, Nat.le_of_ble_eq_true rfl⟩) hS.c (by rw [hR]; exact ⟨Nat.le_of_ble_eq_true rfl, Nat.le_of_ble_eq_true rfl⟩) (Nat.le_of_ble_eq_true rfl) dX4_needTag_2 (fun v2 S2 h2 => ?_) (fun E2 S2 h2 => ?_)
  · obtain ⟨rfl, rfl⟩ := h2
    refine z_astore_n [_, _, _] C (by decide) rfl dX4_needTag_5 ?_
    refine z_aload_n C rfl dX4_needTag_6 ?_
    refine z_ifnull 17 C dX4_needTag_7 (by decide) (fun c7 => ?_) (fun a7 c7 => ?_)
    · refine z_throwNW (text := "there is no such tag") 13 six13 n13_0 n13_1 n13_2 n13_5 C F N (by decide +kernel) (List.mem_cons_of_mem _ wc155) (List.mem_cons_of_mem _ wc156) (by decide +kernel) (fun w h => List.mem_cons_of_mem _ (ac_2 w h)) bc_2 (by decide) (by decide +kernel) dX4_needTag_17 dX4_needTag_20 dX4_needTag_21 dX4_needTag_24 dX4_needTag_27 (by rw [hR]; exact Nat.le_of_ble_eq_true rfl) (by rw [hR]; exact Nat.le_of_ble_eq_true rfl) (by rw [hR]; exact Nat.le_of_ble_eq_true rfl) (by rw [hR]; exact Nat.le_of_ble_eq_true rfl) (Nat.le_of_ble_eq_true rfl) (Nat.le_of_ble_eq_true rfl) ?_
      exact ⟨by first | (rw [c7]; intro a h; cases h; done) | (rw [c7]; intro a h; cases h; rw [c14]; simp; done), rfl, rfl⟩
    · refine z_aload_n C rfl dX4_needTag_10 ?_
      obtain ⟨i7, l7, e7, g7⟩ := cAt_some (by decide) c7
      refine z_ref c7 ?_
      refine zg2_becomes C (fun w h => List.mem_cons_of_mem _ (uc_wsX20 w h)) (hG i7 a7 l7 g7).1 (List.mem_cons_of_mem _ wc60) dX4_needTag_11 ?_
      refine z_ifnull 28 C dX4_needTag_14 (by decide) (fun c14 => ?_) (fun a14 c14 => ?_)
      · refine z_aload_n C rfl dX4_needTag_28 ?_
        refine z_ref c7 ?_
        refine z_areturn C F (Or.inl ⟨_, rfl⟩) (Nat.le_of_ble_eq_true rfl) (Nat.le_of_ble_eq_true rfl) dX4_needTag_29 ?_
        exact ⟨_, c7, c14, rfl, rfl⟩
      · refine z_throwNW (text := "there is no such tag") 13 six13 n13_0 n13_1 n13_2 n13_5 C F N (by decide +kernel) (List.mem_cons_of_mem _ wc155) (List.mem_cons_of_mem _ wc156) (by decide +kernel) (fun w h => List.mem_cons_of_mem _ (ac_2 w h)) bc_2 (by decide) (by decide +kernel) dX4_needTag_17 dX4_needTag_20 dX4_needTag_21 dX4_needTag_24 dX4_needTag_27 (by rw [hR]; exact Nat.le_of_ble_eq_true rfl) (by rw [hR]; exact Nat.le_of_ble_eq_true rfl) (by rw [hR]; exact Nat.le_of_ble_eq_true rfl) (by rw [hR]; exact Nat.le_of_ble_eq_true rfl) (Nat.le_of_ble_eq_true rfl) (Nat.le_of_ble_eq_true rfl) ?_
        exact ⟨by first | (rw [c7]; intro a h; cases h; done) | (rw [c7]; intro a h; cases h; rw [c14]; simp; done), rfl, rfl⟩
  · exact h2.elim
set_option maxRecDepth 100000 in
set_option maxHeartbeats 4000000 in
theorem C_needRule {l : Launch} (hl0 : l.stackTraces = false) {S : ZM} {L : Nat → Nat} (hS : cS S L) (x : Int32) : zMet l yX4_needRule (Cond.code yX4_needRule cX4_needRule 3 (some (.object "Smartcrate$Rule")) :: LWc) ({ frames := 6, cells := 1, slots := 6, locals := 86 } : Room) 1 6 [zr (some (L 0)), zi x] S (zPo (fun v S' => ∃ a : Nat, cAt (tQ S (L 3)) 40 x = some a ∧ v = some (zr (some a)) ∧ S' = S) (fun E S' => cAt (tQ S (L 3)) 40 x = none ∧ E = "java/util/NoSuchElementException" ∧ S' = S)) := by
  refine zMet.of' [some (zr (some (L 0))), some (zi x), none] hl0 (by decide) rfl (Nat.le_of_ble_eq_true rfl) rfl ?_
  intro X C N hR hN0 hX F
  subst hX
  refine z_iload_n C rfl dX4_needRule_0 ?_
  refine z_if_lt 19 C dX4_needRule_1 (by decide) (fun c1 => ?_) (fun c1 => ?_)
  · have hnone : cAt (tQ S (L 3)) 40 x = none := by first | exact cAt_lo c1 | exact cAt_hi (n := 40) c7
    refine z_null C dX4_needRule_19 ?_
    refine z_astore_n [_, _, _] C (by decide) rfl dX4_needRule_20 ?_
    refine z_aload_n C rfl dX4_needRule_21 ?_
    refine z_ifnonnull 36 C dX4_needRule_22 (by decide) (fun a22 c22 => ?_) (fun c22 => ?_)
    · refine z_aload_n C rfl dX4_needRule_36 ?_
      first | refine z_ref c22 ?_ | cases c22
      refine z_areturn C F (Or.inl ⟨_, rfl⟩) (Nat.le_of_ble_eq_true rfl) (Nat.le_of_ble_eq_true rfl) dX4_needRule_37 ?_
      first | exact ⟨_, c22, rfl, rfl⟩ | (cases c22)
    · refine z_throwNW (text := "there is no such rule") 13 six13 n13_0 n13_1 n13_2 n13_5 C F N (by decide +kernel) (List.mem_cons_of_mem _ wc155) (List.mem_cons_of_mem _ wc156) (by decide +kernel) (fun w h => List.mem_cons_of_mem _ (ac_2 w h)) bc_2 (by decide) (by decide +kernel) dX4_needRule_25 dX4_needRule_28 dX4_needRule_29 dX4_needRule_32 dX4_needRule_35 (by rw [hR]; exact Nat.le_of_ble_eq_true rfl) (by rw [hR]; exact Nat.le_of_ble_eq_true rfl) (by rw [hR]; exact Nat.le_of_ble_eq_true rfl) (by rw [hR]; exact Nat.le_of_ble_eq_true rfl) (Nat.le_of_ble_eq_true rfl) (Nat.le_of_ble_eq_true rfl) ?_
      first | exact ⟨c22, rfl, rfl⟩ | exact ⟨hnone, rfl, rfl⟩
  · refine z_iload_n C rfl dX4_needRule_4 ?_
    refine z_bipush 40 (by decide) C dX4_needRule_5 ?_
    refine z_icmp_ge 19 C dX4_needRule_7 (by decide) (fun c7 => ?_) (fun c7 => ?_)
    · have hnone : cAt (tQ S (L 3)) 40 x = none := by first | exact cAt_lo c1 | exact cAt_hi (n := 40) c7
      refine z_null C dX4_needRule_19 ?_
      refine z_astore_n [_, _, _] C (by decide) rfl dX4_needRule_20 ?_
      refine z_aload_n C rfl dX4_needRule_21 ?_
      refine z_ifnonnull 36 C dX4_needRule_22 (by decide) (fun a22 c22 => ?_) (fun c22 => ?_)
      · refine z_aload_n C rfl dX4_needRule_36 ?_
        first | refine z_ref c22 ?_ | cases c22
        refine z_areturn C F (Or.inl ⟨_, rfl⟩) (Nat.le_of_ble_eq_true rfl) (Nat.le_of_ble_eq_true rfl) dX4_needRule_37 ?_
        first | exact ⟨_, c22, rfl, rfl⟩ | (cases c22)
      · refine z_throwNW (text := "there is no such rule") 13 six13 n13_0 n13_1 n13_2 n13_5 C F N (by decide +kernel) (List.mem_cons_of_mem _ wc155) (List.mem_cons_of_mem _ wc156) (by decide +kernel) (fun w h => List.mem_cons_of_mem _ (ac_2 w h)) bc_2 (by decide) (by decide +kernel) dX4_needRule_25 dX4_needRule_28 dX4_needRule_29 dX4_needRule_32 dX4_needRule_35 (by rw [hR]; exact Nat.le_of_ble_eq_true rfl) (by rw [hR]; exact Nat.le_of_ble_eq_true rfl) (by rw [hR]; exact Nat.le_of_ble_eq_true rfl) (by rw [hR]; exact Nat.le_of_ble_eq_true rfl) (Nat.le_of_ble_eq_true rfl) (Nat.le_of_ble_eq_true rfl) ?_
        first | exact ⟨c22, rfl, rfl⟩ | exact ⟨hnone, rfl, rfl⟩
    · refine z_aload_n C rfl dX4_needRule_10 ?_
      refine zg4_allRules C (fun w h => List.mem_cons_of_mem _ (uc_wsX40 w h)) hS.c (List.mem_cons_of_mem _ wc36) dX4_needRule_11 ?_
      refine z_ref hS.r.1 ?_
      refine z_iload_n C rfl dX4_needRule_14 ?_
      refine z_aaload_1 C hS.r.2.1 (by rw [hS.r.2.2]; exact vp_in_of2 c1 c7 (by decide)) dX4_needRule_15 ?_
      refine z_ref (cAt_in (n := 40) c1 c7).symm ?_
      refine z_goto 20 C dX4_needRule_16 (by decide) ?_
      refine z_astore_n [_, _, _] C (by decide) rfl dX4_needRule_20 ?_
      refine z_aload_n C rfl dX4_needRule_21 ?_
      refine z_ifnonnull 36 C dX4_needRule_22 (by decide) (fun a22 c22 => ?_) (fun c22 => ?_)
      · refine z_aload_n C rfl dX4_needRule_36 ?_
        first | refine z_ref c22 ?_ | cases c22
        refine z_areturn C F (Or.inl ⟨_, rfl⟩) (Nat.le_of_ble_eq_true rfl) (Nat.le_of_ble_eq_true rfl) dX4_needRule_37 ?_
        first | exact ⟨_, c22, rfl, rfl⟩ | (cases c22)
      · refine z_throwNW (text := "there is no such rule") 13 six13 n13_0 n13_1 n13_2 n13_5 C F N (by decide +kernel) (List.mem_cons_of_mem _ wc155) (List.mem_cons_of_mem _ wc156) (by decide +kernel) (fun w h => List.mem_cons_of_mem _ (ac_2 w h)) bc_2 (by decide) (by decide +kernel) dX4_needRule_25 dX4_needRule_28 dX4_needRule_29 dX4_needRule_32 dX4_needRule_35 (by rw [hR]; exact Nat.le_of_ble_eq_true rfl) (by rw [hR]; exact Nat.le_of_ble_eq_true rfl) (by rw [hR]; exact Nat.le_of_ble_eq_true rfl) (by rw [hR]; exact Nat.le_of_ble_eq_true rfl) (Nat.le_of_ble_eq_true rfl) (Nat.le_of_ble_eq_true rfl) ?_
        first | exact ⟨c22, rfl, rfl⟩ | exact ⟨hnone, rfl, rfl⟩
set_option maxRecDepth 100000 in
set_option maxHeartbeats 4000000 in
theorem C_needOrder {l : Launch} (hl0 : l.stackTraces = false) {S : ZM} (o : Int32) : zMet l yX4_needOrder (Cond.code yX4_needOrder cX4_needOrder 1 none :: LWc) ({ frames := 6, cells := 1, slots := 6, locals := 86 } : Room) 1 6 [zi o] S (zPo (fun v S' => (o = 115 ∨ o = 114 ∨ o = 112 ∨ o = 110) ∧ v = none ∧ S' = S) (fun E S' => ¬ (o = 115 ∨ o = 114 ∨ o = 112 ∨ o = 110) ∧ E = "java/lang/IllegalArgumentException" ∧ S' = S)) := by
  refine zMet.of' [some (zi o)] hl0 (by decide) rfl (Nat.le_of_ble_eq_true rfl) rfl ?_
  intro X C N hR hN0 hX F
  subst hX
  refine z_iload_n C rfl dX4_needOrder_0 ?_
  refine z_bipush 115 (by decide) C dX4_needOrder_1 ?_
  refine z_icmp_eq 35 C dX4_needOrder_3 (by decide) (fun c3 => ?_) (fun c3 => ?_)
  · refine z_return C F (Nat.le_of_ble_eq_true rfl) (Nat.le_of_ble_eq_true rfl) dX4_needOrder_35 ?_
    exact ⟨by simp [*], rfl, rfl⟩
  · refine z_iload_n C rfl dX4_needOrder_6 ?_
    refine z_bipush 114 (by decide) C dX4_needOrder_7 ?_
    refine z_icmp_eq 35 C dX4_needOrder_9 (by decide) (fun c9 => ?_) (fun c9 => ?_)
    · refine z_return C F (Nat.le_of_ble_eq_true rfl) (Nat.le_of_ble_eq_true rfl) dX4_needOrder_35 ?_
      exact ⟨by simp [*], rfl, rfl⟩
    · refine z_iload_n C rfl dX4_needOrder_12 ?_
      refine z_bipush 112 (by decide) C dX4_needOrder_13 ?_
      refine z_icmp_eq 35 C dX4_needOrder_15 (by decide) (fun c15 => ?_) (fun c15 => ?_)
      · refine z_return C F (Nat.le_of_ble_eq_true rfl) (Nat.le_of_ble_eq_true rfl) dX4_needOrder_35 ?_
        exact ⟨by simp [*], rfl, rfl⟩
      · refine z_iload_n C rfl dX4_needOrder_18 ?_
        refine z_bipush 110 (by decide) C dX4_needOrder_19 ?_
        refine z_icmp_eq 35 C dX4_needOrder_21 (by decide) (fun c21 => ?_) (fun c21 => ?_)
        · refine z_return C F (Nat.le_of_ble_eq_true rfl) (Nat.le_of_ble_eq_true rfl) dX4_needOrder_35 ?_
          exact ⟨by simp [*], rfl, rfl⟩
        · refine z_throwSW (text := "there is no such order of choice") ["java/lang/RuntimeException", "java/lang/Exception"] C F N (by decide +kernel) (by decide +kernel) (List.mem_cons_of_mem _ wc53) (List.mem_cons_of_mem _ wc54) (by decide +kernel) (fun w h => List.mem_cons_of_mem _ (ac_0 w h)) bc_0 (by decide) (by decide +kernel) dX4_needOrder_24 dX4_needOrder_27 dX4_needOrder_28 dX4_needOrder_31 dX4_needOrder_34 (by rw [hR]; exact Nat.le_of_ble_eq_true rfl) (by rw [hR]; exact Nat.le_of_ble_eq_true rfl) (by rw [hR]; exact Nat.le_of_ble_eq_true rfl) (by rw [hR]; exact Nat.le_of_ble_eq_true rfl) (Nat.le_of_ble_eq_true rfl) (Nat.le_of_ble_eq_true rfl) ?_
          exact ⟨by simp [*], rfl, rfl⟩
set_option maxRecDepth 100000 in
set_option maxHeartbeats 4000000 in
theorem C_lengthsOf {l : Launch} (hl0 : l.stackTraces = false) {S : ZM} {L : Nat → Nat} (hS : cS S L) (hT : cTk S L) (s : Int32) : zMet l yX4_lengthsOf (Cond.code yX4_lengthsOf cX4_lengthsOf 5 (some .int) :: LWc) ({ frames := 1, cells := 0, slots := 0, locals := 21 } : Room) 0 0 [zr (some (L 0)), zi s] S (zPo (fun v S' => v = some (zi (smF (pS S L (fun i _ => hasB s (nI i))) (fun i => mI S 17 (tad S L i)) 24)) ∧ S' = S) (fun _ _ => False)) := by
  refine zMet.of' [some (zr (some (L 0))), some (zi s), none, none, none] hl0 (by decide) rfl (Nat.le_of_ble_eq_true rfl) rfl ?_
  intro X C N hR hN0 hX F
  subst hX
  have loop : ∀ (n i : Nat) (w : Option ZV), i + n = 24 → zW X 5 0 0 S 4 [some (zr (some (L 0))), some (zi s), some (zi (smF (pS S L (fun i _ => hasB s (nI i))) (fun i => mI S 17 (tad S L i)) i)), some (zi (nI i)), w] [] := by
    intro n
    induction n with
    | zero =>
      intro i w hi
      obtain rfl : i = 24 := by omega
      refine z_iload_n C rfl dX4_lengthsOf_4 ?_
      refine z_bipush 24 (by decide) C dX4_lengthsOf_5 ?_
      refine z_icmp_ge 44 C dX4_lengthsOf_7 (by decide) (fun c7 => ?_) (fun c7 => ?_)
      · refine z_iload_n C rfl dX4_lengthsOf_44 ?_
        refine z_ireturn C F (Nat.le_of_ble_eq_true rfl) (Nat.le_of_ble_eq_true rfl) dX4_lengthsOf_45 ?_
        exact ⟨rfl, rfl⟩
      · exact absurd (by decide) c7
    | succ n ih =>
      intro i w hi
      have hi24 : i < 24 := by omega
      have fin : ∀ (r : Int32) (w : Option ZV), smF (pS S L (fun i _ => hasB s (nI i))) (fun i => mI S 17 (tad S L i)) (i + 1) = r → zW X 5 0 0 S 4 [some (zr (some (L 0))), some (zi s), some (zi (r)), some (zi (nI i + 1)), w] [] := by
        intro r w e
        have q := ih (i + 1) w (by omega)
        rw [e, nI_succ] at q
        exact q
      have e17 : ∀ a : Nat, tQ S (L 1) i = some a → mI S 17 a = mI S 17 (tad S L i) := by intro a h; simp [tad, h]
      refine z_iload_n C rfl dX4_lengthsOf_4 ?_
      refine z_bipush 24 (by decide) C dX4_lengthsOf_5 ?_
      refine z_icmp_ge 44 C dX4_lengthsOf_7 (by decide) (fun c7 => ?_) (fun c7 => ?_)
      · exact absurd c7 (n24 hi24)
      · refine z_aload_n C rfl dX4_lengthsOf_10 ?_
        refine z_iload_n C rfl dX4_lengthsOf_11 ?_
        refine z_callC 1 [zi (nI i)] C rfl (C_trackOrNull hl0 hS (nI i)) rfl (zgoodV LWc_good wc55 wc56 wc57 wc58 wc59) rfl rfl rfl (by decide +kernel) rfl (by rw [hR]; exact ⟨Nat.le_of_ble_eq_true rfl, Nat.le_of_ble_eq_true rfl⟩) hS.c (by rw [hR]; exact ⟨Nat.le_of_ble_eq_true rfl, Nat.le_of_ble_eq_true rfl⟩) (Nat.le_of_ble_eq_true rfl) dX4_lengthsOf_12 (fun v12 S12 h12 => ?_) (fun E12 S12 h12 => ?_)
        · obtain ⟨rfl, rfl⟩ := h12
          refine z_ref (cAt_nI hi24 (by decide)) ?_
          refine z_astore [_, _, _, _, _] C (by decide) rfl dX4_lengthsOf_15 ?_
          refine z_aload C rfl dX4_lengthsOf_17 ?_
          refine z_ifnull 38 C dX4_lengthsOf_19 (by decide) (fun c19 => ?_) (fun a19 c19 => ?_)
          · refine z_inc (1) [_, _, _, _, _] C rfl (by decide) (by decide) rfl dX4_lengthsOf_38 ?_
            refine z_goto 4 C dX4_lengthsOf_41 (by decide) ?_
            first | exact fin _ _ (smF_no (pS_none c19)) | exact fin _ _ (smF_no ((pS_some c19).trans (bI_eq.mp c27))) | exact fin _ _ ((smF_yes ((pS_some c19).trans (bI_ne.mp c27))).trans (by rw [e17 _ c19]))
          · refine z_iload_n C rfl dX4_lengthsOf_22 ?_
            refine z_iload_n C rfl dX4_lengthsOf_23 ?_
            refine z_callS 2 [zi s, zi (nI i)] C (C_hasBit hl0 s (nI i)) rfl (zgoodS LWc_good wc102 wc103 wc58 wc104) rfl rfl rfl (by decide +kernel) rfl (by rw [hR]; exact ⟨Nat.le_of_ble_eq_true rfl, Nat.le_of_ble_eq_true rfl⟩) (by rw [hR]; exact ⟨Nat.le_of_ble_eq_true rfl, Nat.le_of_ble_eq_true rfl⟩) (Nat.le_of_ble_eq_true rfl) dX4_lengthsOf_24 (fun v24 S24 h24 => ?_) (fun E24 S24 h24 => ?_)
            · obtain ⟨rfl, rfl⟩ := h24
              refine z_if_eq 38 C dX4_lengthsOf_27 (by decide) (fun c27 => ?_) (fun c27 => ?_)
              · refine z_inc (1) [_, _, _, _, _] C rfl (by decide) (by decide) rfl dX4_lengthsOf_38 ?_
                refine z_goto 4 C dX4_lengthsOf_41 (by decide) ?_
                first | exact fin _ _ (smF_no (pS_none c19)) | exact fin _ _ (smF_no ((pS_some c19).trans (bI_eq.mp c27))) | exact fin _ _ ((smF_yes ((pS_some c19).trans (bI_ne.mp c27))).trans (by rw [e17 _ c19]))
              · refine z_iload_n C rfl dX4_lengthsOf_30 ?_
                refine z_aload C rfl dX4_lengthsOf_31 ?_
                refine z_ref c19 ?_
                refine zg3_length C (fun w h => List.mem_cons_of_mem _ (uc_wsX30 w h)) (hT i a19 hi24 c19).1 (List.mem_cons_of_mem _ wc69) dX4_lengthsOf_33 ?_
                refine z_iadd C dX4_lengthsOf_36 ?_
                refine z_istore_n [_, _, _, _, _] C (by decide) rfl dX4_lengthsOf_37 ?_
                refine z_inc (1) [_, _, _, _, _] C rfl (by decide) (by decide) rfl dX4_lengthsOf_38 ?_
                refine z_goto 4 C dX4_lengthsOf_41 (by decide) ?_
                first | exact fin _ _ (smF_no (pS_none c19)) | exact fin _ _ (smF_no ((pS_some c19).trans (bI_eq.mp c27))) | exact fin _ _ ((smF_yes ((pS_some c19).trans (bI_ne.mp c27))).trans (by rw [e17 _ c19]))
            · exact h24.elim
        · exact h12.elim
  refine z_iconst 0 (by decide) C dX4_lengthsOf_0 ?_
  refine z_istore_n [_, _, _, _, _] C (by decide) rfl dX4_lengthsOf_1 ?_
  refine z_iconst 0 (by decide) C dX4_lengthsOf_2 ?_
  refine z_istore_n [_, _, _, _, _] C (by decide) rfl dX4_lengthsOf_3 ?_
  exact loop 24 0 none rfl
set_option maxRecDepth 100000 in
set_option maxHeartbeats 4000000 in
theorem C_tracksThere {l : Launch} (hl0 : l.stackTraces = false) {S : ZM} {L : Nat → Nat} (hS : cS S L) : zMet l yX4_tracksThere (Cond.code yX4_tracksThere cX4_tracksThere 3 (some .int) :: LWc) ({ frames := 1, cells := 0, slots := 0, locals := 21 } : Room) 0 0 [zr (some (L 0))] S (zPo (fun v S' => v = some (zi (sF (pS S L (fun _ _ => true)) 24)) ∧ S' = S) (fun _ _ => False)) := by
  refine zMet.of' [some (zr (some (L 0))), none, none] hl0 (by decide) rfl (Nat.le_of_ble_eq_true rfl) rfl ?_
  intro X C N hR hN0 hX F
  subst hX
  have loop : ∀ (n i : Nat) , i + n = 24 → zW X 3 0 0 S 4 [some (zr (some (L 0))), some (zi (sF (pS S L (fun _ _ => true)) i)), some (zi (nI i))] [] := by
    intro n
    induction n with
    | zero =>
      intro i  hi
      obtain rfl : i = 24 := by omega
      refine z_iload_n C rfl dX4_tracksThere_4 ?_
      refine z_bipush 24 (by decide) C dX4_tracksThere_5 ?_
      refine z_icmp_ge 30 C dX4_tracksThere_7 (by decide) (fun c7 => ?_) (fun c7 => ?_)
      · refine z_iload_n C rfl dX4_tracksThere_30 ?_
        refine z_ireturn C F (Nat.le_of_ble_eq_true rfl) (Nat.le_of_ble_eq_true rfl) dX4_tracksThere_31 ?_
        exact ⟨rfl, rfl⟩
      · exact absurd (by decide) c7
    | succ n ih =>
      intro i  hi
      have hi24 : i < 24 := by omega
      have fin : ∀ (r : Int32) , sF (pS S L (fun _ _ => true)) (i + 1) = r → zW X 3 0 0 S 4 [some (zr (some (L 0))), some (zi (r)), some (zi (nI i + 1))] [] := by
        intro r  e
        have q := ih (i + 1)  (by omega)
        rw [e, nI_succ] at q
        exact q
      refine z_iload_n C rfl dX4_tracksThere_4 ?_
      refine z_bipush 24 (by decide) C dX4_tracksThere_5 ?_
      refine z_icmp_ge 30 C dX4_tracksThere_7 (by decide) (fun c7 => ?_) (fun c7 => ?_)
      · exact absurd c7 (n24 hi24)
      · refine z_aload_n C rfl dX4_tracksThere_10 ?_
        refine z_iload_n C rfl dX4_tracksThere_11 ?_
        refine z_callC 1 [zi (nI i)] C rfl (C_trackOrNull hl0 hS (nI i)) rfl (zgoodV LWc_good wc55 wc56 wc57 wc58 wc59) rfl rfl rfl (by decide +kernel) rfl (by rw [hR]; exact ⟨Nat.le_of_ble_eq_true rfl, Nat.le_of_ble_eq_true rfl⟩) hS.c (by rw [hR]; exact ⟨Nat.le_of_ble_eq_true rfl, Nat.le_of_ble_eq_true rfl⟩) (Nat.le_of_ble_eq_true rfl) dX4_tracksThere_12 (fun v12 S12 h12 => ?_) (fun E12 S12 h12 => ?_)
        · obtain ⟨rfl, rfl⟩ := h12
          refine z_ref (cAt_nI hi24 (by decide)) ?_
          refine z_ifnull 24 C dX4_tracksThere_15 (by decide) (fun c15 => ?_) (fun a15 c15 => ?_)
          · refine z_inc (1) [_, _, _] C rfl (by decide) (by decide) rfl dX4_tracksThere_24 ?_
            refine z_goto 4 C dX4_tracksThere_27 (by decide) ?_
            first | exact fin _ (sF_no (pS_none c15)) | exact fin _ (sF_yes (pS_some c15))
          · refine z_iload_n C rfl dX4_tracksThere_18 ?_
            refine z_iconst 1 (by decide) C dX4_tracksThere_19 ?_
            refine z_iload_n C rfl dX4_tracksThere_20 ?_
            refine z_ishl C dX4_tracksThere_21 ?_
            refine z_ior C dX4_tracksThere_22 ?_
            refine z_istore_n [_, _, _] C (by decide) rfl dX4_tracksThere_23 ?_
            refine z_inc (1) [_, _, _] C rfl (by decide) (by decide) rfl dX4_tracksThere_24 ?_
            refine z_goto 4 C dX4_tracksThere_27 (by decide) ?_
            first | exact fin _ (sF_no (pS_none c15)) | exact fin _ (sF_yes (pS_some c15))
        · exact h12.elim
  refine z_iconst 0 (by decide) C dX4_tracksThere_0 ?_
  refine z_istore_n [_, _, _] C (by decide) rfl dX4_tracksThere_1 ?_
  refine z_iconst 0 (by decide) C dX4_tracksThere_2 ?_
  refine z_istore_n [_, _, _] C (by decide) rfl dX4_tracksThere_3 ?_
  exact loop 24 0  rfl
set_option maxRecDepth 100000 in
set_option maxHeartbeats 4000000 in
theorem C_tracksTagged {l : Launch} (hl0 : l.stackTraces = false) {S : ZM} {L : Nat → Nat} (hS : cS S L) (hT : cTk S L) (b : Int32) : zMet l yX4_tracksTagged (Cond.code yX4_tracksTagged cX4_tracksTagged 5 (some .int) :: LWc) ({ frames := 1, cells := 0, slots := 0, locals := 21 } : Room) 0 0 [zr (some (L 0)), zi b] S (zPo (fun v S' => v = some (zi (sF (pS S L (fun _ a => decide (¬ mI S 21 a &&& b = 0))) 24)) ∧ S' = S) (fun _ _ => False)) := by
  refine zMet.of' [some (zr (some (L 0))), some (zi b), none, none, none] hl0 (by decide) rfl (Nat.le_of_ble_eq_true rfl) rfl ?_
  intro X C N hR hN0 hX F
  subst hX
  have loop : ∀ (n i : Nat) (w : Option ZV), i + n = 24 → zW X 5 0 0 S 4 [some (zr (some (L 0))), some (zi b), some (zi (sF (pS S L (fun _ a => decide (¬ mI S 21 a &&& b = 0))) i)), some (zi (nI i)), w] [] := by
    intro n
    induction n with
    | zero =>
      intro i w hi
      obtain rfl : i = 24 := by omega
      refine z_iload_n C rfl dX4_tracksTagged_4 ?_
      refine z_bipush 24 (by decide) C dX4_tracksTagged_5 ?_
      refine z_icmp_ge 44 C dX4_tracksTagged_7 (by decide) (fun c7 => ?_) (fun c7 => ?_)
      · refine z_iload_n C rfl dX4_tracksTagged_44 ?_
        refine z_ireturn C F (Nat.le_of_ble_eq_true rfl) (Nat.le_of_ble_eq_true rfl) dX4_tracksTagged_45 ?_
        exact ⟨rfl, rfl⟩
      · exact absurd (by decide) c7
    | succ n ih =>
      intro i w hi
      have hi24 : i < 24 := by omega
      have fin : ∀ (r : Int32) (w : Option ZV), sF (pS S L (fun _ a => decide (¬ mI S 21 a &&& b = 0))) (i + 1) = r → zW X 5 0 0 S 4 [some (zr (some (L 0))), some (zi b), some (zi (r)), some (zi (nI i + 1)), w] [] := by
        intro r w e
        have q := ih (i + 1) w (by omega)
        rw [e, nI_succ] at q
        exact q
      refine z_iload_n C rfl dX4_tracksTagged_4 ?_
      refine z_bipush 24 (by decide) C dX4_tracksTagged_5 ?_
      refine z_icmp_ge 44 C dX4_tracksTagged_7 (by decide) (fun c7 => ?_) (fun c7 => ?_)
      · exact absurd c7 (n24 hi24)
      · refine z_aload_n C rfl dX4_tracksTagged_10 ?_
        refine z_iload_n C rfl dX4_tracksTagged_11 ?_
        refine z_callC 1 [zi (nI i)] C rfl (C_trackOrNull hl0 hS (nI i)) rfl (zgoodV LWc_good wc55 wc56 wc57 wc58 wc59) rfl rfl rfl (by decide +kernel) rfl (by rw [hR]; exact ⟨Nat.le_of_ble_eq_true rfl, Nat.le_of_ble_eq_true rfl⟩) hS.c (by rw [hR]; exact ⟨Nat.le_of_ble_eq_true rfl, Nat.le_of_ble_eq_true rfl⟩) (Nat.le_of_ble_eq_true rfl) dX4_tracksTagged_12 (fun v12 S12 h12 => ?_) (fun E12 S12 h12 => ?_)
        · obtain ⟨rfl, rfl⟩ := h12
          refine z_ref (cAt_nI hi24 (by decide)) ?_
          refine z_astore [_, _, _, _, _] C (by decide) rfl dX4_tracksTagged_15 ?_
          refine z_aload C rfl dX4_tracksTagged_17 ?_
          refine z_ifnull 38 C dX4_tracksTagged_19 (by decide) (fun c19 => ?_) (fun a19 c19 => ?_)
          · refine z_inc (1) [_, _, _, _, _] C rfl (by decide) (by decide) rfl dX4_tracksTagged_38 ?_
            refine z_goto 4 C dX4_tracksTagged_41 (by decide) ?_
            first | exact fin _ _ (sF_no (pS_none c19)) | exact fin _ _ (sF_no ((pS_some c19).trans (decide_eq_false (not_not_intro c29)))) | exact fin _ _ (sF_yes ((pS_some c19).trans (decide_eq_true c29)))
          · refine z_aload C rfl dX4_tracksTagged_22 ?_
            refine z_ref c19 ?_
            refine zg3_tagSet C (fun w h => List.mem_cons_of_mem _ (uc_wsX30 w h)) (hT i a19 hi24 c19).1 (List.mem_cons_of_mem _ wc66) dX4_tracksTagged_24 ?_
            refine z_iload_n C rfl dX4_tracksTagged_27 ?_
            refine z_iand C dX4_tracksTagged_28 ?_
            refine z_if_eq 38 C dX4_tracksTagged_29 (by decide) (fun c29 => ?_) (fun c29 => ?_)
            · refine z_inc (1) [_, _, _, _, _] C rfl (by decide) (by decide) rfl dX4_tracksTagged_38 ?_
              refine z_goto 4 C dX4_tracksTagged_41 (by decide) ?_
              first | exact fin _ _ (sF_no (pS_none c19)) | exact fin _ _ (sF_no ((pS_some c19).trans (decide_eq_false (not_not_intro c29)))) | exact fin _ _ (sF_yes ((pS_some c19).trans (decide_eq_true c29)))
            · refine z_iload_n C rfl dX4_tracksTagged_32 ?_
              refine z_iconst 1 (by decide) C dX4_tracksTagged_33 ?_
              refine z_iload_n C rfl dX4_tracksTagged_34 ?_
              refine z_ishl C dX4_tracksTagged_35 ?_
              refine z_ior C dX4_tracksTagged_36 ?_
              refine z_istore_n [_, _, _, _, _] C (by decide) rfl dX4_tracksTagged_37 ?_
              refine z_inc (1) [_, _, _, _, _] C rfl (by decide) (by decide) rfl dX4_tracksTagged_38 ?_
              refine z_goto 4 C dX4_tracksTagged_41 (by decide) ?_
              first | exact fin _ _ (sF_no (pS_none c19)) | exact fin _ _ (sF_no ((pS_some c19).trans (decide_eq_false (not_not_intro c29)))) | exact fin _ _ (sF_yes ((pS_some c19).trans (decide_eq_true c29)))
        · exact h12.elim
  refine z_iconst 0 (by decide) C dX4_tracksTagged_0 ?_
  refine z_istore_n [_, _, _, _, _] C (by decide) rfl dX4_tracksTagged_1 ?_
  refine z_iconst 0 (by decide) C dX4_tracksTagged_2 ?_
  refine z_istore_n [_, _, _, _, _] C (by decide) rfl dX4_tracksTagged_3 ?_
  exact loop 24 0 none rfl
set_option maxRecDepth 100000 in
set_option maxHeartbeats 4000000 in
theorem C_meetsNumber {l : Launch} (hl0 : l.stackTraces = false) {S : ZM} {L : Nat → Nat} (hS : cS S L) {a : Nat} (hk : mK S a = 5) (kind asked : Int32) : zMet l yX4_meetsNumber (Cond.code yX4_meetsNumber cX4_meetsNumber 4 (some .boolean) :: LWc) ({ frames := 0, cells := 0, slots := 0, locals := 0 } : Room) 0 0 [zr (some (L 0)), zr (some a), zi kind, zi asked] S (zPo (fun v S' => v = some (zi (bI (mnS S L kind asked a))) ∧ S' = S) (fun _ _ => False)) := by
  refine zMet.of' [some (zr (some (L 0))), some (zr (some a)), some (zi kind), some (zi asked)] hl0 (by decide) rfl (Nat.le_of_ble_eq_true rfl) rfl ?_
  intro X C N hR hN0 hX F
  subst hX
  refine z_iload_n C rfl dX4_meetsNumber_0 ?_
  by_cases q1 : kind = 1
  · refine z_tableIn 32 C dX4_meetsNumber_1 (by rw [q1]; decide) (by rw [q1]; decide) (by rw [q1]; rfl) (by decide) ?_
    refine z_aload_n C rfl dX4_meetsNumber_32 ?_
    refine zg3_rating C (fun w h => List.mem_cons_of_mem _ (uc_wsX30 w h)) hk (List.mem_cons_of_mem _ wc67) dX4_meetsNumber_33 ?_
    refine z_iload_n C rfl dX4_meetsNumber_36 ?_
    refine z_icmp_lt 44 C dX4_meetsNumber_37 (by decide) (fun c37 => ?_) (fun c37 => ?_)
    · refine z_iconst 0 (by decide) C dX4_meetsNumber_44 ?_
      refine z_zreturn C F (Nat.le_of_ble_eq_true rfl) (Nat.le_of_ble_eq_true rfl) (by decide) dX4_meetsNumber_45 ?_
      exact ⟨by unfold mnS bI; simp [*], rfl⟩
    · refine z_iconst 1 (by decide) C dX4_meetsNumber_40 ?_
      refine z_goto 45 C dX4_meetsNumber_41 (by decide) ?_
      refine z_zreturn C F (Nat.le_of_ble_eq_true rfl) (Nat.le_of_ble_eq_true rfl) (by decide) dX4_meetsNumber_45 ?_
      exact ⟨by unfold mnS bI; simp [*], rfl⟩
  by_cases q2 : kind = 2
  · refine z_tableIn 46 C dX4_meetsNumber_1 (by rw [q2]; decide) (by rw [q2]; decide) (by rw [q2]; rfl) (by decide) ?_
    refine z_aload_n C rfl dX4_meetsNumber_46 ?_
    refine zg3_plays C (fun w h => List.mem_cons_of_mem _ (uc_wsX30 w h)) hk (List.mem_cons_of_mem _ wc68) dX4_meetsNumber_47 ?_
    refine z_iload_n C rfl dX4_meetsNumber_50 ?_
    refine z_icmp_gt 58 C dX4_meetsNumber_51 (by decide) (fun c51 => ?_) (fun c51 => ?_)
    · refine z_iconst 0 (by decide) C dX4_meetsNumber_58 ?_
      refine z_zreturn C F (Nat.le_of_ble_eq_true rfl) (Nat.le_of_ble_eq_true rfl) (by decide) dX4_meetsNumber_59 ?_
      exact ⟨by unfold mnS bI; simp [*], rfl⟩
    · refine z_iconst 1 (by decide) C dX4_meetsNumber_54 ?_
      refine z_goto 59 C dX4_meetsNumber_55 (by decide) ?_
      refine z_zreturn C F (Nat.le_of_ble_eq_true rfl) (Nat.le_of_ble_eq_true rfl) (by decide) dX4_meetsNumber_59 ?_
      exact ⟨by unfold mnS bI; simp [*], rfl⟩
  by_cases q3 : kind = 3
  · refine z_tableIn 60 C dX4_meetsNumber_1 (by rw [q3]; decide) (by rw [q3]; decide) (by rw [q3]; rfl) (by decide) ?_
    refine z_aload_n C rfl dX4_meetsNumber_60 ?_
    refine zg3_length C (fun w h => List.mem_cons_of_mem _ (uc_wsX30 w h)) hk (List.mem_cons_of_mem _ wc69) dX4_meetsNumber_61 ?_
    refine z_iload_n C rfl dX4_meetsNumber_64 ?_
    refine z_icmp_gt 72 C dX4_meetsNumber_65 (by decide) (fun c65 => ?_) (fun c65 => ?_)
    · refine z_iconst 0 (by decide) C dX4_meetsNumber_72 ?_
      refine z_zreturn C F (Nat.le_of_ble_eq_true rfl) (Nat.le_of_ble_eq_true rfl) (by decide) dX4_meetsNumber_73 ?_
      exact ⟨by unfold mnS bI; simp [*], rfl⟩
    · refine z_iconst 1 (by decide) C dX4_meetsNumber_68 ?_
      refine z_goto 73 C dX4_meetsNumber_69 (by decide) ?_
      refine z_zreturn C F (Nat.le_of_ble_eq_true rfl) (Nat.le_of_ble_eq_true rfl) (by decide) dX4_meetsNumber_73 ?_
      exact ⟨by unfold mnS bI; simp [*], rfl⟩
  by_cases q4 : kind = 4
  · refine z_tableIn 74 C dX4_meetsNumber_1 (by rw [q4]; decide) (by rw [q4]; decide) (by rw [q4]; rfl) (by decide) ?_
    refine z_aload_n C rfl dX4_meetsNumber_74 ?_
    refine zg3_lastDay C (fun w h => List.mem_cons_of_mem _ (uc_wsX30 w h)) hk (List.mem_cons_of_mem _ wc70) dX4_meetsNumber_75 ?_
    refine z_iconst (-1) (by decide) C dX4_meetsNumber_78 ?_
    refine z_icmp_eq 99 C dX4_meetsNumber_79 (by decide) (fun c79 => ?_) (fun c79 => ?_)
    · refine z_iconst 0 (by decide) C dX4_meetsNumber_99 ?_
      refine z_zreturn C F (Nat.le_of_ble_eq_true rfl) (Nat.le_of_ble_eq_true rfl) (by decide) dX4_meetsNumber_100 ?_
      exact ⟨by unfold mnS bI; simp [*], rfl⟩
    · refine z_aload_n C rfl dX4_meetsNumber_82 ?_
      refine zg4_day C (fun w h => List.mem_cons_of_mem _ (uc_wsX40 w h)) hS.c (List.mem_cons_of_mem _ wc50) dX4_meetsNumber_83 ?_
      refine z_aload_n C rfl dX4_meetsNumber_86 ?_
      refine zg3_lastDay C (fun w h => List.mem_cons_of_mem _ (uc_wsX30 w h)) hk (List.mem_cons_of_mem _ wc70) dX4_meetsNumber_87 ?_
      refine z_isub C dX4_meetsNumber_90 ?_
      refine z_iload_n C rfl dX4_meetsNumber_91 ?_
      refine z_icmp_gt 99 C dX4_meetsNumber_92 (by decide) (fun c92 => ?_) (fun c92 => ?_)
      · refine z_iconst 0 (by decide) C dX4_meetsNumber_99 ?_
        refine z_zreturn C F (Nat.le_of_ble_eq_true rfl) (Nat.le_of_ble_eq_true rfl) (by decide) dX4_meetsNumber_100 ?_
        exact ⟨by unfold mnS bI; simp [*], rfl⟩
      · refine z_iconst 1 (by decide) C dX4_meetsNumber_95 ?_
        refine z_goto 100 C dX4_meetsNumber_96 (by decide) ?_
        refine z_zreturn C F (Nat.le_of_ble_eq_true rfl) (Nat.le_of_ble_eq_true rfl) (by decide) dX4_meetsNumber_100 ?_
        exact ⟨by unfold mnS bI; simp [*], rfl⟩
  refine z_tableOut 101 C dX4_meetsNumber_1 (by have r1 := zt_ne (w := 1) q1 (by decide); have r2 := zt_ne (w := 2) q2 (by decide); have r3 := zt_ne (w := 3) q3 (by decide); have r4 := zt_ne (w := 4) q4 (by decide); omega) (by decide) ?_
  refine z_iconst 0 (by decide) C dX4_meetsNumber_101 ?_
  refine z_zreturn C F (Nat.le_of_ble_eq_true rfl) (Nat.le_of_ble_eq_true rfl) (by decide) dX4_meetsNumber_102 ?_
  exact ⟨by unfold mnS bI; simp [*], rfl⟩
set_option maxRecDepth 100000 in
set_option maxHeartbeats 4000000 in
theorem C_tracksMeetingNumber {l : Launch} (hl0 : l.stackTraces = false) {S : ZM} {L : Nat → Nat} (hS : cS S L) (hT : cTk S L) (kind asked : Int32) : zMet l yX4_tracksMeetingNumber (Cond.code yX4_tracksMeetingNumber cX4_tracksMeetingNumber 6 (some .int) :: LWc) ({ frames := 1, cells := 0, slots := 0, locals := 23 } : Room) 0 0 [zr (some (L 0)), zi kind, zi asked] S (zPo (fun v S' => v = some (zi (sF (pS S L (fun _ a => mnS S L kind asked a)) 24)) ∧ S' = S) (fun _ _ => False)) := by
  refine zMet.of' [some (zr (some (L 0))), some (zi kind), some (zi asked), none, none, none] hl0 (by decide) rfl (Nat.le_of_ble_eq_true rfl) rfl ?_
  intro X C N hR hN0 hX F
  subst hX
  have loop : ∀ (n i : Nat) (w : Option ZV), i + n = 24 → zW X 6 0 0 S 5 [some (zr (some (L 0))), some (zi kind), some (zi asked), some (zi (sF (pS S L (fun _ a => mnS S L kind asked a)) i)), some (zi (nI i)), w] [] := by
    intro n
    induction n with
    | zero =>
      intro i w hi
      obtain rfl : i = 24 := by omega
      refine z_iload C rfl dX4_tracksMeetingNumber_5 ?_
      refine z_bipush 24 (by decide) C dX4_tracksMeetingNumber_7 ?_
      refine z_icmp_ge 49 C dX4_tracksMeetingNumber_9 (by decide) (fun c9 => ?_) (fun c9 => ?_)
      · refine z_iload_n C rfl dX4_tracksMeetingNumber_49 ?_
        refine z_ireturn C F (Nat.le_of_ble_eq_true rfl) (Nat.le_of_ble_eq_true rfl) dX4_tracksMeetingNumber_50 ?_
        exact ⟨rfl, rfl⟩
      · exact absurd (by decide) c9
    | succ n ih =>
      intro i w hi
      have hi24 : i < 24 := by omega
      have fin : ∀ (r : Int32) (w : Option ZV), sF (pS S L (fun _ a => mnS S L kind asked a)) (i + 1) = r → zW X 6 0 0 S 5 [some (zr (some (L 0))), some (zi kind), some (zi asked), some (zi (r)), some (zi (nI i + 1)), w] [] := by
        intro r w e
        have q := ih (i + 1) w (by omega)
        rw [e, nI_succ] at q
        exact q
      refine z_iload C rfl dX4_tracksMeetingNumber_5 ?_
      refine z_bipush 24 (by decide) C dX4_tracksMeetingNumber_7 ?_
      refine z_icmp_ge 49 C dX4_tracksMeetingNumber_9 (by decide) (fun c9 => ?_) (fun c9 => ?_)
      · exact absurd c9 (n24 hi24)
      · refine z_aload_n C rfl dX4_tracksMeetingNumber_12 ?_
        refine z_iload C rfl dX4_tracksMeetingNumber_13 ?_
        refine z_callC 1 [zi (nI i)] C rfl (C_trackOrNull hl0 hS (nI i)) rfl (zgoodV LWc_good wc55 wc56 wc57 wc58 wc59) rfl rfl rfl (by decide +kernel) rfl (by rw [hR]; exact ⟨Nat.le_of_ble_eq_true rfl, Nat.le_of_ble_eq_true rfl⟩) hS.c (by rw [hR]; exact ⟨Nat.le_of_ble_eq_true rfl, Nat.le_of_ble_eq_true rfl⟩) (Nat.le_of_ble_eq_true rfl) dX4_tracksMeetingNumber_15 (fun v15 S15 h15 => ?_) (fun E15 S15 h15 => ?_)
        · obtain ⟨rfl, rfl⟩ := h15
          refine z_ref (cAt_nI hi24 (by decide)) ?_
          refine z_astore [_, _, _, _, _, _] C (by decide) rfl dX4_tracksMeetingNumber_18 ?_
          refine z_aload C rfl dX4_tracksMeetingNumber_20 ?_
          refine z_ifnull 43 C dX4_tracksMeetingNumber_22 (by decide) (fun c22 => ?_) (fun a22 c22 => ?_)
          · refine z_inc (1) [_, _, _, _, _, _] C rfl (by decide) (by decide) rfl dX4_tracksMeetingNumber_43 ?_
            refine z_goto 5 C dX4_tracksMeetingNumber_46 (by decide) ?_
            first | exact fin _ _ (sF_no (pS_none c22)) | exact fin _ _ (sF_no ((pS_some c22).trans (bI_eq.mp c33))) | exact fin _ _ (sF_yes ((pS_some c22).trans (bI_ne.mp c33)))
          · refine z_aload_n C rfl dX4_tracksMeetingNumber_25 ?_
            refine z_aload C rfl dX4_tracksMeetingNumber_26 ?_
            refine z_ref c22 ?_
            refine z_iload_n C rfl dX4_tracksMeetingNumber_28 ?_
            refine z_iload_n C rfl dX4_tracksMeetingNumber_29 ?_
            refine z_callC 3 [zr (some a22), zi kind, zi asked] C rfl (C_meetsNumber hl0 hS (hT i a22 hi24 c22).1 kind asked) rfl (zgoodV LWc_good wc71 wc72 wc73 wc58 wc74) rfl rfl rfl (by decide +kernel) rfl (by rw [hR]; exact ⟨Nat.le_of_ble_eq_true rfl, Nat.le_of_ble_eq_true rfl⟩) hS.c (by rw [hR]; exact ⟨Nat.le_of_ble_eq_true rfl, Nat.le_of_ble_eq_true rfl⟩) (Nat.le_of_ble_eq_true rfl) dX4_tracksMeetingNumber_30 (fun v30 S30 h30 => ?_) (fun E30 S30 h30 => ?_)
            · obtain ⟨rfl, rfl⟩ := h30
              refine z_if_eq 43 C dX4_tracksMeetingNumber_33 (by decide) (fun c33 => ?_) (fun c33 => ?_)
              · refine z_inc (1) [_, _, _, _, _, _] C rfl (by decide) (by decide) rfl dX4_tracksMeetingNumber_43 ?_
                refine z_goto 5 C dX4_tracksMeetingNumber_46 (by decide) ?_
                first | exact fin _ _ (sF_no (pS_none c22)) | exact fin _ _ (sF_no ((pS_some c22).trans (bI_eq.mp c33))) | exact fin _ _ (sF_yes ((pS_some c22).trans (bI_ne.mp c33)))
              · refine z_iload_n C rfl dX4_tracksMeetingNumber_36 ?_
                refine z_iconst 1 (by decide) C dX4_tracksMeetingNumber_37 ?_
                refine z_iload C rfl dX4_tracksMeetingNumber_38 ?_
                refine z_ishl C dX4_tracksMeetingNumber_40 ?_
                refine z_ior C dX4_tracksMeetingNumber_41 ?_
                refine z_istore_n [_, _, _, _, _, _] C (by decide) rfl dX4_tracksMeetingNumber_42 ?_
                refine z_inc (1) [_, _, _, _, _, _] C rfl (by decide) (by decide) rfl dX4_tracksMeetingNumber_43 ?_
                refine z_goto 5 C dX4_tracksMeetingNumber_46 (by decide) ?_
                first | exact fin _ _ (sF_no (pS_none c22)) | exact fin _ _ (sF_no ((pS_some c22).trans (bI_eq.mp c33))) | exact fin _ _ (sF_yes ((pS_some c22).trans (bI_ne.mp c33)))
            · exact h30.elim
        · exact h15.elim
  refine z_iconst 0 (by decide) C dX4_tracksMeetingNumber_0 ?_
  refine z_istore_n [_, _, _, _, _, _] C (by decide) rfl dX4_tracksMeetingNumber_1 ?_
  refine z_iconst 0 (by decide) C dX4_tracksMeetingNumber_2 ?_
  refine z_istore [_, _, _, _, _, _] C (by decide) rfl dX4_tracksMeetingNumber_3 ?_
  exact loop 24 0 none rfl
set_option maxRecDepth 100000 in
set_option maxHeartbeats 4000000 in
theorem C_bitMeant {l : Launch} (hl0 : l.stackTraces = false) {S : ZM} {L : Nat → Nat} (hS : cS S L) (hG : cGk S L) (hB : cGb S L) (x : Int32) : zMet l yX4_bitMeant (Cond.code yX4_bitMeant cX4_bitMeant 4 (some .int) :: LWc) ({ frames := 1, cells := 0, slots := 0, locals := 21 } : Room) 0 0 [zr (some (L 0)), zi x] S (zPo (fun v S' => v = some (zi ((bmS S 16 (cAt (tQ S (L 2)) 16 x)).elim 0 (fun a => 1 <<< (mI S 10 a &&& 31)))) ∧ S' = S) (fun _ _ => False)) := by
  refine zMet.of' [some (zr (some (L 0))), some (zi x), none, none] hl0 (by decide) rfl (Nat.le_of_ble_eq_true rfl) rfl ?_
  intro X C N hR hN0 hX F
  subst hX
  have loop : ∀ (n i : Nat) (t : Option Nat), i + n = 16 → (∀ a : Nat, t = some a → isTag S L a) → bmS S n t = bmS S 16 (cAt (tQ S (L 2)) 16 x) → zW X 4 0 0 S 8 [some (zr (some (L 0))), some (zi x), some (zr t), some (zi (nI i))] [] := by
    intro n
    induction n with
    | zero =>
      intro i t hi hw he
      obtain rfl : i = 16 := by omega
      have he : t = bmS S 16 (cAt (tQ S (L 2)) 16 x) := he
      refine z_iload_n C rfl dX4_bitMeant_8 ?_
      refine z_bipush 16 (by decide) C dX4_bitMeant_9 ?_
      refine z_icmp_ge 36 C dX4_bitMeant_11 (by decide) (fun c11 => ?_) (fun c11 => ?_)
      · refine z_aload_n C rfl dX4_bitMeant_36 ?_
        refine z_ifnonnull 44 C dX4_bitMeant_37 (by decide) (fun a37 c37 => ?_) (fun c37 => ?_)
        · refine z_iconst 1 (by decide) C dX4_bitMeant_44 ?_
          refine z_aload_n C rfl dX4_bitMeant_45 ?_
          refine z_ref c37 ?_
          refine zg2_number C (fun w h => List.mem_cons_of_mem _ (uc_wsX20 w h)) (by first | exact (hG _ _ (hw _ c15).choose_spec.1 (hw _ c15).choose_spec.2).1 | exact (hG _ _ (hw _ c37).choose_spec.1 (hw _ c37).choose_spec.2).1) (List.mem_cons_of_mem _ wc61) dX4_bitMeant_46 ?_
          refine z_ishl C dX4_bitMeant_49 ?_
          refine z_ireturn C F (Nat.le_of_ble_eq_true rfl) (Nat.le_of_ble_eq_true rfl) dX4_bitMeant_50 ?_
          exact ⟨by rw [← he, c37]; rfl, rfl⟩
        · refine z_iconst 0 (by decide) C dX4_bitMeant_40 ?_
          refine z_goto 50 C dX4_bitMeant_41 (by decide) ?_
          refine z_ireturn C F (Nat.le_of_ble_eq_true rfl) (Nat.le_of_ble_eq_true rfl) dX4_bitMeant_50 ?_
          exact ⟨by rw [← he, c37]; rfl, rfl⟩
      · exact absurd (by decide) c11
    | succ n ih =>
      intro i t hi hw he
      refine z_iload_n C rfl dX4_bitMeant_8 ?_
      refine z_bipush 16 (by decide) C dX4_bitMeant_9 ?_
      refine z_icmp_ge 36 C dX4_bitMeant_11 (by decide) (fun c11 => ?_) (fun c11 => ?_)
      · exact absurd c11 (n16 (by omega))
      · refine z_aload_n C rfl dX4_bitMeant_14 ?_
        refine z_ifnull 36 C dX4_bitMeant_15 (by decide) (fun c15 => ?_) (fun a15 c15 => ?_)
        · have ht : bmS S (n + 1) t = t := by first | (rw [c15]; rfl) | (rw [c15]; exact bmS_stop c22 _)
          rw [ht] at he
          refine z_aload_n C rfl dX4_bitMeant_36 ?_
          refine z_ifnonnull 44 C dX4_bitMeant_37 (by decide) (fun a37 c37 => ?_) (fun c37 => ?_)
          · refine z_iconst 1 (by decide) C dX4_bitMeant_44 ?_
            refine z_aload_n C rfl dX4_bitMeant_45 ?_
            refine z_ref c37 ?_
            refine zg2_number C (fun w h => List.mem_cons_of_mem _ (uc_wsX20 w h)) (by first | exact (hG _ _ (hw _ c15).choose_spec.1 (hw _ c15).choose_spec.2).1 | exact (hG _ _ (hw _ c37).choose_spec.1 (hw _ c37).choose_spec.2).1) (List.mem_cons_of_mem _ wc61) dX4_bitMeant_46 ?_
            refine z_ishl C dX4_bitMeant_49 ?_
            refine z_ireturn C F (Nat.le_of_ble_eq_true rfl) (Nat.le_of_ble_eq_true rfl) dX4_bitMeant_50 ?_
            exact ⟨by rw [← he, c37]; rfl, rfl⟩
          · refine z_iconst 0 (by decide) C dX4_bitMeant_40 ?_
            refine z_goto 50 C dX4_bitMeant_41 (by decide) ?_
            refine z_ireturn C F (Nat.le_of_ble_eq_true rfl) (Nat.le_of_ble_eq_true rfl) dX4_bitMeant_50 ?_
            exact ⟨by rw [← he, c37]; rfl, rfl⟩
        · refine z_aload_n C rfl dX4_bitMeant_18 ?_
          refine z_ref c15 ?_
          refine zg2_becomes C (fun w h => List.mem_cons_of_mem _ (uc_wsX20 w h)) (by first | exact (hG _ _ (hw _ c15).choose_spec.1 (hw _ c15).choose_spec.2).1 | exact (hG _ _ (hw _ c37).choose_spec.1 (hw _ c37).choose_spec.2).1) (List.mem_cons_of_mem _ wc60) dX4_bitMeant_19 ?_
          refine z_ifnull 36 C dX4_bitMeant_22 (by decide) (fun c22 => ?_) (fun a22 c22 => ?_)
          · have ht : bmS S (n + 1) t = t := by first | (rw [c15]; rfl) | (rw [c15]; exact bmS_stop c22 _)
            rw [ht] at he
            refine z_aload_n C rfl dX4_bitMeant_36 ?_
            refine z_ifnonnull 44 C dX4_bitMeant_37 (by decide) (fun a37 c37 => ?_) (fun c37 => ?_)
            · refine z_iconst 1 (by decide) C dX4_bitMeant_44 ?_
              refine z_aload_n C rfl dX4_bitMeant_45 ?_
              refine z_ref c37 ?_
              refine zg2_number C (fun w h => List.mem_cons_of_mem _ (uc_wsX20 w h)) (by first | exact (hG _ _ (hw _ c15).choose_spec.1 (hw _ c15).choose_spec.2).1 | exact (hG _ _ (hw _ c37).choose_spec.1 (hw _ c37).choose_spec.2).1) (List.mem_cons_of_mem _ wc61) dX4_bitMeant_46 ?_
              refine z_ishl C dX4_bitMeant_49 ?_
              refine z_ireturn C F (Nat.le_of_ble_eq_true rfl) (Nat.le_of_ble_eq_true rfl) dX4_bitMeant_50 ?_
              exact ⟨by rw [← he, c37]; rfl, rfl⟩
            · refine z_iconst 0 (by decide) C dX4_bitMeant_40 ?_
              refine z_goto 50 C dX4_bitMeant_41 (by decide) ?_
              refine z_ireturn C F (Nat.le_of_ble_eq_true rfl) (Nat.le_of_ble_eq_true rfl) dX4_bitMeant_50 ?_
              exact ⟨by rw [← he, c37]; rfl, rfl⟩
          · refine z_aload_n C rfl dX4_bitMeant_25 ?_
            refine z_ref c15 ?_
            refine zg2_becomes C (fun w h => List.mem_cons_of_mem _ (uc_wsX20 w h)) (by first | exact (hG _ _ (hw _ c15).choose_spec.1 (hw _ c15).choose_spec.2).1 | exact (hG _ _ (hw _ c37).choose_spec.1 (hw _ c37).choose_spec.2).1) (List.mem_cons_of_mem _ wc60) dX4_bitMeant_26 ?_
            refine z_astore_n [_, _, _, _] C (by decide) rfl dX4_bitMeant_29 ?_
            refine z_inc (1) [_, _, _, _] C rfl (by decide) (by decide) rfl dX4_bitMeant_30 ?_
            refine z_goto 8 C dX4_bitMeant_33 (by decide) ?_
            have q := ih (i + 1) _ (by omega) (fun a h => hB _ _ (hw _ c15) h) (by rw [c22, ← bmS_step c22, ← c15]; exact he)
            rw [nI_succ] at q
            exact q
  refine z_aload_n C rfl dX4_bitMeant_0 ?_
  refine z_iload_n C rfl dX4_bitMeant_1 ?_
  refine z_callC 1 [zi x] C rfl (C_tagOrNull hl0 hS x) rfl (zgoodV LWc_good wc62 wc63 wc64 wc58 wc65) rfl rfl rfl (by decide +kernel) rfl (by rw [hR]; exact ⟨Nat.le_of_ble_eq_true rfl, Nat.le_of_ble_eq_true rfl⟩) hS.c (by rw [hR]; exact ⟨Nat.le_of_ble_eq_true rfl, Nat.le_of_ble_eq_true rfl⟩) (Nat.le_of_ble_eq_true rfl) dX4_bitMeant_2 (fun v2 S2 h2 => ?_) (fun E2 S2 h2 => ?_)
  · obtain ⟨rfl, rfl⟩ := h2
    refine z_astore_n [_, _, _, _] C (by decide) rfl dX4_bitMeant_5 ?_
    refine z_iconst 0 (by decide) C dX4_bitMeant_6 ?_
    refine z_istore_n [_, _, _, _] C (by decide) rfl dX4_bitMeant_7 ?_
    exact loop 16 0 _ rfl (fun a h => by obtain ⟨i, h1, h2, h3⟩ := cAt_some (by decide) h; exact ⟨i, h1, h3⟩) rfl
  · exact h2.elim
