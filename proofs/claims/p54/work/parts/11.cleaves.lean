/-! the class: leaves -/
set_option maxRecDepth 100000 in
set_option maxHeartbeats 4000000 in
theorem C_trackOrNull {l : Launch} (hl0 : l.stackTraces = false) {S : ZM} {L : Nat → Nat} (hS : cS S L) (x : Int32) : zMet l yX4_trackOrNull (Cond.code yX4_trackOrNull cX4_trackOrNull 2 (some (.object "Smartcrate$Track")) :: LWc) ({ frames := 0, cells := 0, slots := 0, locals := 0 } : Room) 0 0 [zr (some (L 0)), zi x] S (zPo (fun v S' => v = some (zr (cAt (tQ S (L 1)) 24 x)) ∧ S' = S) (fun _ _ => False)) := by
  refine zMet.of' [some (zr (some (L 0))), some (zi x)] hl0 (by decide) rfl (Nat.le_of_ble_eq_true rfl) rfl ?_
  intro X C N hR hN0 hX F
  subst hX
  refine z_iload_n C rfl dX4_trackOrNull_0 ?_
  refine z_if_lt 19 C dX4_trackOrNull_1 (by decide) (fun c1 => ?_) (fun c1 => ?_)
  · refine z_null C dX4_trackOrNull_19 ?_
    refine z_areturn C F (Or.inl ⟨_, rfl⟩) (Nat.le_of_ble_eq_true rfl) (Nat.le_of_ble_eq_true rfl) dX4_trackOrNull_20 ?_
    first | exact ⟨by rw [cAt_lo c1], rfl⟩ | exact ⟨by rw [cAt_hi (n := 24) c7], rfl⟩ | exact ⟨by rw [cAt_in (n := 24) c1 c7], rfl⟩
  · refine z_iload_n C rfl dX4_trackOrNull_4 ?_
    refine z_bipush 24 (by decide) C dX4_trackOrNull_5 ?_
    refine z_icmp_ge 19 C dX4_trackOrNull_7 (by decide) (fun c7 => ?_) (fun c7 => ?_)
    · refine z_null C dX4_trackOrNull_19 ?_
      refine z_areturn C F (Or.inl ⟨_, rfl⟩) (Nat.le_of_ble_eq_true rfl) (Nat.le_of_ble_eq_true rfl) dX4_trackOrNull_20 ?_
      first | exact ⟨by rw [cAt_lo c1], rfl⟩ | exact ⟨by rw [cAt_hi (n := 24) c7], rfl⟩ | exact ⟨by rw [cAt_in (n := 24) c1 c7], rfl⟩
    · refine z_aload_n C rfl dX4_trackOrNull_10 ?_
      refine zg4_allTracks C (fun w h => List.mem_cons_of_mem _ (uc_wsX40 w h)) hS.c (List.mem_cons_of_mem _ wc32) dX4_trackOrNull_11 ?_
      refine z_ref hS.t.1 ?_
      refine z_iload_n C rfl dX4_trackOrNull_14 ?_
      refine z_aaload_3 C hS.t.2.1 (by rw [hS.t.2.2]; exact vp_in_of2 c1 c7 (by decide)) dX4_trackOrNull_15 ?_
      refine z_goto 20 C dX4_trackOrNull_16 (by decide) ?_
      refine z_areturn C F (Or.inl ⟨_, rfl⟩) (Nat.le_of_ble_eq_true rfl) (Nat.le_of_ble_eq_true rfl) dX4_trackOrNull_20 ?_
      first | exact ⟨by rw [cAt_lo c1], rfl⟩ | exact ⟨by rw [cAt_hi (n := 24) c7], rfl⟩ | exact ⟨by rw [cAt_in (n := 24) c1 c7], rfl⟩
set_option maxRecDepth 100000 in
set_option maxHeartbeats 4000000 in
theorem C_tagOrNull {l : Launch} (hl0 : l.stackTraces = false) {S : ZM} {L : Nat → Nat} (hS : cS S L) (x : Int32) : zMet l yX4_tagOrNull (Cond.code yX4_tagOrNull cX4_tagOrNull 2 (some (.object "Smartcrate$Tag")) :: LWc) ({ frames := 0, cells := 0, slots := 0, locals := 0 } : Room) 0 0 [zr (some (L 0)), zi x] S (zPo (fun v S' => v = some (zr (cAt (tQ S (L 2)) 16 x)) ∧ S' = S) (fun _ _ => False)) := by
  refine zMet.of' [some (zr (some (L 0))), some (zi x)] hl0 (by decide) rfl (Nat.le_of_ble_eq_true rfl) rfl ?_
  intro X C N hR hN0 hX F
  subst hX
  refine z_iload_n C rfl dX4_tagOrNull_0 ?_
  refine z_if_lt 19 C dX4_tagOrNull_1 (by decide) (fun c1 => ?_) (fun c1 => ?_)
  · refine z_null C dX4_tagOrNull_19 ?_
    refine z_areturn C F (Or.inl ⟨_, rfl⟩) (Nat.le_of_ble_eq_true rfl) (Nat.le_of_ble_eq_true rfl) dX4_tagOrNull_20 ?_
    first | exact ⟨by rw [cAt_lo c1], rfl⟩ | exact ⟨by rw [cAt_hi (n := 16) c7], rfl⟩ | exact ⟨by rw [cAt_in (n := 16) c1 c7], rfl⟩
  · refine z_iload_n C rfl dX4_tagOrNull_4 ?_
    refine z_bipush 16 (by decide) C dX4_tagOrNull_5 ?_
    refine z_icmp_ge 19 C dX4_tagOrNull_7 (by decide) (fun c7 => ?_) (fun c7 => ?_)
    · refine z_null C dX4_tagOrNull_19 ?_
      refine z_areturn C F (Or.inl ⟨_, rfl⟩) (Nat.le_of_ble_eq_true rfl) (Nat.le_of_ble_eq_true rfl) dX4_tagOrNull_20 ?_
      first | exact ⟨by rw [cAt_lo c1], rfl⟩ | exact ⟨by rw [cAt_hi (n := 16) c7], rfl⟩ | exact ⟨by rw [cAt_in (n := 16) c1 c7], rfl⟩
    · refine z_aload_n C rfl dX4_tagOrNull_10 ?_
      refine zg4_allTags C (fun w h => List.mem_cons_of_mem _ (uc_wsX40 w h)) hS.c (List.mem_cons_of_mem _ wc34) dX4_tagOrNull_11 ?_
      refine z_ref hS.g.1 ?_
      refine z_iload_n C rfl dX4_tagOrNull_14 ?_
      refine z_aaload_2 C hS.g.2.1 (by rw [hS.g.2.2]; exact vp_in_of2 c1 c7 (by decide)) dX4_tagOrNull_15 ?_
      refine z_goto 20 C dX4_tagOrNull_16 (by decide) ?_
      refine z_areturn C F (Or.inl ⟨_, rfl⟩) (Nat.le_of_ble_eq_true rfl) (Nat.le_of_ble_eq_true rfl) dX4_tagOrNull_20 ?_
      first | exact ⟨by rw [cAt_lo c1], rfl⟩ | exact ⟨by rw [cAt_hi (n := 16) c7], rfl⟩ | exact ⟨by rw [cAt_in (n := 16) c1 c7], rfl⟩
set_option maxRecDepth 100000 in
set_option maxHeartbeats 4000000 in
theorem C_listOrNull {l : Launch} (hl0 : l.stackTraces = false) {S : ZM} {L : Nat → Nat} (hS : cS S L) (x : Int32) : zMet l yX4_listOrNull (Cond.code yX4_listOrNull cX4_listOrNull 2 (some (.object "Smartcrate$Crate")) :: LWc) ({ frames := 0, cells := 0, slots := 0, locals := 0 } : Room) 0 0 [zr (some (L 0)), zi x] S (zPo (fun v S' => v = some (zr (cAt (tQ S (L 4)) 8 x)) ∧ S' = S) (fun _ _ => False)) := by
  refine zMet.of' [some (zr (some (L 0))), some (zi x)] hl0 (by decide) rfl (Nat.le_of_ble_eq_true rfl) rfl ?_
  intro X C N hR hN0 hX F
  subst hX
  refine z_iload_n C rfl dX4_listOrNull_0 ?_
  refine z_if_lt 19 C dX4_listOrNull_1 (by decide) (fun c1 => ?_) (fun c1 => ?_)
  · refine z_null C dX4_listOrNull_19 ?_
    refine z_areturn C F (Or.inl ⟨_, rfl⟩) (Nat.le_of_ble_eq_true rfl) (Nat.le_of_ble_eq_true rfl) dX4_listOrNull_20 ?_
    first | exact ⟨by rw [cAt_lo c1], rfl⟩ | exact ⟨by rw [cAt_hi (n := 8) c7], rfl⟩ | exact ⟨by rw [cAt_in (n := 8) c1 c7], rfl⟩
  · refine z_iload_n C rfl dX4_listOrNull_4 ?_
    refine z_bipush 8 (by decide) C dX4_listOrNull_5 ?_
    refine z_icmp_ge 19 C dX4_listOrNull_7 (by decide) (fun c7 => ?_) (fun c7 => ?_)
    · refine z_null C dX4_listOrNull_19 ?_
      refine z_areturn C F (Or.inl ⟨_, rfl⟩) (Nat.le_of_ble_eq_true rfl) (Nat.le_of_ble_eq_true rfl) dX4_listOrNull_20 ?_
      first | exact ⟨by rw [cAt_lo c1], rfl⟩ | exact ⟨by rw [cAt_hi (n := 8) c7], rfl⟩ | exact ⟨by rw [cAt_in (n := 8) c1 c7], rfl⟩
    · refine z_aload_n C rfl dX4_listOrNull_10 ?_
      refine zg4_allLists C (fun w h => List.mem_cons_of_mem _ (uc_wsX40 w h)) hS.c (List.mem_cons_of_mem _ wc38) dX4_listOrNull_11 ?_
      refine z_ref hS.l.1 ?_
      refine z_iload_n C rfl dX4_listOrNull_14 ?_
      refine z_aaload_0 C hS.l.2.1 (by rw [hS.l.2.2]; exact vp_in_of2 c1 c7 (by decide)) dX4_listOrNull_15 ?_
      refine z_goto 20 C dX4_listOrNull_16 (by decide) ?_
      refine z_areturn C F (Or.inl ⟨_, rfl⟩) (Nat.le_of_ble_eq_true rfl) (Nat.le_of_ble_eq_true rfl) dX4_listOrNull_20 ?_
      first | exact ⟨by rw [cAt_lo c1], rfl⟩ | exact ⟨by rw [cAt_hi (n := 8) c7], rfl⟩ | exact ⟨by rw [cAt_in (n := 8) c1 c7], rfl⟩
set_option maxRecDepth 100000 in
set_option maxHeartbeats 4000000 in
theorem C_needTrack {l : Launch} (hl0 : l.stackTraces = false) {S : ZM} {L : Nat → Nat} (hS : cS S L) (x : Int32) : zMet l yX4_needTrack (Cond.code yX4_needTrack cX4_needTrack 3 (some (.object "Smartcrate$Track")) :: LWc) ({ frames := 6, cells := 1, slots := 6, locals := 86 } : Room) 1 6 [zr (some (L 0)), zi x] S (zPo (fun v S' => ∃ a : Nat, cAt (tQ S (L 1)) 24 x = some a ∧ v = some (zr (some a)) ∧ S' = S) (fun E S' => cAt (tQ S (L 1)) 24 x = none ∧ E = "java/util/NoSuchElementException" ∧ S' = S)) := by
  refine zMet.of' [some (zr (some (L 0))), some (zi x), none] hl0 (by decide) rfl (Nat.le_of_ble_eq_true rfl) rfl ?_
  intro X C N hR hN0 hX F
  subst hX
  refine z_aload_n C rfl dX4_needTrack_0 ?_
  refine z_iload_n C rfl dX4_needTrack_1 ?_
  refine z_callC 1 [zi x] C rfl (C_trackOrNull hl0 hS x) rfl (zgoodV LWc_good wc55 wc56 wc57 wc58 wc59) rfl rfl rfl (by decide +kernel) rfl (by rw [hR]; exact ⟨Nat.le_of_ble_eq_true rfl, Nat.le_of_ble_eq_true rfl⟩) hS.c (by rw [hR]; exact ⟨Nat.le_of_ble_eq_true rfl, Nat.le_of_ble_eq_true rfl⟩) (Nat.le_of_ble_eq_true rfl) dX4_needTrack_2 (fun v2 S2 h2 => ?_) (fun E2 S2 h2 => ?_)
  · obtain ⟨rfl, rfl⟩ := h2
    refine z_astore_n [_, _, _] C (by decide) rfl dX4_needTrack_5 ?_
    refine z_aload_n C rfl dX4_needTrack_6 ?_
    refine z_ifnonnull 21 C dX4_needTrack_7 (by decide) (fun a7 c7 => ?_) (fun c7 => ?_)
    · refine z_aload_n C rfl dX4_needTrack_21 ?_
      refine z_ref c7 ?_
      refine z_areturn C F (Or.inl ⟨_, rfl⟩) (Nat.le_of_ble_eq_true rfl) (Nat.le_of_ble_eq_true rfl) dX4_needTrack_22 ?_
      exact ⟨_, c7, rfl, rfl⟩
    · refine z_throwNW (text := "there is no such track") 13 six13 n13_0 n13_1 n13_2 n13_5 C F N (by decide +kernel) (List.mem_cons_of_mem _ wc155) (List.mem_cons_of_mem _ wc156) (by decide +kernel) (fun w h => List.mem_cons_of_mem _ (ac_2 w h)) bc_2 (by decide) (by decide +kernel) dX4_needTrack_10 dX4_needTrack_13 dX4_needTrack_14 dX4_needTrack_17 dX4_needTrack_20 (by rw [hR]; exact Nat.le_of_ble_eq_true rfl) (by rw [hR]; exact Nat.le_of_ble_eq_true rfl) (by rw [hR]; exact Nat.le_of_ble_eq_true rfl) (by rw [hR]; exact Nat.le_of_ble_eq_true rfl) (Nat.le_of_ble_eq_true rfl) (Nat.le_of_ble_eq_true rfl) ?_
      exact ⟨c7, rfl, rfl⟩
  · exact h2.elim
set_option maxRecDepth 100000 in
set_option maxHeartbeats 4000000 in
theorem C_needList {l : Launch} (hl0 : l.stackTraces = false) {S : ZM} {L : Nat → Nat} (hS : cS S L) (x : Int32) : zMet l yX4_needList (Cond.code yX4_needList cX4_needList 3 (some (.object "Smartcrate$Crate")) :: LWc) ({ frames := 6, cells := 1, slots := 6, locals := 86 } : Room) 1 6 [zr (some (L 0)), zi x] S (zPo (fun v S' => ∃ a : Nat, cAt (tQ S (L 4)) 8 x = some a ∧ v = some (zr (some a)) ∧ S' = S) (fun E S' => cAt (tQ S (L 4)) 8 x = none ∧ E = "java/util/NoSuchElementException" ∧ S' = S)) := by
  refine zMet.of' [some (zr (some (L 0))), some (zi x), none] hl0 (by decide) rfl (Nat.le_of_ble_eq_true rfl) rfl ?_
  intro X C N hR hN0 hX F
  subst hX
  refine z_aload_n C rfl dX4_needList_0 ?_
  refine z_iload_n C rfl dX4_needList_1 ?_
  refine z_callC 1 [zi x] C rfl (C_listOrNull hl0 hS x) rfl (zgoodV LWc_good wc125 wc126 wc127 wc58 wc128) rfl rfl rfl (by decide +kernel) rfl (by rw [hR]; exact ⟨Nat.le_of_ble_eq_true rfl, Nat.le_of_ble_eq_true rfl⟩) hS.c (by rw [hR]; exact ⟨Nat.le_of_ble_eq_true rfl, Nat.le_of_ble_eq_true rfl⟩) (Nat.le_of_ble_eq_true rfl) dX4_needList_2 (fun v2 S2 h2 => ?_) (fun E2 S2 h2 => ?_)
  · obtain ⟨rfl, rfl⟩ := h2
    refine z_astore_n [_, _, _] C (by decide) rfl dX4_needList_5 ?_
    refine z_aload_n C rfl dX4_needList_6 ?_
    refine z_ifnonnull 21 C dX4_needList_7 (by decide) (fun a7 c7 => ?_) (fun c7 => ?_)
    · refine z_aload_n C rfl dX4_needList_21 ?_
      refine z_ref c7 ?_
      refine z_areturn C F (Or.inl ⟨_, rfl⟩) (Nat.le_of_ble_eq_true rfl) (Nat.le_of_ble_eq_true rfl) dX4_needList_22 ?_
      exact ⟨_, c7, rfl, rfl⟩
    · refine z_throwNW (text := "there is no such list") 13 six13 n13_0 n13_1 n13_2 n13_5 C F N (by decide +kernel) (List.mem_cons_of_mem _ wc155) (List.mem_cons_of_mem _ wc156) (by decide +kernel) (fun w h => List.mem_cons_of_mem _ (ac_2 w h)) bc_2 (by decide) (by decide +kernel) dX4_needList_10 dX4_needList_13 dX4_needList_14 dX4_needList_17 dX4_needList_20 (by rw [hR]; exact Nat.le_of_ble_eq_true rfl) (by rw [hR]; exact Nat.le_of_ble_eq_true rfl) (by rw [hR]; exact Nat.le_of_ble_eq_true rfl) (by rw [hR]; exact Nat.le_of_ble_eq_true rfl) (Nat.le_of_ble_eq_true rfl) (Nat.le_of_ble_eq_true rfl) ?_
      exact ⟨c7, rfl, rfl⟩
  · exact h2.elim
set_option maxRecDepth 100000 in
set_option maxHeartbeats 4000000 in
theorem C_hasBit {l : Launch} (hl0 : l.stackTraces = false) {S : ZM} (s x : Int32) : zMet l yX4_hasBit (Cond.code yX4_hasBit cX4_hasBit 2 (some .boolean) :: LWc) ({ frames := 0, cells := 0, slots := 0, locals := 0 } : Room) 0 0 [zi s, zi x] S (zPo (fun v S' => v = some (zi (bI (hasB s x))) ∧ S' = S) (fun _ _ => False)) := by
  refine zMet.of' [some (zi s), some (zi x)] hl0 (by decide) rfl (Nat.le_of_ble_eq_true rfl) rfl ?_
  intro X C N hR hN0 hX F
  subst hX
  refine z_iload_n C rfl dX4_hasBit_0 ?_
  refine z_iconst 1 (by decide) C dX4_hasBit_1 ?_
  refine z_iload_n C rfl dX4_hasBit_2 ?_
  refine z_ishl C dX4_hasBit_3 ?_
  refine z_iand C dX4_hasBit_4 ?_
  refine z_if_eq 12 C dX4_hasBit_5 (by decide) (fun c5 => ?_) (fun c5 => ?_)
  · refine z_iconst 0 (by decide) C dX4_hasBit_12 ?_
    refine z_zreturn C F (Nat.le_of_ble_eq_true rfl) (Nat.le_of_ble_eq_true rfl) (by decide) dX4_hasBit_13 ?_
    first | exact ⟨by simp only [hasB, c5]; rfl, rfl⟩ | exact ⟨by simp [hasB, c5, bI], rfl⟩
  · refine z_iconst 1 (by decide) C dX4_hasBit_8 ?_
    refine z_goto 13 C dX4_hasBit_9 (by decide) ?_
    refine z_zreturn C F (Nat.le_of_ble_eq_true rfl) (Nat.le_of_ble_eq_true rfl) (by decide) dX4_hasBit_13 ?_
    first | exact ⟨by simp only [hasB, c5]; rfl, rfl⟩ | exact ⟨by simp [hasB, c5, bI], rfl⟩
set_option maxRecDepth 100000 in
set_option maxHeartbeats 4000000 in
theorem C_needRange {l : Launch} (hl0 : l.stackTraces = false) {S : ZM} (x a b : Int32) : zMet l yX4_needRange (Cond.code yX4_needRange cX4_needRange 3 none :: LWc) ({ frames := 6, cells := 1, slots := 6, locals := 86 } : Room) 1 6 [zi x, zi a, zi b] S (zPo (fun v S' => a ≤ x ∧ x ≤ b ∧ v = none ∧ S' = S) (fun E S' => ¬ (a ≤ x ∧ x ≤ b) ∧ E = "java/lang/IllegalArgumentException" ∧ S' = S)) := by
  refine zMet.of' [some (zi x), some (zi a), some (zi b)] hl0 (by decide) rfl (Nat.le_of_ble_eq_true rfl) rfl ?_
  intro X C N hR hN0 hX F
  subst hX
  refine z_iload_n C rfl dX4_needRange_0 ?_
  refine z_iload_n C rfl dX4_needRange_1 ?_
  refine z_icmp_lt 10 C dX4_needRange_2 (by decide) (fun c2 => ?_) (fun c2 => ?_)
  · refine z_throwSW (text := "a value is out of range") ["java/lang/RuntimeException", "java/lang/Exception"] C F N (by decide +kernel) (by decide +kernel) (List.mem_cons_of_mem _ wc53) (List.mem_cons_of_mem _ wc54) (by decide +kernel) (fun w h => List.mem_cons_of_mem _ (ac_0 w h)) bc_0 (by decide) (by decide +kernel) dX4_needRange_10 dX4_needRange_13 dX4_needRange_14 dX4_needRange_17 dX4_needRange_20 (by rw [hR]; exact Nat.le_of_ble_eq_true rfl) (by rw [hR]; exact Nat.le_of_ble_eq_true rfl) (by rw [hR]; exact Nat.le_of_ble_eq_true rfl) (by rw [hR]; exact Nat.le_of_ble_eq_true rfl) (Nat.le_of_ble_eq_true rfl) (Nat.le_of_ble_eq_true rfl) ?_
    first | exact ⟨fun q => absurd c2 (Int32.not_lt.mpr q.1), rfl, rfl⟩ | exact ⟨fun q => c7 q.2, rfl, rfl⟩
  · refine z_iload_n C rfl dX4_needRange_5 ?_
    refine z_iload_n C rfl dX4_needRange_6 ?_
    refine z_icmp_le 21 C dX4_needRange_7 (by decide) (fun c7 => ?_) (fun c7 => ?_)
    · refine z_return C F (Nat.le_of_ble_eq_true rfl) (Nat.le_of_ble_eq_true rfl) dX4_needRange_21 ?_
      exact ⟨Int32.not_lt.mp c2, c7, rfl, rfl⟩
    · refine z_throwSW (text := "a value is out of range") ["java/lang/RuntimeException", "java/lang/Exception"] C F N (by decide +kernel) (by decide +kernel) (List.mem_cons_of_mem _ wc53) (List.mem_cons_of_mem _ wc54) (by decide +kernel) (fun w h => List.mem_cons_of_mem _ (ac_0 w h)) bc_0 (by decide) (by decide +kernel) dX4_needRange_10 dX4_needRange_13 dX4_needRange_14 dX4_needRange_17 dX4_needRange_20 (by rw [hR]; exact Nat.le_of_ble_eq_true rfl) (by rw [hR]; exact Nat.le_of_ble_eq_true rfl) (by rw [hR]; exact Nat.le_of_ble_eq_true rfl) (by rw [hR]; exact Nat.le_of_ble_eq_true rfl) (Nat.le_of_ble_eq_true rfl) (Nat.le_of_ble_eq_true rfl) ?_
      first | exact ⟨fun q => absurd c2 (Int32.not_lt.mpr q.1), rfl, rfl⟩ | exact ⟨fun q => c7 q.2, rfl, rfl⟩
set_option maxRecDepth 100000 in
set_option maxHeartbeats 4000000 in
theorem C_placeIn {l : Launch} (hl0 : l.stackTraces = false) {S : ZM} {a : Nat} (hk : mK S a = 5) (ord : Int32) : zMet l yX4_placeIn (Cond.code yX4_placeIn cX4_placeIn 2 (some .int) :: LWc) ({ frames := 0, cells := 0, slots := 0, locals := 0 } : Room) 0 0 [zr (some a), zi ord] S (zPo (fun v S' => v = some (zi (plO ord (mI S 17 a) (mI S 18 a) (mI S 19 a) (mI S 16 a))) ∧ S' = S) (fun _ _ => False)) := by
  refine zMet.of' [some (zr (some a)), some (zi ord)] hl0 (by decide) rfl (Nat.le_of_ble_eq_true rfl) rfl ?_
  intro X C N hR hN0 hX F
  subst hX
  refine z_iload_n C rfl dX4_placeIn_0 ?_
  by_cases q112 : ord = 112
  · refine z_tableIn 43 C dX4_placeIn_1 (by rw [q112]; decide) (by rw [q112]; decide) (by rw [q112]; rfl) (by decide) ?_
    refine z_aload_n C rfl dX4_placeIn_43 ?_
    refine zg3_plays C (fun w h => List.mem_cons_of_mem _ (uc_wsX30 w h)) hk (List.mem_cons_of_mem _ wc68) dX4_placeIn_44 ?_
    refine z_ireturn C F (Nat.le_of_ble_eq_true rfl) (Nat.le_of_ble_eq_true rfl) dX4_placeIn_47 ?_
    exact ⟨by unfold plO; simp [*], rfl⟩
  by_cases q113 : ord = 113
  · refine z_tableIn 48 C dX4_placeIn_1 (by rw [q113]; decide) (by rw [q113]; decide) (by rw [q113]; rfl) (by decide) ?_
    refine z_aload_n C rfl dX4_placeIn_48 ?_
    refine zg3_number C (fun w h => List.mem_cons_of_mem _ (uc_wsX30 w h)) hk (List.mem_cons_of_mem _ wc101) dX4_placeIn_49 ?_
    refine z_ineg C dX4_placeIn_52 ?_
    refine z_ireturn C F (Nat.le_of_ble_eq_true rfl) (Nat.le_of_ble_eq_true rfl) dX4_placeIn_53 ?_
    exact ⟨by unfold plO; simp [*], rfl⟩
  by_cases q114 : ord = 114
  · refine z_tableIn 37 C dX4_placeIn_1 (by rw [q114]; decide) (by rw [q114]; decide) (by rw [q114]; rfl) (by decide) ?_
    refine z_aload_n C rfl dX4_placeIn_37 ?_
    refine zg3_rating C (fun w h => List.mem_cons_of_mem _ (uc_wsX30 w h)) hk (List.mem_cons_of_mem _ wc67) dX4_placeIn_38 ?_
    refine z_ineg C dX4_placeIn_41 ?_
    refine z_ireturn C F (Nat.le_of_ble_eq_true rfl) (Nat.le_of_ble_eq_true rfl) dX4_placeIn_42 ?_
    exact ⟨by unfold plO; simp [*], rfl⟩
  by_cases q115 : ord = 115
  · refine z_tableIn 32 C dX4_placeIn_1 (by rw [q115]; decide) (by rw [q115]; decide) (by rw [q115]; rfl) (by decide) ?_
    refine z_aload_n C rfl dX4_placeIn_32 ?_
    refine zg3_length C (fun w h => List.mem_cons_of_mem _ (uc_wsX30 w h)) hk (List.mem_cons_of_mem _ wc69) dX4_placeIn_33 ?_
    refine z_ireturn C F (Nat.le_of_ble_eq_true rfl) (Nat.le_of_ble_eq_true rfl) dX4_placeIn_36 ?_
    exact ⟨by unfold plO; simp [*], rfl⟩
  refine z_tableOut 48 C dX4_placeIn_1 (by have r112 := zt_ne (w := 112) q112 (by decide); have r113 := zt_ne (w := 113) q113 (by decide); have r114 := zt_ne (w := 114) q114 (by decide); have r115 := zt_ne (w := 115) q115 (by decide); omega) (by decide) ?_
  refine z_aload_n C rfl dX4_placeIn_48 ?_
  refine zg3_number C (fun w h => List.mem_cons_of_mem _ (uc_wsX30 w h)) hk (List.mem_cons_of_mem _ wc101) dX4_placeIn_49 ?_
  refine z_ineg C dX4_placeIn_52 ?_
  refine z_ireturn C F (Nat.le_of_ble_eq_true rfl) (Nat.le_of_ble_eq_true rfl) dX4_placeIn_53 ?_
  exact ⟨by unfold plO; simp [*], rfl⟩
set_option maxRecDepth 100000 in
set_option maxHeartbeats 4000000 in
/-- the first of a set in an order -/
theorem C_firstOf {l : Launch} (hl0 : l.stackTraces = false) {S : ZM} {L : Nat → Nat} (hS : cS S L) (hT : cTk S L) (s ord : Int32) : zMet l yX4_firstOf (Cond.code yX4_firstOf cX4_firstOf 6 (some .int) :: LWc) ({ frames := 1, cells := 0, slots := 0, locals := 21 } : Room) 0 0 [zr (some (L 0)), zi s, zi ord] S (zPo (fun v S' => v = some (zi ((fF (prS S L) (plS S L ord) s 24).elim 0 nI)) ∧ S' = S) (fun _ _ => False)) := by
  refine zMet.of' [some (zr (some (L 0))), some (zi s), some (zi ord), none, none, none] hl0 (by decide) rfl (Nat.le_of_ble_eq_true rfl) rfl ?_
  intro X C N hR hN0 hX F
  subst hX
  have hfi : ∀ (i a : Nat), i ≤ 24 → (fF (prS S L) (plS S L ord) s i).bind (tQ S (L 1)) = some a → ∃ j : Nat, fF (prS S L) (plS S L ord) s i = some j ∧ j < 24 ∧ tQ S (L 1) j = some a := by
    intro i a hi h
    obtain ⟨j, h1, h2⟩ := Option.bind_eq_some_iff.mp h
    exact ⟨j, h1, by have := (fF_lt h1).1; omega, h2⟩
  have loop : ∀ (n i : Nat) (w : Option ZV), i + n = 24 → zW X 6 0 0 S 5 [some (zr (some (L 0))), some (zi s), some (zi ord), some (zr ((fF (prS S L) (plS S L ord) s i).bind (tQ S (L 1)))), some (zi (nI i)), w] [] := by
    intro n
    induction n with
    | zero =>
      intro i w hi
      obtain rfl : i = 24 := by omega
      refine z_iload C rfl dX4_firstOf_5 ?_
      refine z_bipush 24 (by decide) C dX4_firstOf_7 ?_
      refine z_icmp_ge 61 C dX4_firstOf_9 (by decide) (fun c9 => ?_) (fun c9 => ?_)
      · refine z_aload_n C rfl dX4_firstOf_61 ?_
        refine z_ifnonnull 69 C dX4_firstOf_62 (by decide) (fun a62 c62 => ?_) (fun c62 => ?_)
        · refine z_aload_n C rfl dX4_firstOf_69 ?_
          refine z_ref c62 ?_
          obtain ⟨j, hj1, hj3, hj4⟩ := hfi 24 _ (by omega) c62
          refine zg3_number C (fun w h => List.mem_cons_of_mem _ (uc_wsX30 w h)) (hT _ _ hj3 hj4).1 (List.mem_cons_of_mem _ wc101) dX4_firstOf_70 ?_
          refine z_ireturn C F (Nat.le_of_ble_eq_true rfl) (Nat.le_of_ble_eq_true rfl) dX4_firstOf_73 ?_
          first | exact ⟨by rw [show (fF (prS S L) (plS S L ord) s 24) = none from by cases hq : fF (prS S L) (plS S L ord) s 24 with | none => rfl | some j => (exfalso; have h1 := (fF_lt hq).2.1; rw [hq] at c62; simp only [Option.bind_some] at c62; simp [prS, c62] at h1)]; rfl, rfl⟩ | exact ⟨by rw [hj1, (hT _ _ hj3 hj4).2]; rfl, rfl⟩
        · refine z_iconst 0 (by decide) C dX4_firstOf_65 ?_
          refine z_goto 73 C dX4_firstOf_66 (by decide) ?_
          refine z_ireturn C F (Nat.le_of_ble_eq_true rfl) (Nat.le_of_ble_eq_true rfl) dX4_firstOf_73 ?_
          first | exact ⟨by rw [show (fF (prS S L) (plS S L ord) s 24) = none from by cases hq : fF (prS S L) (plS S L ord) s 24 with | none => rfl | some j => (exfalso; have h1 := (fF_lt hq).2.1; rw [hq] at c62; simp only [Option.bind_some] at c62; simp [prS, c62] at h1)]; rfl, rfl⟩ | exact ⟨by rw [hj1, (hT _ _ hj3 hj4).2]; rfl, rfl⟩
      · exact absurd (by decide) c9
    | succ n ih =>
      intro i w hi
      have fin : ∀ (r : Option Nat) (w : Option ZV), (fF (prS S L) (plS S L ord) s (i + 1)).bind (tQ S (L 1)) = r → zW X 6 0 0 S 5 [some (zr (some (L 0))), some (zi s), some (zi ord), some (zr r), some (zi (nI i + 1)), w] [] := by
        intro r w e
        have q := ih (i + 1) w (by omega)
        rw [e, nI_succ] at q
        exact q
      have pl1 : ∀ a : Nat, i < 24 → tQ S (L 1) i = some a → plO ord (mI S 17 a) (mI S 18 a) (mI S 19 a) (mI S 16 a) = plS S L ord i := by
        intro a h1 h2
        rw [(hT i a h1 h2).2]; simp only [plS, tad, h2, Option.getD_some]
      have pl2 : ∀ (a j : Nat), fF (prS S L) (plS S L ord) s i = some j → tQ S (L 1) j = some a → j < 24 → plO ord (mI S 17 a) (mI S 18 a) (mI S 19 a) (mI S 16 a) = plS S L ord j := by
        intro a j _ h2 h1
        rw [(hT j a h1 h2).2]; simp only [plS, tad, h2, Option.getD_some]
      have fa1 : tQ S (L 1) i = none → (fF (prS S L) (plS S L ord) s (i + 1)).bind (tQ S (L 1)) = (fF (prS S L) (plS S L ord) s i).bind (tQ S (L 1)) := by
        intro h; simp only [fF]; rw [if_neg (by simp [prS, h])]
      have fa2 : hasB s (nI i) = false → (fF (prS S L) (plS S L ord) s (i + 1)).bind (tQ S (L 1)) = (fF (prS S L) (plS S L ord) s i).bind (tQ S (L 1)) := by
        intro h; simp only [fF]; rw [if_neg (by simp [h])]
      have fnone : (fF (prS S L) (plS S L ord) s i).bind (tQ S (L 1)) = none → fF (prS S L) (plS S L ord) s i = none := by
        intro h
        cases hq : fF (prS S L) (plS S L ord) s i with
        | none => rfl
        | some j =>
          exfalso
          have h1 := (fF_lt hq).2.1
          rw [hq] at h; simp only [Option.bind_some] at h; simp [prS, h] at h1
      have fa3 : ∀ a : Nat, tQ S (L 1) i = some a → hasB s (nI i) = true → (fF (prS S L) (plS S L ord) s i).bind (tQ S (L 1)) = none → (fF (prS S L) (plS S L ord) s (i + 1)).bind (tQ S (L 1)) = tQ S (L 1) i := by
        intro a h1 h2 h3; simp only [fF]; rw [if_pos ⟨by simp [prS, h1], h2, fun j hj => by rw [fnone h3] at hj; cases hj⟩]; rfl
      have fa4 : ∀ a b : Nat, tQ S (L 1) i = some a → hasB s (nI i) = true → (fF (prS S L) (plS S L ord) s i).bind (tQ S (L 1)) = some b → plO ord (mI S 17 b) (mI S 18 b) (mI S 19 b) (mI S 16 b) ≤ plO ord (mI S 17 a) (mI S 18 a) (mI S 19 a) (mI S 16 a) → (fF (prS S L) (plS S L ord) s (i + 1)).bind (tQ S (L 1)) = (fF (prS S L) (plS S L ord) s i).bind (tQ S (L 1)) := by
        intro a b h1 h2 h3 h4
        obtain ⟨j, j1, j2, j3⟩ := hfi i b (by omega) h3
        rw [pl1 a (by omega) h1, pl2 b j j1 j3 j2] at h4
        simp only [fF]; rw [if_neg (fun q => absurd (q.2.2 j j1) (Int32.not_lt.mpr h4))]
      have fa5 : ∀ a b : Nat, tQ S (L 1) i = some a → hasB s (nI i) = true → (fF (prS S L) (plS S L ord) s i).bind (tQ S (L 1)) = some b → ¬ plO ord (mI S 17 b) (mI S 18 b) (mI S 19 b) (mI S 16 b) ≤ plO ord (mI S 17 a) (mI S 18 a) (mI S 19 a) (mI S 16 a) → (fF (prS S L) (plS S L ord) s (i + 1)).bind (tQ S (L 1)) = tQ S (L 1) i := by
        intro a b h1 h2 h3 h4
        obtain ⟨j, j1, j2, j3⟩ := hfi i b (by omega) h3
        rw [pl1 a (by omega) h1, pl2 b j j1 j3 j2] at h4
        simp only [fF]; rw [if_pos ⟨by simp [prS, h1], h2, fun k hk => by rw [j1] at hk; cases hk; exact Int32.not_le.mp h4⟩]; rfl
      refine z_iload C rfl dX4_firstOf_5 ?_
      refine z_bipush 24 (by decide) C dX4_firstOf_7 ?_
      refine z_icmp_ge 61 C dX4_firstOf_9 (by decide) (fun c9 => ?_) (fun c9 => ?_)
      · exact absurd c9 (nI_ge (b := 24) (by omega) (by decide))
      · refine z_aload_n C rfl dX4_firstOf_12 ?_
        refine z_iload C rfl dX4_firstOf_13 ?_
        refine z_callC 1 [zi (nI i)] C rfl (C_trackOrNull hl0 hS (nI i)) rfl (zgoodV LWc_good wc55 wc56 wc57 wc58 wc59) rfl rfl rfl (by decide +kernel) rfl (by rw [hR]; exact ⟨Nat.le_of_ble_eq_true rfl, Nat.le_of_ble_eq_true rfl⟩) hS.c (by rw [hR]; exact ⟨Nat.le_of_ble_eq_true rfl, Nat.le_of_ble_eq_true rfl⟩) (Nat.le_of_ble_eq_true rfl) dX4_firstOf_15 (fun v15 S15 h15 => ?_) (fun E15 S15 h15 => ?_)
        · obtain ⟨rfl, rfl⟩ := h15
          refine z_ref (cAt_nI (by omega) (by decide)) ?_
          refine z_astore [_, _, _, _, _, _] C (by decide) rfl dX4_firstOf_18 ?_
          refine z_aload C rfl dX4_firstOf_20 ?_
          refine z_ifnull 55 C dX4_firstOf_22 (by decide) (fun c22 => ?_) (fun a22 c22 => ?_)
          · refine z_inc (1) [_, _, _, _, _, _] C rfl (by decide) (by decide) rfl dX4_firstOf_55 ?_
            refine z_goto 5 C dX4_firstOf_58 (by decide) ?_
            first | exact fin _ _ (fa1 c22) | exact fin _ _ (fa2 (bI_eq.mp c31)) | exact fin _ _ (fa3 a22 c22 (bI_ne.mp c31) c35) | exact fin _ _ (fa4 a22 a35 c22 (bI_ne.mp c31) c35 c49) | exact fin _ _ (fa5 a22 a35 c22 (bI_ne.mp c31) c35 c49)
          · refine z_iload_n C rfl dX4_firstOf_25 ?_
            refine z_iload C rfl dX4_firstOf_26 ?_
            refine z_callS 2 [zi s, zi (nI i)] C (C_hasBit hl0 s (nI i)) rfl (zgoodS LWc_good wc102 wc103 wc58 wc104) rfl rfl rfl (by decide +kernel) rfl (by rw [hR]; exact ⟨Nat.le_of_ble_eq_true rfl, Nat.le_of_ble_eq_true rfl⟩) (by rw [hR]; exact ⟨Nat.le_of_ble_eq_true rfl, Nat.le_of_ble_eq_true rfl⟩) (Nat.le_of_ble_eq_true rfl) dX4_firstOf_28 (fun v28 S28 h28 => ?_) (fun E28 S28 h28 => ?_)
            · obtain ⟨rfl, rfl⟩ := h28
              refine z_if_eq 55 C dX4_firstOf_31 (by decide) (fun c31 => ?_) (fun c31 => ?_)
              · refine z_inc (1) [_, _, _, _, _, _] C rfl (by decide) (by decide) rfl dX4_firstOf_55 ?_
                refine z_goto 5 C dX4_firstOf_58 (by decide) ?_
                first | exact fin _ _ (fa1 c22) | exact fin _ _ (fa2 (bI_eq.mp c31)) | exact fin _ _ (fa3 a22 c22 (bI_ne.mp c31) c35) | exact fin _ _ (fa4 a22 a35 c22 (bI_ne.mp c31) c35 c49) | exact fin _ _ (fa5 a22 a35 c22 (bI_ne.mp c31) c35 c49)
              · refine z_aload_n C rfl dX4_firstOf_34 ?_
                refine z_ifnull 52 C dX4_firstOf_35 (by decide) (fun c35 => ?_) (fun a35 c35 => ?_)
                · refine z_aload C rfl dX4_firstOf_52 ?_
                  refine z_astore_n [_, _, _, _, _, _] C (by decide) rfl dX4_firstOf_54 ?_
                  refine z_inc (1) [_, _, _, _, _, _] C rfl (by decide) (by decide) rfl dX4_firstOf_55 ?_
                  refine z_goto 5 C dX4_firstOf_58 (by decide) ?_
                  first | exact fin _ _ (fa1 c22) | exact fin _ _ (fa2 (bI_eq.mp c31)) | exact fin _ _ (fa3 a22 c22 (bI_ne.mp c31) c35) | exact fin _ _ (fa4 a22 a35 c22 (bI_ne.mp c31) c35 c49) | exact fin _ _ (fa5 a22 a35 c22 (bI_ne.mp c31) c35 c49)
                · refine z_aload C rfl dX4_firstOf_38 ?_
                  refine z_ref c22 ?_
                  refine z_iload_n C rfl dX4_firstOf_40 ?_
                  refine z_callS 2 [zr (some a22), zi ord] C (C_placeIn hl0 (hT i a22 (by omega) c22).1 ord) rfl (zgoodS LWc_good wc105 wc106 wc58 wc107) rfl rfl rfl (by decide +kernel) rfl (by rw [hR]; exact ⟨Nat.le_of_ble_eq_true rfl, Nat.le_of_ble_eq_true rfl⟩) (by rw [hR]; exact ⟨Nat.le_of_ble_eq_true rfl, Nat.le_of_ble_eq_true rfl⟩) (Nat.le_of_ble_eq_true rfl) dX4_firstOf_41 (fun v41 S41 h41 => ?_) (fun E41 S41 h41 => ?_)
                  · obtain ⟨rfl, rfl⟩ := h41
                    obtain ⟨j35, e35, l35, m35⟩ := hfi i a35 (by omega) c35
                    refine z_aload_n C rfl dX4_firstOf_44 ?_
                    refine z_ref c35 ?_
                    refine z_iload_n C rfl dX4_firstOf_45 ?_
                    refine z_callS 2 [zr (some a35), zi ord] C (C_placeIn hl0 (hT j35 a35 l35 m35).1 ord) rfl (zgoodS LWc_good wc105 wc106 wc58 wc107) rfl rfl rfl (by decide +kernel) rfl (by rw [hR]; exact ⟨Nat.le_of_ble_eq_true rfl, Nat.le_of_ble_eq_true rfl⟩) (by rw [hR]; exact ⟨Nat.le_of_ble_eq_true rfl, Nat.le_of_ble_eq_true rfl⟩) (Nat.le_of_ble_eq_true rfl) dX4_firstOf_46 (fun v46 S46 h46 => ?_) (fun E46 S46 h46 => ?_)
                    · obtain ⟨rfl, rfl⟩ := h46
                      refine z_icmp_ge 55 C dX4_firstOf_49 (by decide) (fun c49 => ?_) (fun c49 => ?_)
                      · refine z_inc (1) [_, _, _, _, _, _] C rfl (by decide) (by decide) rfl dX4_firstOf_55 ?_
                        refine z_goto 5 C dX4_firstOf_58 (by decide) ?_
                        first | exact fin _ _ (fa1 c22) | exact fin _ _ (fa2 (bI_eq.mp c31)) | exact fin _ _ (fa3 a22 c22 (bI_ne.mp c31) c35) | exact fin _ _ (fa4 a22 a35 c22 (bI_ne.mp c31) c35 c49) | exact fin _ _ (fa5 a22 a35 c22 (bI_ne.mp c31) c35 c49)
                      · refine z_aload C rfl dX4_firstOf_52 ?_
                        refine z_astore_n [_, _, _, _, _, _] C (by decide) rfl dX4_firstOf_54 ?_
                        refine z_inc (1) [_, _, _, _, _, _] C rfl (by decide) (by decide) rfl dX4_firstOf_55 ?_
                        refine z_goto 5 C dX4_firstOf_58 (by decide) ?_
                        first | exact fin _ _ (fa1 c22) | exact fin _ _ (fa2 (bI_eq.mp c31)) | exact fin _ _ (fa3 a22 c22 (bI_ne.mp c31) c35) | exact fin _ _ (fa4 a22 a35 c22 (bI_ne.mp c31) c35 c49) | exact fin _ _ (fa5 a22 a35 c22 (bI_ne.mp c31) c35 c49)
                    · exact h46.elim
                  · exact h41.elim
            · exact h28.elim
        · exact h15.elim
  refine z_null C dX4_firstOf_0 ?_
  refine z_astore_n [_, _, _, _, _, _] C (by decide) rfl dX4_firstOf_1 ?_
  refine z_iconst 0 (by decide) C dX4_firstOf_2 ?_
  refine z_istore [_, _, _, _, _, _] C (by decide) rfl dX4_firstOf_3 ?_
  exact loop 24 0 none rfl
