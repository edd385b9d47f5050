/-! the law's own methods (laid by wip/whole/gen94.py) -/
/-- nothing that a call made lies in F -/
def offd (F : Nat → Bool) (S1 : ZM) : Prop := ∀ b : Nat, zkn (mK S1 b) = true → F b = false
/-- the answer of a method of the law's: 0 and the class's answer put by, or the number of the exception -/
def WQ {α : Type} (mk : α → ZV) (put : ZM → α → ZM) (P : zP) (es : List (String × Int32)) (F : Nat → Bool) (S : ZM) : zP := zPo (fun v S' => (∃ (z : α) (S1 : ZM), P (.inl (some (mk z))) S1 ∧ v = some (zi 0) ∧ S' = put (mrg F S S1) z ∧ offd F S1) ∨ (∃ (E : String) (S1 : ZM) (k : Int32), P (.inr E) S1 ∧ (E, k) ∈ es ∧ v = some (zi k) ∧ S' = mrg F S S1 ∧ offd F S1)) (fun _ _ => False)
theorem vp01 : vp_in 0 1 := by unfold vp_in; decide
def ptI (o : Nat) (S : ZM) (z : Int32) : ZM := eJ S o 0 z.toInt64
def ptB (o : Nat) (S : ZM) (z : Int32) : ZM := eJ S o 0 (if z = 0 then 0 else 1)
def ptF (o : Nat) (S : ZM) (z : UInt32) : ZM := eD S o 0 (FP.f2d z)
def ptD (o : Nat) (S : ZM) (z : UInt64) : ZM := eD S o 0 z
set_option maxRecDepth 100000 in
theorem W_addTrack {l : Launch} (hl0 : l.stackTraces = false) {P : zP} {S : ZM} {F : Nat → Bool} {x o : Nat} (p0 p1 : Int32) (hF : F o = true) (ho : mK S o = 13) (hn : mN S o = 1) (hx : mK S x = 6) (hFk : ∀ b : Nat, F b = true → zkn (mK S b) = true) (hc : zMet l yX4_addTrack (Cond.code yX4_addTrack cX4_addTrack 4 (some .int) :: LWc) ({ frames := 45, cells := 4, slots := 24, locals := 1001 } : Room) 4 24 [zr (some x), zi p0, zi p1] (rsOff F S) P) (hv : ∀ (v : Option ZV) (S1 : ZM), P (.inl v) S1 → ∃ z : Int32, v = some (zi z)) (he : ∀ (E : String) (S1 : ZM), P (.inr E) S1 → E = "java/lang/IllegalArgumentException" ∨ E = "java/lang/IllegalStateException") : zMetN l yL_addTrack (Cond.codeWith yL_addTrack cL_addTrack 5 (some .int) [(0, 10, 13, 13), (0, 10, 17, 15)] :: LWl) ({ frames := 46, cells := 4, slots := 24, locals := 1024 } : Room) 4 24 [zr (some x), zi p0, zi p1, zr (some o)] S (WQ zi (ptI o) P [("java/lang/IllegalArgumentException", 1), ("java/lang/IllegalStateException", 2)] F S) := by
  refine zMetN.ofH [some (zr (some x)), some (zi p0), some (zi p1), some (zr (some o)), none] hl0 (by decide) rfl (Nat.le_of_ble_eq_true rfl) rfl ?_
  intro X C N Nc hR hX F9
  subst hX
  refine z_aload_n C rfl dL_addTrack_0 ?_
  refine z_iconst 0 (by decide) C dL_addTrack_1 ?_
  refine z_aload_n C rfl dL_addTrack_2 ?_
  refine z_iload_n C rfl dL_addTrack_3 ?_
  refine z_iload_n C rfl dL_addTrack_4 ?_
  refine z_callC 2 [zi p0, zi p1] C rfl (hc.off F) rfl (zgoodV2 LWl_good (fun w h => ul_c h) wq2 wq3 wq4 (ul_c wc58) wq5) rfl rfl rfl (by decide +kernel) rfl (by rw [hR]; exact ⟨Nat.le_of_ble_eq_true rfl, Nat.le_of_ble_eq_true rfl⟩) hx (by rw [hR]; exact ⟨Nat.le_of_ble_eq_true rfl, Nat.le_of_ble_eq_true rfl⟩) (Nat.le_of_ble_eq_true rfl) dL_addTrack_5 (fun v5 S5 h5 => ?_) (fun E5 S5 h5 => ?_)
  · obtain ⟨S1, hp, rfl, hof⟩ := h5
    obtain ⟨z, rfl⟩ := hv _ _ hp
    have hk9 : mK (mrg F S S1) o = 13 := (mrg_in hF).1.trans ho
    have hn9 : mN (mrg F S S1) o = 1 := (mrg_in hF).2.1.trans hn
    refine z_i2l C dL_addTrack_8 ?_
    refine z_lastore C hk9 (by rw [hn9]; exact vp01) dL_addTrack_9 ?_
    refine z_goto 21 C dL_addTrack_10 (by decide) ?_
    refine z_iconst 0 (by decide) C dL_addTrack_21 ?_
    refine z_ireturn C F9 (Nat.le_of_ble_eq_true rfl) (Nat.le_of_ble_eq_true rfl) dL_addTrack_22 ?_
    exact Or.inl ⟨z, S1, hp, rfl, rfl, hof hFk⟩
  · obtain ⟨S1, hp, rfl, hof⟩ := h5
    rcases he _ _ hp with rfl | rfl
    · refine z_catch 0 (q := (0, 10, 13, 13)) C N Nc rfl (by decide) (fun z hz => nomatch hz) ⟨by decide, by decide⟩ (by decide) (List.mem_cons_of_mem _ wq0) (fun r => ?_)
      refine z_astore [_, _, _, _, _] C (by decide) rfl dL_addTrack_13 ?_
      refine z_iconst 1 (by decide) C dL_addTrack_15 ?_
      refine z_ireturn C F9 (Nat.le_of_ble_eq_true rfl) (Nat.le_of_ble_eq_true rfl) dL_addTrack_16 ?_
      exact Or.inr ⟨_, S1, 1, hp, List.mem_cons_self, rfl, rfl, hof hFk⟩
    · refine z_catch 1 (q := (0, 10, 17, 15)) C N Nc rfl (by decide) (fun z hz => by obtain rfl := List.mem_singleton.mp hz; exact ⟨by decide, "java/lang/IllegalArgumentException", List.mem_cons_of_mem _ wq0, by decide, by decide⟩) ⟨by decide, by decide⟩ (by decide) (List.mem_cons_of_mem _ wq1) (fun r => ?_)
      refine z_astore [_, _, _, _, _] C (by decide) rfl dL_addTrack_17 ?_
      refine z_iconst 2 (by decide) C dL_addTrack_19 ?_
      refine z_ireturn C F9 (Nat.le_of_ble_eq_true rfl) (Nat.le_of_ble_eq_true rfl) dL_addTrack_20 ?_
      exact Or.inr ⟨_, S1, 2, hp, List.mem_cons_of_mem _ (List.mem_cons_self), rfl, rfl, hof hFk⟩
set_option maxRecDepth 100000 in
theorem W_removeTrack {l : Launch} (hl0 : l.stackTraces = false) {P : zP} {S : ZM} {F : Nat → Bool} {x o : Nat} (p0 : Int32) (hF : F o = true) (ho : mK S o = 13) (hn : mN S o = 1) (hx : mK S x = 6) (hFk : ∀ b : Nat, F b = true → zkn (mK S b) = true) (hc : zMet l yX4_removeTrack (Cond.code yX4_removeTrack cX4_removeTrack 3 (some .int) :: LWc) ({ frames := 45, cells := 1, slots := 6, locals := 1001 } : Room) 1 6 [zr (some x), zi p0] (rsOff F S) P) (hv : ∀ (v : Option ZV) (S1 : ZM), P (.inl v) S1 → ∃ z : Int32, v = some (zi z)) (he : ∀ (E : String) (S1 : ZM), P (.inr E) S1 → E = "java/util/NoSuchElementException") : zMetN l yL_removeTrack (Cond.codeWith yL_removeTrack cL_removeTrack 4 (some .int) [(0, 9, 12, 21)] :: LWl) ({ frames := 46, cells := 1, slots := 6, locals := 1023 } : Room) 1 6 [zr (some x), zi p0, zr (some o)] S (WQ zi (ptI o) P [("java/util/NoSuchElementException", 1)] F S) := by
  refine zMetN.ofH [some (zr (some x)), some (zi p0), some (zr (some o)), none] hl0 (by decide) rfl (Nat.le_of_ble_eq_true rfl) rfl ?_
  intro X C N Nc hR hX F9
  subst hX
  refine z_aload_n C rfl dL_removeTrack_0 ?_
  refine z_iconst 0 (by decide) C dL_removeTrack_1 ?_
  refine z_aload_n C rfl dL_removeTrack_2 ?_
  refine z_iload_n C rfl dL_removeTrack_3 ?_
  refine z_callC 1 [zi p0] C rfl (hc.off F) rfl (zgoodV2 LWl_good (fun w h => ul_c h) wq7 wq8 wq9 (ul_c wc58) wq10) rfl rfl rfl (by decide +kernel) rfl (by rw [hR]; exact ⟨Nat.le_of_ble_eq_true rfl, Nat.le_of_ble_eq_true rfl⟩) hx (by rw [hR]; exact ⟨Nat.le_of_ble_eq_true rfl, Nat.le_of_ble_eq_true rfl⟩) (Nat.le_of_ble_eq_true rfl) dL_removeTrack_4 (fun v5 S5 h5 => ?_) (fun E5 S5 h5 => ?_)
  · obtain ⟨S1, hp, rfl, hof⟩ := h5
    obtain ⟨z, rfl⟩ := hv _ _ hp
    have hk9 : mK (mrg F S S1) o = 13 := (mrg_in hF).1.trans ho
    have hn9 : mN (mrg F S S1) o = 1 := (mrg_in hF).2.1.trans hn
    refine z_i2l C dL_removeTrack_7 ?_
    refine z_lastore C hk9 (by rw [hn9]; exact vp01) dL_removeTrack_8 ?_
    refine z_goto 15 C dL_removeTrack_9 (by decide) ?_
    refine z_iconst 0 (by decide) C dL_removeTrack_15 ?_
    refine z_ireturn C F9 (Nat.le_of_ble_eq_true rfl) (Nat.le_of_ble_eq_true rfl) dL_removeTrack_16 ?_
    exact Or.inl ⟨z, S1, hp, rfl, rfl, hof hFk⟩
  · obtain ⟨S1, hp, rfl, hof⟩ := h5
    obtain rfl := he _ _ hp
    refine z_catch 0 (q := (0, 9, 12, 21)) C N Nc rfl (by decide) (fun z hz => nomatch hz) ⟨by decide, by decide⟩ (by decide) (List.mem_cons_of_mem _ wq6) (fun r => ?_)
    refine z_astore_n [_, _, _, _] C (by decide) rfl dL_removeTrack_12 ?_
    refine z_iconst 1 (by decide) C dL_removeTrack_13 ?_
    refine z_ireturn C F9 (Nat.le_of_ble_eq_true rfl) (Nat.le_of_ble_eq_true rfl) dL_removeTrack_14 ?_
    exact Or.inr ⟨_, S1, 1, hp, List.mem_cons_self, rfl, rfl, hof hFk⟩
set_option maxRecDepth 100000 in
theorem W_setRating {l : Launch} (hl0 : l.stackTraces = false) {P : zP} {S : ZM} {F : Nat → Bool} {x o : Nat} (p0 p1 : Int32) (hF : F o = true) (ho : mK S o = 13) (hn : mN S o = 1) (hx : mK S x = 6) (hFk : ∀ b : Nat, F b = true → zkn (mK S b) = true) (hc : zMet l yX4_setRating (Cond.code yX4_setRating cX4_setRating 5 (some .int) :: LWc) ({ frames := 45, cells := 2, slots := 12, locals := 1001 } : Room) 2 12 [zr (some x), zi p0, zi p1] (rsOff F S) P) (hv : ∀ (v : Option ZV) (S1 : ZM), P (.inl v) S1 → ∃ z : Int32, v = some (zi z)) (he : ∀ (E : String) (S1 : ZM), P (.inr E) S1 → E = "java/util/NoSuchElementException" ∨ E = "java/lang/IllegalArgumentException") : zMetN l yL_setRating (Cond.codeWith yL_setRating cL_setRating 5 (some .int) [(0, 10, 13, 21), (0, 10, 17, 13)] :: LWl) ({ frames := 46, cells := 2, slots := 12, locals := 1025 } : Room) 2 12 [zr (some x), zi p0, zi p1, zr (some o)] S (WQ zi (ptI o) P [("java/util/NoSuchElementException", 1), ("java/lang/IllegalArgumentException", 2)] F S) := by
  refine zMetN.ofH [some (zr (some x)), some (zi p0), some (zi p1), some (zr (some o)), none] hl0 (by decide) rfl (Nat.le_of_ble_eq_true rfl) rfl ?_
  intro X C N Nc hR hX F9
  subst hX
  refine z_aload_n C rfl dL_setRating_0 ?_
  refine z_iconst 0 (by decide) C dL_setRating_1 ?_
  refine z_aload_n C rfl dL_setRating_2 ?_
  refine z_iload_n C rfl dL_setRating_3 ?_
  refine z_iload_n C rfl dL_setRating_4 ?_
  refine z_callC 2 [zi p0, zi p1] C rfl (hc.off F) rfl (zgoodV2 LWl_good (fun w h => ul_c h) wq11 wq12 wq13 (ul_c wc58) wq14) rfl rfl rfl (by decide +kernel) rfl (by rw [hR]; exact ⟨Nat.le_of_ble_eq_true rfl, Nat.le_of_ble_eq_true rfl⟩) hx (by rw [hR]; exact ⟨Nat.le_of_ble_eq_true rfl, Nat.le_of_ble_eq_true rfl⟩) (Nat.le_of_ble_eq_true rfl) dL_setRating_5 (fun v5 S5 h5 => ?_) (fun E5 S5 h5 => ?_)
  · obtain ⟨S1, hp, rfl, hof⟩ := h5
    obtain ⟨z, rfl⟩ := hv _ _ hp
    have hk9 : mK (mrg F S S1) o = 13 := (mrg_in hF).1.trans ho
    have hn9 : mN (mrg F S S1) o = 1 := (mrg_in hF).2.1.trans hn
    refine z_i2l C dL_setRating_8 ?_
    refine z_lastore C hk9 (by rw [hn9]; exact vp01) dL_setRating_9 ?_
    refine z_goto 21 C dL_setRating_10 (by decide) ?_
    refine z_iconst 0 (by decide) C dL_setRating_21 ?_
    refine z_ireturn C F9 (Nat.le_of_ble_eq_true rfl) (Nat.le_of_ble_eq_true rfl) dL_setRating_22 ?_
    exact Or.inl ⟨z, S1, hp, rfl, rfl, hof hFk⟩
  · obtain ⟨S1, hp, rfl, hof⟩ := h5
    rcases he _ _ hp with rfl | rfl
    · refine z_catch 0 (q := (0, 10, 13, 21)) C N Nc rfl (by decide) (fun z hz => nomatch hz) ⟨by decide, by decide⟩ (by decide) (List.mem_cons_of_mem _ wq6) (fun r => ?_)
      refine z_astore [_, _, _, _, _] C (by decide) rfl dL_setRating_13 ?_
      refine z_iconst 1 (by decide) C dL_setRating_15 ?_
      refine z_ireturn C F9 (Nat.le_of_ble_eq_true rfl) (Nat.le_of_ble_eq_true rfl) dL_setRating_16 ?_
      exact Or.inr ⟨_, S1, 1, hp, List.mem_cons_self, rfl, rfl, hof hFk⟩
    · refine z_catch 1 (q := (0, 10, 17, 13)) C N Nc rfl (by decide) (fun z hz => by obtain rfl := List.mem_singleton.mp hz; exact ⟨by decide, "java/util/NoSuchElementException", List.mem_cons_of_mem _ wq6, by decide, by decide⟩) ⟨by decide, by decide⟩ (by decide) (List.mem_cons_of_mem _ wq0) (fun r => ?_)
      refine z_astore [_, _, _, _, _] C (by decide) rfl dL_setRating_17 ?_
      refine z_iconst 2 (by decide) C dL_setRating_19 ?_
      refine z_ireturn C F9 (Nat.le_of_ble_eq_true rfl) (Nat.le_of_ble_eq_true rfl) dL_setRating_20 ?_
      exact Or.inr ⟨_, S1, 2, hp, List.mem_cons_of_mem _ (List.mem_cons_self), rfl, rfl, hof hFk⟩
set_option maxRecDepth 100000 in
theorem W_play {l : Launch} (hl0 : l.stackTraces = false) {P : zP} {S : ZM} {F : Nat → Bool} {x o : Nat} (p0 : Int32) (hF : F o = true) (ho : mK S o = 13) (hn : mN S o = 1) (hx : mK S x = 6) (hFk : ∀ b : Nat, F b = true → zkn (mK S b) = true) (hc : zMet l yX4_play (Cond.code yX4_play cX4_play 3 (some .int) :: LWc) ({ frames := 45, cells := 2, slots := 12, locals := 1001 } : Room) 2 12 [zr (some x), zi p0] (rsOff F S) P) (hv : ∀ (v : Option ZV) (S1 : ZM), P (.inl v) S1 → ∃ z : Int32, v = some (zi z)) (he : ∀ (E : String) (S1 : ZM), P (.inr E) S1 → E = "java/util/NoSuchElementException" ∨ E = "java/lang/IllegalStateException") : zMetN l yL_play (Cond.codeWith yL_play cL_play 4 (some .int) [(0, 9, 12, 21), (0, 9, 15, 15)] :: LWl) ({ frames := 46, cells := 2, slots := 12, locals := 1023 } : Room) 2 12 [zr (some x), zi p0, zr (some o)] S (WQ zi (ptI o) P [("java/util/NoSuchElementException", 1), ("java/lang/IllegalStateException", 2)] F S) := by
  refine zMetN.ofH [some (zr (some x)), some (zi p0), some (zr (some o)), none] hl0 (by decide) rfl (Nat.le_of_ble_eq_true rfl) rfl ?_
  intro X C N Nc hR hX F9
  subst hX
  refine z_aload_n C rfl dL_play_0 ?_
  refine z_iconst 0 (by decide) C dL_play_1 ?_
  refine z_aload_n C rfl dL_play_2 ?_
  refine z_iload_n C rfl dL_play_3 ?_
  refine z_callC 1 [zi p0] C rfl (hc.off F) rfl (zgoodV2 LWl_good (fun w h => ul_c h) wq15 wq16 wq17 (ul_c wc58) wq18) rfl rfl rfl (by decide +kernel) rfl (by rw [hR]; exact ⟨Nat.le_of_ble_eq_true rfl, Nat.le_of_ble_eq_true rfl⟩) hx (by rw [hR]; exact ⟨Nat.le_of_ble_eq_true rfl, Nat.le_of_ble_eq_true rfl⟩) (Nat.le_of_ble_eq_true rfl) dL_play_4 (fun v5 S5 h5 => ?_) (fun E5 S5 h5 => ?_)
  · obtain ⟨S1, hp, rfl, hof⟩ := h5
    obtain ⟨z, rfl⟩ := hv _ _ hp
    have hk9 : mK (mrg F S S1) o = 13 := (mrg_in hF).1.trans ho
    have hn9 : mN (mrg F S S1) o = 1 := (mrg_in hF).2.1.trans hn
    refine z_i2l C dL_play_7 ?_
    refine z_lastore C hk9 (by rw [hn9]; exact vp01) dL_play_8 ?_
    refine z_goto 18 C dL_play_9 (by decide) ?_
    refine z_iconst 0 (by decide) C dL_play_18 ?_
    refine z_ireturn C F9 (Nat.le_of_ble_eq_true rfl) (Nat.le_of_ble_eq_true rfl) dL_play_19 ?_
    exact Or.inl ⟨z, S1, hp, rfl, rfl, hof hFk⟩
  · obtain ⟨S1, hp, rfl, hof⟩ := h5
    rcases he _ _ hp with rfl | rfl
    · refine z_catch 0 (q := (0, 9, 12, 21)) C N Nc rfl (by decide) (fun z hz => nomatch hz) ⟨by decide, by decide⟩ (by decide) (List.mem_cons_of_mem _ wq6) (fun r => ?_)
      refine z_astore_n [_, _, _, _] C (by decide) rfl dL_play_12 ?_
      refine z_iconst 1 (by decide) C dL_play_13 ?_
      refine z_ireturn C F9 (Nat.le_of_ble_eq_true rfl) (Nat.le_of_ble_eq_true rfl) dL_play_14 ?_
      exact Or.inr ⟨_, S1, 1, hp, List.mem_cons_self, rfl, rfl, hof hFk⟩
    · refine z_catch 1 (q := (0, 9, 15, 15)) C N Nc rfl (by decide) (fun z hz => by obtain rfl := List.mem_singleton.mp hz; exact ⟨by decide, "java/util/NoSuchElementException", List.mem_cons_of_mem _ wq6, by decide, by decide⟩) ⟨by decide, by decide⟩ (by decide) (List.mem_cons_of_mem _ wq1) (fun r => ?_)
      refine z_astore_n [_, _, _, _] C (by decide) rfl dL_play_15 ?_
      refine z_iconst 2 (by decide) C dL_play_16 ?_
      refine z_ireturn C F9 (Nat.le_of_ble_eq_true rfl) (Nat.le_of_ble_eq_true rfl) dL_play_17 ?_
      exact Or.inr ⟨_, S1, 2, hp, List.mem_cons_of_mem _ (List.mem_cons_self), rfl, rfl, hof hFk⟩
set_option maxRecDepth 100000 in
theorem W_pass {l : Launch} (hl0 : l.stackTraces = false) {P : zP} {S : ZM} {F : Nat → Bool} {x o : Nat} (p0 : Int32) (hF : F o = true) (ho : mK S o = 13) (hn : mN S o = 1) (hx : mK S x = 6) (hFk : ∀ b : Nat, F b = true → zkn (mK S b) = true) (hc : zMet l yX4_pass (Cond.code yX4_pass cX4_pass 2 (some .int) :: LWc) ({ frames := 45, cells := 2, slots := 12, locals := 1001 } : Room) 2 12 [zr (some x), zi p0] (rsOff F S) P) (hv : ∀ (v : Option ZV) (S1 : ZM), P (.inl v) S1 → ∃ z : Int32, v = some (zi z)) (he : ∀ (E : String) (S1 : ZM), P (.inr E) S1 → E = "java/lang/IllegalArgumentException" ∨ E = "java/lang/IllegalStateException") : zMetN l yL_pass (Cond.codeWith yL_pass cL_pass 4 (some .int) [(0, 9, 12, 13), (0, 9, 15, 15)] :: LWl) ({ frames := 46, cells := 2, slots := 12, locals := 1022 } : Room) 2 12 [zr (some x), zi p0, zr (some o)] S (WQ zi (ptI o) P [("java/lang/IllegalArgumentException", 1), ("java/lang/IllegalStateException", 2)] F S) := by
  refine zMetN.ofH [some (zr (some x)), some (zi p0), some (zr (some o)), none] hl0 (by decide) rfl (Nat.le_of_ble_eq_true rfl) rfl ?_
  intro X C N Nc hR hX F9
  subst hX
  refine z_aload_n C rfl dL_pass_0 ?_
  refine z_iconst 0 (by decide) C dL_pass_1 ?_
  refine z_aload_n C rfl dL_pass_2 ?_
  refine z_iload_n C rfl dL_pass_3 ?_
  refine z_callC 1 [zi p0] C rfl (hc.off F) rfl (zgoodV2 LWl_good (fun w h => ul_c h) wq19 wq20 wq21 (ul_c wc58) wq22) rfl rfl rfl (by decide +kernel) rfl (by rw [hR]; exact ⟨Nat.le_of_ble_eq_true rfl, Nat.le_of_ble_eq_true rfl⟩) hx (by rw [hR]; exact ⟨Nat.le_of_ble_eq_true rfl, Nat.le_of_ble_eq_true rfl⟩) (Nat.le_of_ble_eq_true rfl) dL_pass_4 (fun v5 S5 h5 => ?_) (fun E5 S5 h5 => ?_)
  · obtain ⟨S1, hp, rfl, hof⟩ := h5
    obtain ⟨z, rfl⟩ := hv _ _ hp
    have hk9 : mK (mrg F S S1) o = 13 := (mrg_in hF).1.trans ho
    have hn9 : mN (mrg F S S1) o = 1 := (mrg_in hF).2.1.trans hn
    refine z_i2l C dL_pass_7 ?_
    refine z_lastore C hk9 (by rw [hn9]; exact vp01) dL_pass_8 ?_
    refine z_goto 18 C dL_pass_9 (by decide) ?_
    refine z_iconst 0 (by decide) C dL_pass_18 ?_
    refine z_ireturn C F9 (Nat.le_of_ble_eq_true rfl) (Nat.le_of_ble_eq_true rfl) dL_pass_19 ?_
    exact Or.inl ⟨z, S1, hp, rfl, rfl, hof hFk⟩
  · obtain ⟨S1, hp, rfl, hof⟩ := h5
    rcases he _ _ hp with rfl | rfl
    · refine z_catch 0 (q := (0, 9, 12, 13)) C N Nc rfl (by decide) (fun z hz => nomatch hz) ⟨by decide, by decide⟩ (by decide) (List.mem_cons_of_mem _ wq0) (fun r => ?_)
      refine z_astore_n [_, _, _, _] C (by decide) rfl dL_pass_12 ?_
      refine z_iconst 1 (by decide) C dL_pass_13 ?_
      refine z_ireturn C F9 (Nat.le_of_ble_eq_true rfl) (Nat.le_of_ble_eq_true rfl) dL_pass_14 ?_
      exact Or.inr ⟨_, S1, 1, hp, List.mem_cons_self, rfl, rfl, hof hFk⟩
    · refine z_catch 1 (q := (0, 9, 15, 15)) C N Nc rfl (by decide) (fun z hz => by obtain rfl := List.mem_singleton.mp hz; exact ⟨by decide, "java/lang/IllegalArgumentException", List.mem_cons_of_mem _ wq0, by decide, by decide⟩) ⟨by decide, by decide⟩ (by decide) (List.mem_cons_of_mem _ wq1) (fun r => ?_)
      refine z_astore_n [_, _, _, _] C (by decide) rfl dL_pass_15 ?_
      refine z_iconst 2 (by decide) C dL_pass_16 ?_
      refine z_ireturn C F9 (Nat.le_of_ble_eq_true rfl) (Nat.le_of_ble_eq_true rfl) dL_pass_17 ?_
      exact Or.inr ⟨_, S1, 2, hp, List.mem_cons_of_mem _ (List.mem_cons_self), rfl, rfl, hof hFk⟩
set_option maxRecDepth 100000 in
theorem W_addTag {l : Launch} (hl0 : l.stackTraces = false) {P : zP} {S : ZM} {F : Nat → Bool} {x o : Nat} (hF : F o = true) (ho : mK S o = 13) (hn : mN S o = 1) (hx : mK S x = 6) (hFk : ∀ b : Nat, F b = true → zkn (mK S b) = true) (hc : zMet l yX4_addTag (Cond.code yX4_addTag cX4_addTag 2 (some .int) :: LWc) ({ frames := 6, cells := 4, slots := 42, locals := 86 } : Room) 4 42 [zr (some x)] (rsOff F S) P) (hv : ∀ (v : Option ZV) (S1 : ZM), P (.inl v) S1 → ∃ z : Int32, v = some (zi z)) (he : ∀ (E : String) (S1 : ZM), P (.inr E) S1 → E = "java/lang/IllegalStateException") : zMetN l yL_addTag (Cond.codeWith yL_addTag cL_addTag 3 (some .int) [(0, 8, 11, 15)] :: LWl) ({ frames := 7, cells := 4, slots := 42, locals := 107 } : Room) 4 42 [zr (some x), zr (some o)] S (WQ zi (ptI o) P [("java/lang/IllegalStateException", 1)] F S) := by
  refine zMetN.ofH [some (zr (some x)), some (zr (some o)), none] hl0 (by decide) rfl (Nat.le_of_ble_eq_true rfl) rfl ?_
  intro X C N Nc hR hX F9
  subst hX
  refine z_aload_n C rfl dL_addTag_0 ?_
  refine z_iconst 0 (by decide) C dL_addTag_1 ?_
  refine z_aload_n C rfl dL_addTag_2 ?_
  refine z_callC 0 [] C rfl (hc.off F) rfl (zgoodV2 LWl_good (fun w h => ul_c h) wq23 wq24 wq25 (ul_c wc58) wq26) rfl rfl rfl (by decide +kernel) rfl (by rw [hR]; exact ⟨Nat.le_of_ble_eq_true rfl, Nat.le_of_ble_eq_true rfl⟩) hx (by rw [hR]; exact ⟨Nat.le_of_ble_eq_true rfl, Nat.le_of_ble_eq_true rfl⟩) (Nat.le_of_ble_eq_true rfl) dL_addTag_3 (fun v5 S5 h5 => ?_) (fun E5 S5 h5 => ?_)
  · obtain ⟨S1, hp, rfl, hof⟩ := h5
    obtain ⟨z, rfl⟩ := hv _ _ hp
    have hk9 : mK (mrg F S S1) o = 13 := (mrg_in hF).1.trans ho
    have hn9 : mN (mrg F S S1) o = 1 := (mrg_in hF).2.1.trans hn
    refine z_i2l C dL_addTag_6 ?_
    refine z_lastore C hk9 (by rw [hn9]; exact vp01) dL_addTag_7 ?_
    refine z_goto 14 C dL_addTag_8 (by decide) ?_
    refine z_iconst 0 (by decide) C dL_addTag_14 ?_
    refine z_ireturn C F9 (Nat.le_of_ble_eq_true rfl) (Nat.le_of_ble_eq_true rfl) dL_addTag_15 ?_
    exact Or.inl ⟨z, S1, hp, rfl, rfl, hof hFk⟩
  · obtain ⟨S1, hp, rfl, hof⟩ := h5
    obtain rfl := he _ _ hp
    refine z_catch 0 (q := (0, 8, 11, 15)) C N Nc rfl (by decide) (fun z hz => nomatch hz) ⟨by decide, by decide⟩ (by decide) (List.mem_cons_of_mem _ wq1) (fun r => ?_)
    refine z_astore_n [_, _, _] C (by decide) rfl dL_addTag_11 ?_
    refine z_iconst 1 (by decide) C dL_addTag_12 ?_
    refine z_ireturn C F9 (Nat.le_of_ble_eq_true rfl) (Nat.le_of_ble_eq_true rfl) dL_addTag_13 ?_
    exact Or.inr ⟨_, S1, 1, hp, List.mem_cons_self, rfl, rfl, hof hFk⟩
set_option maxRecDepth 100000 in
theorem W_letter {l : Launch} (hl0 : l.stackTraces = false) {P : zP} {S : ZM} {F : Nat → Bool} {x o : Nat} (p0 p1 : Int32) (hF : F o = true) (ho : mK S o = 13) (hn : mN S o = 1) (hx : mK S x = 6) (hFk : ∀ b : Nat, F b = true → zkn (mK S b) = true) (hc : zMet l yX4_letter (Cond.code yX4_letter cX4_letter 4 (some .int) :: LWc) ({ frames := 7, cells := 3, slots := 18, locals := 108 } : Room) 3 18 [zr (some x), zi p0, zi p1] (rsOff F S) P) (hv : ∀ (v : Option ZV) (S1 : ZM), P (.inl v) S1 → ∃ z : Int32, v = some (zi z)) (he : ∀ (E : String) (S1 : ZM), P (.inr E) S1 → E = "java/util/NoSuchElementException" ∨ E = "java/lang/IllegalArgumentException" ∨ E = "java/lang/IllegalStateException") : zMetN l yL_letter (Cond.codeWith yL_letter cL_letter 5 (some .int) [(0, 10, 13, 21), (0, 10, 17, 13), (0, 10, 21, 15)] :: LWl) ({ frames := 8, cells := 3, slots := 18, locals := 131 } : Room) 3 18 [zr (some x), zi p0, zi p1, zr (some o)] S (WQ zi (ptI o) P [("java/util/NoSuchElementException", 1), ("java/lang/IllegalArgumentException", 2), ("java/lang/IllegalStateException", 3)] F S) := by
  refine zMetN.ofH [some (zr (some x)), some (zi p0), some (zi p1), some (zr (some o)), none] hl0 (by decide) rfl (Nat.le_of_ble_eq_true rfl) rfl ?_
  intro X C N Nc hR hX F9
  subst hX
  refine z_aload_n C rfl dL_letter_0 ?_
  refine z_iconst 0 (by decide) C dL_letter_1 ?_
  refine z_aload_n C rfl dL_letter_2 ?_
  refine z_iload_n C rfl dL_letter_3 ?_
  refine z_iload_n C rfl dL_letter_4 ?_
  refine z_callC 2 [zi p0, zi p1] C rfl (hc.off F) rfl (zgoodV2 LWl_good (fun w h => ul_c h) wq27 wq28 wq29 (ul_c wc58) wq30) rfl rfl rfl (by decide +kernel) rfl (by rw [hR]; exact ⟨Nat.le_of_ble_eq_true rfl, Nat.le_of_ble_eq_true rfl⟩) hx (by rw [hR]; exact ⟨Nat.le_of_ble_eq_true rfl, Nat.le_of_ble_eq_true rfl⟩) (Nat.le_of_ble_eq_true rfl) dL_letter_5 (fun v5 S5 h5 => ?_) (fun E5 S5 h5 => ?_)
  · obtain ⟨S1, hp, rfl, hof⟩ := h5
    obtain ⟨z, rfl⟩ := hv _ _ hp
    have hk9 : mK (mrg F S S1) o = 13 := (mrg_in hF).1.trans ho
    have hn9 : mN (mrg F S S1) o = 1 := (mrg_in hF).2.1.trans hn
    refine z_i2l C dL_letter_8 ?_
    refine z_lastore C hk9 (by rw [hn9]; exact vp01) dL_letter_9 ?_
    refine z_goto 25 C dL_letter_10 (by decide) ?_
    refine z_iconst 0 (by decide) C dL_letter_25 ?_
    refine z_ireturn C F9 (Nat.le_of_ble_eq_true rfl) (Nat.le_of_ble_eq_true rfl) dL_letter_26 ?_
    exact Or.inl ⟨z, S1, hp, rfl, rfl, hof hFk⟩
  · obtain ⟨S1, hp, rfl, hof⟩ := h5
    rcases he _ _ hp with rfl | rfl | rfl
    · refine z_catch 0 (q := (0, 10, 13, 21)) C N Nc rfl (by decide) (fun z hz => nomatch hz) ⟨by decide, by decide⟩ (by decide) (List.mem_cons_of_mem _ wq6) (fun r => ?_)
      refine z_astore [_, _, _, _, _] C (by decide) rfl dL_letter_13 ?_
      refine z_iconst 1 (by decide) C dL_letter_15 ?_
      refine z_ireturn C F9 (Nat.le_of_ble_eq_true rfl) (Nat.le_of_ble_eq_true rfl) dL_letter_16 ?_
      exact Or.inr ⟨_, S1, 1, hp, List.mem_cons_self, rfl, rfl, hof hFk⟩
    · refine z_catch 1 (q := (0, 10, 17, 13)) C N Nc rfl (by decide) (fun z hz => by obtain rfl := List.mem_singleton.mp hz; exact ⟨by decide, "java/util/NoSuchElementException", List.mem_cons_of_mem _ wq6, by decide, by decide⟩) ⟨by decide, by decide⟩ (by decide) (List.mem_cons_of_mem _ wq0) (fun r => ?_)
      refine z_astore [_, _, _, _, _] C (by decide) rfl dL_letter_17 ?_
      refine z_iconst 2 (by decide) C dL_letter_19 ?_
      refine z_ireturn C F9 (Nat.le_of_ble_eq_true rfl) (Nat.le_of_ble_eq_true rfl) dL_letter_20 ?_
      exact Or.inr ⟨_, S1, 2, hp, List.mem_cons_of_mem _ (List.mem_cons_self), rfl, rfl, hof hFk⟩
    · refine z_catch 2 (q := (0, 10, 21, 15)) C N Nc rfl (by decide) (fun z hz => (List.mem_cons.mp hz).elim (fun e => by subst e; exact ⟨by decide, "java/util/NoSuchElementException", List.mem_cons_of_mem _ wq6, by decide, by decide⟩) (fun hz => by obtain rfl := List.mem_singleton.mp hz; exact ⟨by decide, "java/lang/IllegalArgumentException", List.mem_cons_of_mem _ wq0, by decide, by decide⟩)) ⟨by decide, by decide⟩ (by decide) (List.mem_cons_of_mem _ wq1) (fun r => ?_)
      refine z_astore [_, _, _, _, _] C (by decide) rfl dL_letter_21 ?_
      refine z_iconst 3 (by decide) C dL_letter_23 ?_
      refine z_ireturn C F9 (Nat.le_of_ble_eq_true rfl) (Nat.le_of_ble_eq_true rfl) dL_letter_24 ?_
      exact Or.inr ⟨_, S1, 3, hp, List.mem_cons_of_mem _ (List.mem_cons_of_mem _ (List.mem_cons_self)), rfl, rfl, hof hFk⟩
set_option maxRecDepth 100000 in
theorem W_tag {l : Launch} (hl0 : l.stackTraces = false) {P : zP} {S : ZM} {F : Nat → Bool} {x o : Nat} (p0 p1 : Int32) (hF : F o = true) (ho : mK S o = 13) (hn : mN S o = 1) (hx : mK S x = 6) (hFk : ∀ b : Nat, F b = true → zkn (mK S b) = true) (hc : zMet l yX4_tag (Cond.code yX4_tag cX4_tag 5 (some .int) :: LWc) ({ frames := 46, cells := 3, slots := 18, locals := 1023 } : Room) 3 18 [zr (some x), zi p0, zi p1] (rsOff F S) P) (hv : ∀ (v : Option ZV) (S1 : ZM), P (.inl v) S1 → ∃ z : Int32, v = some (zi z)) (he : ∀ (E : String) (S1 : ZM), P (.inr E) S1 → E = "java/util/NoSuchElementException" ∨ E = "java/lang/IllegalStateException") : zMetN l yL_tag (Cond.codeWith yL_tag cL_tag 5 (some .int) [(0, 10, 13, 21), (0, 10, 17, 15)] :: LWl) ({ frames := 47, cells := 3, slots := 18, locals := 1047 } : Room) 3 18 [zr (some x), zi p0, zi p1, zr (some o)] S (WQ zi (ptI o) P [("java/util/NoSuchElementException", 1), ("java/lang/IllegalStateException", 2)] F S) := by
  refine zMetN.ofH [some (zr (some x)), some (zi p0), some (zi p1), some (zr (some o)), none] hl0 (by decide) rfl (Nat.le_of_ble_eq_true rfl) rfl ?_
  intro X C N Nc hR hX F9
  subst hX
  refine z_aload_n C rfl dL_tag_0 ?_
  refine z_iconst 0 (by decide) C dL_tag_1 ?_
  refine z_aload_n C rfl dL_tag_2 ?_
  refine z_iload_n C rfl dL_tag_3 ?_
  refine z_iload_n C rfl dL_tag_4 ?_
  refine z_callC 2 [zi p0, zi p1] C rfl (hc.off F) rfl (zgoodV2 LWl_good (fun w h => ul_c h) wq31 wq32 wq33 (ul_c wc58) wq34) rfl rfl rfl (by decide +kernel) rfl (by rw [hR]; exact ⟨Nat.le_of_ble_eq_true rfl, Nat.le_of_ble_eq_true rfl⟩) hx (by rw [hR]; exact ⟨Nat.le_of_ble_eq_true rfl, Nat.le_of_ble_eq_true rfl⟩) (Nat.le_of_ble_eq_true rfl) dL_tag_5 (fun v5 S5 h5 => ?_) (fun E5 S5 h5 => ?_)
  · obtain ⟨S1, hp, rfl, hof⟩ := h5
    obtain ⟨z, rfl⟩ := hv _ _ hp
    have hk9 : mK (mrg F S S1) o = 13 := (mrg_in hF).1.trans ho
    have hn9 : mN (mrg F S S1) o = 1 := (mrg_in hF).2.1.trans hn
    refine z_i2l C dL_tag_8 ?_
    refine z_lastore C hk9 (by rw [hn9]; exact vp01) dL_tag_9 ?_
    refine z_goto 21 C dL_tag_10 (by decide) ?_
    refine z_iconst 0 (by decide) C dL_tag_21 ?_
    refine z_ireturn C F9 (Nat.le_of_ble_eq_true rfl) (Nat.le_of_ble_eq_true rfl) dL_tag_22 ?_
    exact Or.inl ⟨z, S1, hp, rfl, rfl, hof hFk⟩
  · obtain ⟨S1, hp, rfl, hof⟩ := h5
    rcases he _ _ hp with rfl | rfl
    · refine z_catch 0 (q := (0, 10, 13, 21)) C N Nc rfl (by decide) (fun z hz => nomatch hz) ⟨by decide, by decide⟩ (by decide) (List.mem_cons_of_mem _ wq6) (fun r => ?_)
      refine z_astore [_, _, _, _, _] C (by decide) rfl dL_tag_13 ?_
      refine z_iconst 1 (by decide) C dL_tag_15 ?_
      refine z_ireturn C F9 (Nat.le_of_ble_eq_true rfl) (Nat.le_of_ble_eq_true rfl) dL_tag_16 ?_
      exact Or.inr ⟨_, S1, 1, hp, List.mem_cons_self, rfl, rfl, hof hFk⟩
    · refine z_catch 1 (q := (0, 10, 17, 15)) C N Nc rfl (by decide) (fun z hz => by obtain rfl := List.mem_singleton.mp hz; exact ⟨by decide, "java/util/NoSuchElementException", List.mem_cons_of_mem _ wq6, by decide, by decide⟩) ⟨by decide, by decide⟩ (by decide) (List.mem_cons_of_mem _ wq1) (fun r => ?_)
      refine z_astore [_, _, _, _, _] C (by decide) rfl dL_tag_17 ?_
      refine z_iconst 2 (by decide) C dL_tag_19 ?_
      refine z_ireturn C F9 (Nat.le_of_ble_eq_true rfl) (Nat.le_of_ble_eq_true rfl) dL_tag_20 ?_
      exact Or.inr ⟨_, S1, 2, hp, List.mem_cons_of_mem _ (List.mem_cons_self), rfl, rfl, hof hFk⟩
set_option maxRecDepth 100000 in
theorem W_untag {l : Launch} (hl0 : l.stackTraces = false) {P : zP} {S : ZM} {F : Nat → Bool} {x o : Nat} (p0 p1 : Int32) (hF : F o = true) (ho : mK S o = 13) (hn : mN S o = 1) (hx : mK S x = 6) (hFk : ∀ b : Nat, F b = true → zkn (mK S b) = true) (hc : zMet l yX4_untag (Cond.code yX4_untag cX4_untag 5 (some .int) :: LWc) ({ frames := 46, cells := 3, slots := 18, locals := 1023 } : Room) 3 18 [zr (some x), zi p0, zi p1] (rsOff F S) P) (hv : ∀ (v : Option ZV) (S1 : ZM), P (.inl v) S1 → ∃ z : Int32, v = some (zi z)) (he : ∀ (E : String) (S1 : ZM), P (.inr E) S1 → E = "java/util/NoSuchElementException" ∨ E = "java/lang/IllegalStateException") : zMetN l yL_untag (Cond.codeWith yL_untag cL_untag 5 (some .int) [(0, 10, 13, 21), (0, 10, 17, 15)] :: LWl) ({ frames := 47, cells := 3, slots := 18, locals := 1047 } : Room) 3 18 [zr (some x), zi p0, zi p1, zr (some o)] S (WQ zi (ptI o) P [("java/util/NoSuchElementException", 1), ("java/lang/IllegalStateException", 2)] F S) := by
  refine zMetN.ofH [some (zr (some x)), some (zi p0), some (zi p1), some (zr (some o)), none] hl0 (by decide) rfl (Nat.le_of_ble_eq_true rfl) rfl ?_
  intro X C N Nc hR hX F9
  subst hX
  refine z_aload_n C rfl dL_untag_0 ?_
  refine z_iconst 0 (by decide) C dL_untag_1 ?_
  refine z_aload_n C rfl dL_untag_2 ?_
  refine z_iload_n C rfl dL_untag_3 ?_
  refine z_iload_n C rfl dL_untag_4 ?_
  refine z_callC 2 [zi p0, zi p1] C rfl (hc.off F) rfl (zgoodV2 LWl_good (fun w h => ul_c h) wq35 wq36 wq37 (ul_c wc58) wq38) rfl rfl rfl (by decide +kernel) rfl (by rw [hR]; exact ⟨Nat.le_of_ble_eq_true rfl, Nat.le_of_ble_eq_true rfl⟩) hx (by rw [hR]; exact ⟨Nat.le_of_ble_eq_true rfl, Nat.le_of_ble_eq_true rfl⟩) (Nat.le_of_ble_eq_true rfl) dL_untag_5 (fun v5 S5 h5 => ?_) (fun E5 S5 h5 => ?_)
  · obtain ⟨S1, hp, rfl, hof⟩ := h5
    obtain ⟨z, rfl⟩ := hv _ _ hp
    have hk9 : mK (mrg F S S1) o = 13 := (mrg_in hF).1.trans ho
    have hn9 : mN (mrg F S S1) o = 1 := (mrg_in hF).2.1.trans hn
    refine z_i2l C dL_untag_8 ?_
    refine z_lastore C hk9 (by rw [hn9]; exact vp01) dL_untag_9 ?_
    refine z_goto 21 C dL_untag_10 (by decide) ?_
    refine z_iconst 0 (by decide) C dL_untag_21 ?_
    refine z_ireturn C F9 (Nat.le_of_ble_eq_true rfl) (Nat.le_of_ble_eq_true rfl) dL_untag_22 ?_
    exact Or.inl ⟨z, S1, hp, rfl, rfl, hof hFk⟩
  · obtain ⟨S1, hp, rfl, hof⟩ := h5
    rcases he _ _ hp with rfl | rfl
    · refine z_catch 0 (q := (0, 10, 13, 21)) C N Nc rfl (by decide) (fun z hz => nomatch hz) ⟨by decide, by decide⟩ (by decide) (List.mem_cons_of_mem _ wq6) (fun r => ?_)
      refine z_astore [_, _, _, _, _] C (by decide) rfl dL_untag_13 ?_
      refine z_iconst 1 (by decide) C dL_untag_15 ?_
      refine z_ireturn C F9 (Nat.le_of_ble_eq_true rfl) (Nat.le_of_ble_eq_true rfl) dL_untag_16 ?_
      exact Or.inr ⟨_, S1, 1, hp, List.mem_cons_self, rfl, rfl, hof hFk⟩
    · refine z_catch 1 (q := (0, 10, 17, 15)) C N Nc rfl (by decide) (fun z hz => by obtain rfl := List.mem_singleton.mp hz; exact ⟨by decide, "java/util/NoSuchElementException", List.mem_cons_of_mem _ wq6, by decide, by decide⟩) ⟨by decide, by decide⟩ (by decide) (List.mem_cons_of_mem _ wq1) (fun r => ?_)
      refine z_astore [_, _, _, _, _] C (by decide) rfl dL_untag_17 ?_
      refine z_iconst 2 (by decide) C dL_untag_19 ?_
      refine z_ireturn C F9 (Nat.le_of_ble_eq_true rfl) (Nat.le_of_ble_eq_true rfl) dL_untag_20 ?_
      exact Or.inr ⟨_, S1, 2, hp, List.mem_cons_of_mem _ (List.mem_cons_self), rfl, rfl, hof hFk⟩
set_option maxRecDepth 100000 in
theorem W_tidy {l : Launch} (hl0 : l.stackTraces = false) {P : zP} {S : ZM} {F : Nat → Bool} {x o : Nat} (p0 p1 : Int32) (hF : F o = true) (ho : mK S o = 13) (hn : mN S o = 1) (hx : mK S x = 6) (hFk : ∀ b : Nat, F b = true → zkn (mK S b) = true) (hc : zMet l yX4_tidy (Cond.code yX4_tidy cX4_tidy 6 (some .int) :: LWc) ({ frames := 45, cells := 3, slots := 18, locals := 1001 } : Room) 3 18 [zr (some x), zi p0, zi p1] (rsOff F S) P) (hv : ∀ (v : Option ZV) (S1 : ZM), P (.inl v) S1 → ∃ z : Int32, v = some (zi z)) (he : ∀ (E : String) (S1 : ZM), P (.inr E) S1 → E = "java/util/NoSuchElementException" ∨ E = "java/lang/IllegalArgumentException" ∨ E = "java/lang/UnsupportedOperationException") : zMetN l yL_tidy (Cond.codeWith yL_tidy cL_tidy 5 (some .int) [(0, 10, 13, 21), (0, 10, 17, 13), (0, 10, 21, 49)] :: LWl) ({ frames := 46, cells := 3, slots := 18, locals := 1026 } : Room) 3 18 [zr (some x), zi p0, zi p1, zr (some o)] S (WQ zi (ptI o) P [("java/util/NoSuchElementException", 1), ("java/lang/IllegalArgumentException", 2), ("java/lang/UnsupportedOperationException", 3)] F S) := by
  refine zMetN.ofH [some (zr (some x)), some (zi p0), some (zi p1), some (zr (some o)), none] hl0 (by decide) rfl (Nat.le_of_ble_eq_true rfl) rfl ?_
  intro X C N Nc hR hX F9
  subst hX
  refine z_aload_n C rfl dL_tidy_0 ?_
  refine z_iconst 0 (by decide) C dL_tidy_1 ?_
  refine z_aload_n C rfl dL_tidy_2 ?_
  refine z_iload_n C rfl dL_tidy_3 ?_
  refine z_iload_n C rfl dL_tidy_4 ?_
  refine z_callC 2 [zi p0, zi p1] C rfl (hc.off F) rfl (zgoodV2 LWl_good (fun w h => ul_c h) wq40 wq41 wq42 (ul_c wc58) wq43) rfl rfl rfl (by decide +kernel) rfl (by rw [hR]; exact ⟨Nat.le_of_ble_eq_true rfl, Nat.le_of_ble_eq_true rfl⟩) hx (by rw [hR]; exact ⟨Nat.le_of_ble_eq_true rfl, Nat.le_of_ble_eq_true rfl⟩) (Nat.le_of_ble_eq_true rfl) dL_tidy_5 (fun v5 S5 h5 => ?_) (fun E5 S5 h5 => ?_)
  · obtain ⟨S1, hp, rfl, hof⟩ := h5
    obtain ⟨z, rfl⟩ := hv _ _ hp
    have hk9 : mK (mrg F S S1) o = 13 := (mrg_in hF).1.trans ho
    have hn9 : mN (mrg F S S1) o = 1 := (mrg_in hF).2.1.trans hn
    refine z_i2l C dL_tidy_8 ?_
    refine z_lastore C hk9 (by rw [hn9]; exact vp01) dL_tidy_9 ?_
    refine z_goto 25 C dL_tidy_10 (by decide) ?_
    refine z_iconst 0 (by decide) C dL_tidy_25 ?_
    refine z_ireturn C F9 (Nat.le_of_ble_eq_true rfl) (Nat.le_of_ble_eq_true rfl) dL_tidy_26 ?_
    exact Or.inl ⟨z, S1, hp, rfl, rfl, hof hFk⟩
  · obtain ⟨S1, hp, rfl, hof⟩ := h5
    rcases he _ _ hp with rfl | rfl | rfl
    · refine z_catch 0 (q := (0, 10, 13, 21)) C N Nc rfl (by decide) (fun z hz => nomatch hz) ⟨by decide, by decide⟩ (by decide) (List.mem_cons_of_mem _ wq6) (fun r => ?_)
      refine z_astore [_, _, _, _, _] C (by decide) rfl dL_tidy_13 ?_
      refine z_iconst 1 (by decide) C dL_tidy_15 ?_
      refine z_ireturn C F9 (Nat.le_of_ble_eq_true rfl) (Nat.le_of_ble_eq_true rfl) dL_tidy_16 ?_
      exact Or.inr ⟨_, S1, 1, hp, List.mem_cons_self, rfl, rfl, hof hFk⟩
    · refine z_catch 1 (q := (0, 10, 17, 13)) C N Nc rfl (by decide) (fun z hz => by obtain rfl := List.mem_singleton.mp hz; exact ⟨by decide, "java/util/NoSuchElementException", List.mem_cons_of_mem _ wq6, by decide, by decide⟩) ⟨by decide, by decide⟩ (by decide) (List.mem_cons_of_mem _ wq0) (fun r => ?_)
      refine z_astore [_, _, _, _, _] C (by decide) rfl dL_tidy_17 ?_
      refine z_iconst 2 (by decide) C dL_tidy_19 ?_
      refine z_ireturn C F9 (Nat.le_of_ble_eq_true rfl) (Nat.le_of_ble_eq_true rfl) dL_tidy_20 ?_
      exact Or.inr ⟨_, S1, 2, hp, List.mem_cons_of_mem _ (List.mem_cons_self), rfl, rfl, hof hFk⟩
    · refine z_catch 2 (q := (0, 10, 21, 49)) C N Nc rfl (by decide) (fun z hz => (List.mem_cons.mp hz).elim (fun e => by subst e; exact ⟨by decide, "java/util/NoSuchElementException", List.mem_cons_of_mem _ wq6, by decide, by decide⟩) (fun hz => by obtain rfl := List.mem_singleton.mp hz; exact ⟨by decide, "java/lang/IllegalArgumentException", List.mem_cons_of_mem _ wq0, by decide, by decide⟩)) ⟨by decide, by decide⟩ (by decide) (List.mem_cons_of_mem _ wq39) (fun r => ?_)
      refine z_astore [_, _, _, _, _] C (by decide) rfl dL_tidy_21 ?_
      refine z_iconst 3 (by decide) C dL_tidy_23 ?_
      refine z_ireturn C F9 (Nat.le_of_ble_eq_true rfl) (Nat.le_of_ble_eq_true rfl) dL_tidy_24 ?_
      exact Or.inr ⟨_, S1, 3, hp, List.mem_cons_of_mem _ (List.mem_cons_of_mem _ (List.mem_cons_self)), rfl, rfl, hof hFk⟩
set_option maxRecDepth 100000 in
theorem W_undoTidy {l : Launch} (hl0 : l.stackTraces = false) {P : zP} {S : ZM} {F : Nat → Bool} {x o : Nat} (hF : F o = true) (ho : mK S o = 13) (hn : mN S o = 1) (hx : mK S x = 6) (hFk : ∀ b : Nat, F b = true → zkn (mK S b) = true) (hc : zMet l yX4_undoTidy (Cond.code yX4_undoTidy cX4_undoTidy 4 (some .int) :: LWc) ({ frames := 45, cells := 1, slots := 6, locals := 1001 } : Room) 1 6 [zr (some x)] (rsOff F S) P) (hv : ∀ (v : Option ZV) (S1 : ZM), P (.inl v) S1 → ∃ z : Int32, v = some (zi z)) (he : ∀ (E : String) (S1 : ZM), P (.inr E) S1 → E = "java/lang/IllegalStateException") : zMetN l yL_undoTidy (Cond.codeWith yL_undoTidy cL_undoTidy 3 (some .int) [(0, 8, 11, 15)] :: LWl) ({ frames := 46, cells := 1, slots := 6, locals := 1024 } : Room) 1 6 [zr (some x), zr (some o)] S (WQ zi (ptI o) P [("java/lang/IllegalStateException", 1)] F S) := by
  refine zMetN.ofH [some (zr (some x)), some (zr (some o)), none] hl0 (by decide) rfl (Nat.le_of_ble_eq_true rfl) rfl ?_
  intro X C N Nc hR hX F9
  subst hX
  refine z_aload_n C rfl dL_undoTidy_0 ?_
  refine z_iconst 0 (by decide) C dL_undoTidy_1 ?_
  refine z_aload_n C rfl dL_undoTidy_2 ?_
  refine z_callC 0 [] C rfl (hc.off F) rfl (zgoodV2 LWl_good (fun w h => ul_c h) wq44 wq45 wq46 (ul_c wc58) wq47) rfl rfl rfl (by decide +kernel) rfl (by rw [hR]; exact ⟨Nat.le_of_ble_eq_true rfl, Nat.le_of_ble_eq_true rfl⟩) hx (by rw [hR]; exact ⟨Nat.le_of_ble_eq_true rfl, Nat.le_of_ble_eq_true rfl⟩) (Nat.le_of_ble_eq_true rfl) dL_undoTidy_3 (fun v5 S5 h5 => ?_) (fun E5 S5 h5 => ?_)
  · obtain ⟨S1, hp, rfl, hof⟩ := h5
    obtain ⟨z, rfl⟩ := hv _ _ hp
    have hk9 : mK (mrg F S S1) o = 13 := (mrg_in hF).1.trans ho
    have hn9 : mN (mrg F S S1) o = 1 := (mrg_in hF).2.1.trans hn
    refine z_i2l C dL_undoTidy_6 ?_
    refine z_lastore C hk9 (by rw [hn9]; exact vp01) dL_undoTidy_7 ?_
    refine z_goto 14 C dL_undoTidy_8 (by decide) ?_
    refine z_iconst 0 (by decide) C dL_undoTidy_14 ?_
    refine z_ireturn C F9 (Nat.le_of_ble_eq_true rfl) (Nat.le_of_ble_eq_true rfl) dL_undoTidy_15 ?_
    exact Or.inl ⟨z, S1, hp, rfl, rfl, hof hFk⟩
  · obtain ⟨S1, hp, rfl, hof⟩ := h5
    obtain rfl := he _ _ hp
    refine z_catch 0 (q := (0, 8, 11, 15)) C N Nc rfl (by decide) (fun z hz => nomatch hz) ⟨by decide, by decide⟩ (by decide) (List.mem_cons_of_mem _ wq1) (fun r => ?_)
    refine z_astore_n [_, _, _] C (by decide) rfl dL_undoTidy_11 ?_
    refine z_iconst 1 (by decide) C dL_undoTidy_12 ?_
    refine z_ireturn C F9 (Nat.le_of_ble_eq_true rfl) (Nat.le_of_ble_eq_true rfl) dL_undoTidy_13 ?_
    exact Or.inr ⟨_, S1, 1, hp, List.mem_cons_self, rfl, rfl, hof hFk⟩
set_option maxRecDepth 100000 in
theorem W_hasTag {l : Launch} (hl0 : l.stackTraces = false) {P : zP} {S : ZM} {F : Nat → Bool} {x o : Nat} (p0 : Int32) (hF : F o = true) (ho : mK S o = 13) (hn : mN S o = 1) (hx : mK S x = 6) (hFk : ∀ b : Nat, F b = true → zkn (mK S b) = true) (hc : zMet l yX4_hasTag (Cond.code yX4_hasTag cX4_hasTag 2 (some .int) :: LWc) ({ frames := 7, cells := 3, slots := 19, locals := 111 } : Room) 3 19 [zr (some x), zi p0] (rsOff F S) P) (hv : ∀ (v : Option ZV) (S1 : ZM), P (.inl v) S1 → ∃ z : Int32, v = some (zi z)) (he : ∀ (E : String) (S1 : ZM), P (.inr E) S1 → E = "java/util/NoSuchElementException" ∨ E = "java/lang/IllegalStateException") : zMetN l yL_hasTag (Cond.codeWith yL_hasTag cL_hasTag 4 (some .int) [(0, 9, 12, 21), (0, 9, 15, 15)] :: LWl) ({ frames := 8, cells := 3, slots := 19, locals := 132 } : Room) 3 19 [zr (some x), zi p0, zr (some o)] S (WQ zi (ptI o) P [("java/util/NoSuchElementException", 1), ("java/lang/IllegalStateException", 2)] F S) := by
  refine zMetN.ofH [some (zr (some x)), some (zi p0), some (zr (some o)), none] hl0 (by decide) rfl (Nat.le_of_ble_eq_true rfl) rfl ?_
  intro X C N Nc hR hX F9
  subst hX
  refine z_aload_n C rfl dL_hasTag_0 ?_
  refine z_iconst 0 (by decide) C dL_hasTag_1 ?_
  refine z_aload_n C rfl dL_hasTag_2 ?_
  refine z_iload_n C rfl dL_hasTag_3 ?_
  refine z_callC 1 [zi p0] C rfl (hc.off F) rfl (zgoodV2 LWl_good (fun w h => ul_c h) wq48 wq49 wq50 (ul_c wc58) wq51) rfl rfl rfl (by decide +kernel) rfl (by rw [hR]; exact ⟨Nat.le_of_ble_eq_true rfl, Nat.le_of_ble_eq_true rfl⟩) hx (by rw [hR]; exact ⟨Nat.le_of_ble_eq_true rfl, Nat.le_of_ble_eq_true rfl⟩) (Nat.le_of_ble_eq_true rfl) dL_hasTag_4 (fun v5 S5 h5 => ?_) (fun E5 S5 h5 => ?_)
  · obtain ⟨S1, hp, rfl, hof⟩ := h5
    obtain ⟨z, rfl⟩ := hv _ _ hp
    have hk9 : mK (mrg F S S1) o = 13 := (mrg_in hF).1.trans ho
    have hn9 : mN (mrg F S S1) o = 1 := (mrg_in hF).2.1.trans hn
    refine z_i2l C dL_hasTag_7 ?_
    refine z_lastore C hk9 (by rw [hn9]; exact vp01) dL_hasTag_8 ?_
    refine z_goto 18 C dL_hasTag_9 (by decide) ?_
    refine z_iconst 0 (by decide) C dL_hasTag_18 ?_
    refine z_ireturn C F9 (Nat.le_of_ble_eq_true rfl) (Nat.le_of_ble_eq_true rfl) dL_hasTag_19 ?_
    exact Or.inl ⟨z, S1, hp, rfl, rfl, hof hFk⟩
  · obtain ⟨S1, hp, rfl, hof⟩ := h5
    rcases he _ _ hp with rfl | rfl
    · refine z_catch 0 (q := (0, 9, 12, 21)) C N Nc rfl (by decide) (fun z hz => nomatch hz) ⟨by decide, by decide⟩ (by decide) (List.mem_cons_of_mem _ wq6) (fun r => ?_)
      refine z_astore_n [_, _, _, _] C (by decide) rfl dL_hasTag_12 ?_
      refine z_iconst 1 (by decide) C dL_hasTag_13 ?_
      refine z_ireturn C F9 (Nat.le_of_ble_eq_true rfl) (Nat.le_of_ble_eq_true rfl) dL_hasTag_14 ?_
      exact Or.inr ⟨_, S1, 1, hp, List.mem_cons_self, rfl, rfl, hof hFk⟩
    · refine z_catch 1 (q := (0, 9, 15, 15)) C N Nc rfl (by decide) (fun z hz => by obtain rfl := List.mem_singleton.mp hz; exact ⟨by decide, "java/util/NoSuchElementException", List.mem_cons_of_mem _ wq6, by decide, by decide⟩) ⟨by decide, by decide⟩ (by decide) (List.mem_cons_of_mem _ wq1) (fun r => ?_)
      refine z_astore_n [_, _, _, _] C (by decide) rfl dL_hasTag_15 ?_
      refine z_iconst 2 (by decide) C dL_hasTag_16 ?_
      refine z_ireturn C F9 (Nat.le_of_ble_eq_true rfl) (Nat.le_of_ble_eq_true rfl) dL_hasTag_17 ?_
      exact Or.inr ⟨_, S1, 2, hp, List.mem_cons_of_mem _ (List.mem_cons_self), rfl, rfl, hof hFk⟩
set_option maxRecDepth 100000 in
theorem W_rated {l : Launch} (hl0 : l.stackTraces = false) {P : zP} {S : ZM} {F : Nat → Bool} {x o : Nat} (p0 : Int32) (hF : F o = true) (ho : mK S o = 13) (hn : mN S o = 1) (hx : mK S x = 6) (hFk : ∀ b : Nat, F b = true → zkn (mK S b) = true) (hc : zMet l yX4_rated (Cond.code yX4_rated cX4_rated 2 (some .int) :: LWc) ({ frames := 7, cells := 3, slots := 19, locals := 111 } : Room) 3 19 [zr (some x), zi p0] (rsOff F S) P) (hv : ∀ (v : Option ZV) (S1 : ZM), P (.inl v) S1 → ∃ z : Int32, v = some (zi z)) (he : ∀ (E : String) (S1 : ZM), P (.inr E) S1 → E = "java/lang/IllegalArgumentException" ∨ E = "java/lang/IllegalStateException") : zMetN l yL_rated (Cond.codeWith yL_rated cL_rated 4 (some .int) [(0, 9, 12, 13), (0, 9, 15, 15)] :: LWl) ({ frames := 8, cells := 3, slots := 19, locals := 132 } : Room) 3 19 [zr (some x), zi p0, zr (some o)] S (WQ zi (ptI o) P [("java/lang/IllegalArgumentException", 1), ("java/lang/IllegalStateException", 2)] F S) := by
  refine zMetN.ofH [some (zr (some x)), some (zi p0), some (zr (some o)), none] hl0 (by decide) rfl (Nat.le_of_ble_eq_true rfl) rfl ?_
  intro X C N Nc hR hX F9
  subst hX
  refine z_aload_n C rfl dL_rated_0 ?_
  refine z_iconst 0 (by decide) C dL_rated_1 ?_
  refine z_aload_n C rfl dL_rated_2 ?_
  refine z_iload_n C rfl dL_rated_3 ?_
  refine z_callC 1 [zi p0] C rfl (hc.off F) rfl (zgoodV2 LWl_good (fun w h => ul_c h) wq52 wq53 wq54 (ul_c wc58) wq55) rfl rfl rfl (by decide +kernel) rfl (by rw [hR]; exact ⟨Nat.le_of_ble_eq_true rfl, Nat.le_of_ble_eq_true rfl⟩) hx (by rw [hR]; exact ⟨Nat.le_of_ble_eq_true rfl, Nat.le_of_ble_eq_true rfl⟩) (Nat.le_of_ble_eq_true rfl) dL_rated_4 (fun v5 S5 h5 => ?_) (fun E5 S5 h5 => ?_)
  · obtain ⟨S1, hp, rfl, hof⟩ := h5
    obtain ⟨z, rfl⟩ := hv _ _ hp
    have hk9 : mK (mrg F S S1) o = 13 := (mrg_in hF).1.trans ho
    have hn9 : mN (mrg F S S1) o = 1 := (mrg_in hF).2.1.trans hn
    refine z_i2l C dL_rated_7 ?_
    refine z_lastore C hk9 (by rw [hn9]; exact vp01) dL_rated_8 ?_
    refine z_goto 18 C dL_rated_9 (by decide) ?_
    refine z_iconst 0 (by decide) C dL_rated_18 ?_
    refine z_ireturn C F9 (Nat.le_of_ble_eq_true rfl) (Nat.le_of_ble_eq_true rfl) dL_rated_19 ?_
    exact Or.inl ⟨z, S1, hp, rfl, rfl, hof hFk⟩
  · obtain ⟨S1, hp, rfl, hof⟩ := h5
    rcases he _ _ hp with rfl | rfl
    · refine z_catch 0 (q := (0, 9, 12, 13)) C N Nc rfl (by decide) (fun z hz => nomatch hz) ⟨by decide, by decide⟩ (by decide) (List.mem_cons_of_mem _ wq0) (fun r => ?_)
      refine z_astore_n [_, _, _, _] C (by decide) rfl dL_rated_12 ?_
      refine z_iconst 1 (by decide) C dL_rated_13 ?_
      refine z_ireturn C F9 (Nat.le_of_ble_eq_true rfl) (Nat.le_of_ble_eq_true rfl) dL_rated_14 ?_
      exact Or.inr ⟨_, S1, 1, hp, List.mem_cons_self, rfl, rfl, hof hFk⟩
    · refine z_catch 1 (q := (0, 9, 15, 15)) C N Nc rfl (by decide) (fun z hz => by obtain rfl := List.mem_singleton.mp hz; exact ⟨by decide, "java/lang/IllegalArgumentException", List.mem_cons_of_mem _ wq0, by decide, by decide⟩) ⟨by decide, by decide⟩ (by decide) (List.mem_cons_of_mem _ wq1) (fun r => ?_)
      refine z_astore_n [_, _, _, _] C (by decide) rfl dL_rated_15 ?_
      refine z_iconst 2 (by decide) C dL_rated_16 ?_
      refine z_ireturn C F9 (Nat.le_of_ble_eq_true rfl) (Nat.le_of_ble_eq_true rfl) dL_rated_17 ?_
      exact Or.inr ⟨_, S1, 2, hp, List.mem_cons_of_mem _ (List.mem_cons_self), rfl, rfl, hof hFk⟩
set_option maxRecDepth 100000 in
theorem W_playedAtMost {l : Launch} (hl0 : l.stackTraces = false) {P : zP} {S : ZM} {F : Nat → Bool} {x o : Nat} (p0 : Int32) (hF : F o = true) (ho : mK S o = 13) (hn : mN S o = 1) (hx : mK S x = 6) (hFk : ∀ b : Nat, F b = true → zkn (mK S b) = true) (hc : zMet l yX4_playedAtMost (Cond.code yX4_playedAtMost cX4_playedAtMost 2 (some .int) :: LWc) ({ frames := 7, cells := 3, slots := 19, locals := 111 } : Room) 3 19 [zr (some x), zi p0] (rsOff F S) P) (hv : ∀ (v : Option ZV) (S1 : ZM), P (.inl v) S1 → ∃ z : Int32, v = some (zi z)) (he : ∀ (E : String) (S1 : ZM), P (.inr E) S1 → E = "java/lang/IllegalArgumentException" ∨ E = "java/lang/IllegalStateException") : zMetN l yL_playedAtMost (Cond.codeWith yL_playedAtMost cL_playedAtMost 4 (some .int) [(0, 9, 12, 13), (0, 9, 15, 15)] :: LWl) ({ frames := 8, cells := 3, slots := 19, locals := 132 } : Room) 3 19 [zr (some x), zi p0, zr (some o)] S (WQ zi (ptI o) P [("java/lang/IllegalArgumentException", 1), ("java/lang/IllegalStateException", 2)] F S) := by
  refine zMetN.ofH [some (zr (some x)), some (zi p0), some (zr (some o)), none] hl0 (by decide) rfl (Nat.le_of_ble_eq_true rfl) rfl ?_
  intro X C N Nc hR hX F9
  subst hX
  refine z_aload_n C rfl dL_playedAtMost_0 ?_
  refine z_iconst 0 (by decide) C dL_playedAtMost_1 ?_
  refine z_aload_n C rfl dL_playedAtMost_2 ?_
  refine z_iload_n C rfl dL_playedAtMost_3 ?_
  refine z_callC 1 [zi p0] C rfl (hc.off F) rfl (zgoodV2 LWl_good (fun w h => ul_c h) wq56 wq57 wq58 (ul_c wc58) wq59) rfl rfl rfl (by decide +kernel) rfl (by rw [hR]; exact ⟨Nat.le_of_ble_eq_true rfl, Nat.le_of_ble_eq_true rfl⟩) hx (by rw [hR]; exact ⟨Nat.le_of_ble_eq_true rfl, Nat.le_of_ble_eq_true rfl⟩) (Nat.le_of_ble_eq_true rfl) dL_playedAtMost_4 (fun v5 S5 h5 => ?_) (fun E5 S5 h5 => ?_)
  · obtain ⟨S1, hp, rfl, hof⟩ := h5
    obtain ⟨z, rfl⟩ := hv _ _ hp
    have hk9 : mK (mrg F S S1) o = 13 := (mrg_in hF).1.trans ho
    have hn9 : mN (mrg F S S1) o = 1 := (mrg_in hF).2.1.trans hn
    refine z_i2l C dL_playedAtMost_7 ?_
    refine z_lastore C hk9 (by rw [hn9]; exact vp01) dL_playedAtMost_8 ?_
    refine z_goto 18 C dL_playedAtMost_9 (by decide) ?_
    refine z_iconst 0 (by decide) C dL_playedAtMost_18 ?_
    refine z_ireturn C F9 (Nat.le_of_ble_eq_true rfl) (Nat.le_of_ble_eq_true rfl) dL_playedAtMost_19 ?_
    exact Or.inl ⟨z, S1, hp, rfl, rfl, hof hFk⟩
  · obtain ⟨S1, hp, rfl, hof⟩ := h5
    rcases he _ _ hp with rfl | rfl
    · refine z_catch 0 (q := (0, 9, 12, 13)) C N Nc rfl (by decide) (fun z hz => nomatch hz) ⟨by decide, by decide⟩ (by decide) (List.mem_cons_of_mem _ wq0) (fun r => ?_)
      refine z_astore_n [_, _, _, _] C (by decide) rfl dL_playedAtMost_12 ?_
      refine z_iconst 1 (by decide) C dL_playedAtMost_13 ?_
      refine z_ireturn C F9 (Nat.le_of_ble_eq_true rfl) (Nat.le_of_ble_eq_true rfl) dL_playedAtMost_14 ?_
      exact Or.inr ⟨_, S1, 1, hp, List.mem_cons_self, rfl, rfl, hof hFk⟩
    · refine z_catch 1 (q := (0, 9, 15, 15)) C N Nc rfl (by decide) (fun z hz => by obtain rfl := List.mem_singleton.mp hz; exact ⟨by decide, "java/lang/IllegalArgumentException", List.mem_cons_of_mem _ wq0, by decide, by decide⟩) ⟨by decide, by decide⟩ (by decide) (List.mem_cons_of_mem _ wq1) (fun r => ?_)
      refine z_astore_n [_, _, _, _] C (by decide) rfl dL_playedAtMost_15 ?_
      refine z_iconst 2 (by decide) C dL_playedAtMost_16 ?_
      refine z_ireturn C F9 (Nat.le_of_ble_eq_true rfl) (Nat.le_of_ble_eq_true rfl) dL_playedAtMost_17 ?_
      exact Or.inr ⟨_, S1, 2, hp, List.mem_cons_of_mem _ (List.mem_cons_self), rfl, rfl, hof hFk⟩
set_option maxRecDepth 100000 in
theorem W_asLongAs {l : Launch} (hl0 : l.stackTraces = false) {P : zP} {S : ZM} {F : Nat → Bool} {x o : Nat} (p0 : Int32) (hF : F o = true) (ho : mK S o = 13) (hn : mN S o = 1) (hx : mK S x = 6) (hFk : ∀ b : Nat, F b = true → zkn (mK S b) = true) (hc : zMet l yX4_asLongAs (Cond.code yX4_asLongAs cX4_asLongAs 2 (some .int) :: LWc) ({ frames := 7, cells := 3, slots := 19, locals := 111 } : Room) 3 19 [zr (some x), zi p0] (rsOff F S) P) (hv : ∀ (v : Option ZV) (S1 : ZM), P (.inl v) S1 → ∃ z : Int32, v = some (zi z)) (he : ∀ (E : String) (S1 : ZM), P (.inr E) S1 → E = "java/lang/IllegalArgumentException" ∨ E = "java/lang/IllegalStateException") : zMetN l yL_asLongAs (Cond.codeWith yL_asLongAs cL_asLongAs 4 (some .int) [(0, 9, 12, 13), (0, 9, 15, 15)] :: LWl) ({ frames := 8, cells := 3, slots := 19, locals := 132 } : Room) 3 19 [zr (some x), zi p0, zr (some o)] S (WQ zi (ptI o) P [("java/lang/IllegalArgumentException", 1), ("java/lang/IllegalStateException", 2)] F S) := by
  refine zMetN.ofH [some (zr (some x)), some (zi p0), some (zr (some o)), none] hl0 (by decide) rfl (Nat.le_of_ble_eq_true rfl) rfl ?_
  intro X C N Nc hR hX F9
  subst hX
  refine z_aload_n C rfl dL_asLongAs_0 ?_
  refine z_iconst 0 (by decide) C dL_asLongAs_1 ?_
  refine z_aload_n C rfl dL_asLongAs_2 ?_
  refine z_iload_n C rfl dL_asLongAs_3 ?_
  refine z_callC 1 [zi p0] C rfl (hc.off F) rfl (zgoodV2 LWl_good (fun w h => ul_c h) wq60 wq61 wq62 (ul_c wc58) wq63) rfl rfl rfl (by decide +kernel) rfl (by rw [hR]; exact ⟨Nat.le_of_ble_eq_true rfl, Nat.le_of_ble_eq_true rfl⟩) hx (by rw [hR]; exact ⟨Nat.le_of_ble_eq_true rfl, Nat.le_of_ble_eq_true rfl⟩) (Nat.le_of_ble_eq_true rfl) dL_asLongAs_4 (fun v5 S5 h5 => ?_) (fun E5 S5 h5 => ?_)
  · obtain ⟨S1, hp, rfl, hof⟩ := h5
    obtain ⟨z, rfl⟩ := hv _ _ hp
    have hk9 : mK (mrg F S S1) o = 13 := (mrg_in hF).1.trans ho
    have hn9 : mN (mrg F S S1) o = 1 := (mrg_in hF).2.1.trans hn
    refine z_i2l C dL_asLongAs_7 ?_
    refine z_lastore C hk9 (by rw [hn9]; exact vp01) dL_asLongAs_8 ?_
    refine z_goto 18 C dL_asLongAs_9 (by decide) ?_
    refine z_iconst 0 (by decide) C dL_asLongAs_18 ?_
    refine z_ireturn C F9 (Nat.le_of_ble_eq_true rfl) (Nat.le_of_ble_eq_true rfl) dL_asLongAs_19 ?_
    exact Or.inl ⟨z, S1, hp, rfl, rfl, hof hFk⟩
  · obtain ⟨S1, hp, rfl, hof⟩ := h5
    rcases he _ _ hp with rfl | rfl
    · refine z_catch 0 (q := (0, 9, 12, 13)) C N Nc rfl (by decide) (fun z hz => nomatch hz) ⟨by decide, by decide⟩ (by decide) (List.mem_cons_of_mem _ wq0) (fun r => ?_)
      refine z_astore_n [_, _, _, _] C (by decide) rfl dL_asLongAs_12 ?_
      refine z_iconst 1 (by decide) C dL_asLongAs_13 ?_
      refine z_ireturn C F9 (Nat.le_of_ble_eq_true rfl) (Nat.le_of_ble_eq_true rfl) dL_asLongAs_14 ?_
      exact Or.inr ⟨_, S1, 1, hp, List.mem_cons_self, rfl, rfl, hof hFk⟩
    · refine z_catch 1 (q := (0, 9, 15, 15)) C N Nc rfl (by decide) (fun z hz => by obtain rfl := List.mem_singleton.mp hz; exact ⟨by decide, "java/lang/IllegalArgumentException", List.mem_cons_of_mem _ wq0, by decide, by decide⟩) ⟨by decide, by decide⟩ (by decide) (List.mem_cons_of_mem _ wq1) (fun r => ?_)
      refine z_astore_n [_, _, _, _] C (by decide) rfl dL_asLongAs_15 ?_
      refine z_iconst 2 (by decide) C dL_asLongAs_16 ?_
      refine z_ireturn C F9 (Nat.le_of_ble_eq_true rfl) (Nat.le_of_ble_eq_true rfl) dL_asLongAs_17 ?_
      exact Or.inr ⟨_, S1, 2, hp, List.mem_cons_of_mem _ (List.mem_cons_self), rfl, rfl, hof hFk⟩
set_option maxRecDepth 100000 in
theorem W_playedWithin {l : Launch} (hl0 : l.stackTraces = false) {P : zP} {S : ZM} {F : Nat → Bool} {x o : Nat} (p0 : Int32) (hF : F o = true) (ho : mK S o = 13) (hn : mN S o = 1) (hx : mK S x = 6) (hFk : ∀ b : Nat, F b = true → zkn (mK S b) = true) (hc : zMet l yX4_playedWithin (Cond.code yX4_playedWithin cX4_playedWithin 2 (some .int) :: LWc) ({ frames := 7, cells := 3, slots := 19, locals := 111 } : Room) 3 19 [zr (some x), zi p0] (rsOff F S) P) (hv : ∀ (v : Option ZV) (S1 : ZM), P (.inl v) S1 → ∃ z : Int32, v = some (zi z)) (he : ∀ (E : String) (S1 : ZM), P (.inr E) S1 → E = "java/lang/IllegalArgumentException" ∨ E = "java/lang/IllegalStateException") : zMetN l yL_playedWithin (Cond.codeWith yL_playedWithin cL_playedWithin 4 (some .int) [(0, 9, 12, 13), (0, 9, 15, 15)] :: LWl) ({ frames := 8, cells := 3, slots := 19, locals := 132 } : Room) 3 19 [zr (some x), zi p0, zr (some o)] S (WQ zi (ptI o) P [("java/lang/IllegalArgumentException", 1), ("java/lang/IllegalStateException", 2)] F S) := by
  refine zMetN.ofH [some (zr (some x)), some (zi p0), some (zr (some o)), none] hl0 (by decide) rfl (Nat.le_of_ble_eq_true rfl) rfl ?_
  intro X C N Nc hR hX F9
  subst hX
  refine z_aload_n C rfl dL_playedWithin_0 ?_
  refine z_iconst 0 (by decide) C dL_playedWithin_1 ?_
  refine z_aload_n C rfl dL_playedWithin_2 ?_
  refine z_iload_n C rfl dL_playedWithin_3 ?_
  refine z_callC 1 [zi p0] C rfl (hc.off F) rfl (zgoodV2 LWl_good (fun w h => ul_c h) wq64 wq65 wq66 (ul_c wc58) wq67) rfl rfl rfl (by decide +kernel) rfl (by rw [hR]; exact ⟨Nat.le_of_ble_eq_true rfl, Nat.le_of_ble_eq_true rfl⟩) hx (by rw [hR]; exact ⟨Nat.le_of_ble_eq_true rfl, Nat.le_of_ble_eq_true rfl⟩) (Nat.le_of_ble_eq_true rfl) dL_playedWithin_4 (fun v5 S5 h5 => ?_) (fun E5 S5 h5 => ?_)
  · obtain ⟨S1, hp, rfl, hof⟩ := h5
    obtain ⟨z, rfl⟩ := hv _ _ hp
    have hk9 : mK (mrg F S S1) o = 13 := (mrg_in hF).1.trans ho
    have hn9 : mN (mrg F S S1) o = 1 := (mrg_in hF).2.1.trans hn
    refine z_i2l C dL_playedWithin_7 ?_
    refine z_lastore C hk9 (by rw [hn9]; exact vp01) dL_playedWithin_8 ?_
    refine z_goto 18 C dL_playedWithin_9 (by decide) ?_
    refine z_iconst 0 (by decide) C dL_playedWithin_18 ?_
    refine z_ireturn C F9 (Nat.le_of_ble_eq_true rfl) (Nat.le_of_ble_eq_true rfl) dL_playedWithin_19 ?_
    exact Or.inl ⟨z, S1, hp, rfl, rfl, hof hFk⟩
  · obtain ⟨S1, hp, rfl, hof⟩ := h5
    rcases he _ _ hp with rfl | rfl
    · refine z_catch 0 (q := (0, 9, 12, 13)) C N Nc rfl (by decide) (fun z hz => nomatch hz) ⟨by decide, by decide⟩ (by decide) (List.mem_cons_of_mem _ wq0) (fun r => ?_)
      refine z_astore_n [_, _, _, _] C (by decide) rfl dL_playedWithin_12 ?_
      refine z_iconst 1 (by decide) C dL_playedWithin_13 ?_
      refine z_ireturn C F9 (Nat.le_of_ble_eq_true rfl) (Nat.le_of_ble_eq_true rfl) dL_playedWithin_14 ?_
      exact Or.inr ⟨_, S1, 1, hp, List.mem_cons_self, rfl, rfl, hof hFk⟩
    · refine z_catch 1 (q := (0, 9, 15, 15)) C N Nc rfl (by decide) (fun z hz => by obtain rfl := List.mem_singleton.mp hz; exact ⟨by decide, "java/lang/IllegalArgumentException", List.mem_cons_of_mem _ wq0, by decide, by decide⟩) ⟨by decide, by decide⟩ (by decide) (List.mem_cons_of_mem _ wq1) (fun r => ?_)
      refine z_astore_n [_, _, _, _] C (by decide) rfl dL_playedWithin_15 ?_
      refine z_iconst 2 (by decide) C dL_playedWithin_16 ?_
      refine z_ireturn C F9 (Nat.le_of_ble_eq_true rfl) (Nat.le_of_ble_eq_true rfl) dL_playedWithin_17 ?_
      exact Or.inr ⟨_, S1, 2, hp, List.mem_cons_of_mem _ (List.mem_cons_self), rfl, rfl, hof hFk⟩
set_option maxRecDepth 100000 in
theorem W_inList {l : Launch} (hl0 : l.stackTraces = false) {P : zP} {S : ZM} {F : Nat → Bool} {x o : Nat} (p0 : Int32) (hF : F o = true) (ho : mK S o = 13) (hn : mN S o = 1) (hx : mK S x = 6) (hFk : ∀ b : Nat, F b = true → zkn (mK S b) = true) (hc : zMet l yX4_inList (Cond.code yX4_inList cX4_inList 2 (some .int) :: LWc) ({ frames := 7, cells := 3, slots := 19, locals := 111 } : Room) 3 19 [zr (some x), zi p0] (rsOff F S) P) (hv : ∀ (v : Option ZV) (S1 : ZM), P (.inl v) S1 → ∃ z : Int32, v = some (zi z)) (he : ∀ (E : String) (S1 : ZM), P (.inr E) S1 → E = "java/util/NoSuchElementException" ∨ E = "java/lang/IllegalStateException") : zMetN l yL_inList (Cond.codeWith yL_inList cL_inList 4 (some .int) [(0, 9, 12, 21), (0, 9, 15, 15)] :: LWl) ({ frames := 8, cells := 3, slots := 19, locals := 132 } : Room) 3 19 [zr (some x), zi p0, zr (some o)] S (WQ zi (ptI o) P [("java/util/NoSuchElementException", 1), ("java/lang/IllegalStateException", 2)] F S) := by
  refine zMetN.ofH [some (zr (some x)), some (zi p0), some (zr (some o)), none] hl0 (by decide) rfl (Nat.le_of_ble_eq_true rfl) rfl ?_
  intro X C N Nc hR hX F9
  subst hX
  refine z_aload_n C rfl dL_inList_0 ?_
  refine z_iconst 0 (by decide) C dL_inList_1 ?_
  refine z_aload_n C rfl dL_inList_2 ?_
  refine z_iload_n C rfl dL_inList_3 ?_
  refine z_callC 1 [zi p0] C rfl (hc.off F) rfl (zgoodV2 LWl_good (fun w h => ul_c h) wq68 wq69 wq70 (ul_c wc58) wq71) rfl rfl rfl (by decide +kernel) rfl (by rw [hR]; exact ⟨Nat.le_of_ble_eq_true rfl, Nat.le_of_ble_eq_true rfl⟩) hx (by rw [hR]; exact ⟨Nat.le_of_ble_eq_true rfl, Nat.le_of_ble_eq_true rfl⟩) (Nat.le_of_ble_eq_true rfl) dL_inList_4 (fun v5 S5 h5 => ?_) (fun E5 S5 h5 => ?_)
  · obtain ⟨S1, hp, rfl, hof⟩ := h5
    obtain ⟨z, rfl⟩ := hv _ _ hp
    have hk9 : mK (mrg F S S1) o = 13 := (mrg_in hF).1.trans ho
    have hn9 : mN (mrg F S S1) o = 1 := (mrg_in hF).2.1.trans hn
    refine z_i2l C dL_inList_7 ?_
    refine z_lastore C hk9 (by rw [hn9]; exact vp01) dL_inList_8 ?_
    refine z_goto 18 C dL_inList_9 (by decide) ?_
    refine z_iconst 0 (by decide) C dL_inList_18 ?_
    refine z_ireturn C F9 (Nat.le_of_ble_eq_true rfl) (Nat.le_of_ble_eq_true rfl) dL_inList_19 ?_
    exact Or.inl ⟨z, S1, hp, rfl, rfl, hof hFk⟩
  · obtain ⟨S1, hp, rfl, hof⟩ := h5
    rcases he _ _ hp with rfl | rfl
    · refine z_catch 0 (q := (0, 9, 12, 21)) C N Nc rfl (by decide) (fun z hz => nomatch hz) ⟨by decide, by decide⟩ (by decide) (List.mem_cons_of_mem _ wq6) (fun r => ?_)
      refine z_astore_n [_, _, _, _] C (by decide) rfl dL_inList_12 ?_
      refine z_iconst 1 (by decide) C dL_inList_13 ?_
      refine z_ireturn C F9 (Nat.le_of_ble_eq_true rfl) (Nat.le_of_ble_eq_true rfl) dL_inList_14 ?_
      exact Or.inr ⟨_, S1, 1, hp, List.mem_cons_self, rfl, rfl, hof hFk⟩
    · refine z_catch 1 (q := (0, 9, 15, 15)) C N Nc rfl (by decide) (fun z hz => by obtain rfl := List.mem_singleton.mp hz; exact ⟨by decide, "java/util/NoSuchElementException", List.mem_cons_of_mem _ wq6, by decide, by decide⟩) ⟨by decide, by decide⟩ (by decide) (List.mem_cons_of_mem _ wq1) (fun r => ?_)
      refine z_astore_n [_, _, _, _] C (by decide) rfl dL_inList_15 ?_
      refine z_iconst 2 (by decide) C dL_inList_16 ?_
      refine z_ireturn C F9 (Nat.le_of_ble_eq_true rfl) (Nat.le_of_ble_eq_true rfl) dL_inList_17 ?_
      exact Or.inr ⟨_, S1, 2, hp, List.mem_cons_of_mem _ (List.mem_cons_self), rfl, rfl, hof hFk⟩
set_option maxRecDepth 100000 in
theorem W_both {l : Launch} (hl0 : l.stackTraces = false) {P : zP} {S : ZM} {F : Nat → Bool} {x o : Nat} (p0 p1 : Int32) (hF : F o = true) (ho : mK S o = 13) (hn : mN S o = 1) (hx : mK S x = 6) (hFk : ∀ b : Nat, F b = true → zkn (mK S b) = true) (hc : zMet l yX4_both (Cond.code yX4_both cX4_both 3 (some .int) :: LWc) ({ frames := 7, cells := 4, slots := 25, locals := 111 } : Room) 4 25 [zr (some x), zi p0, zi p1] (rsOff F S) P) (hv : ∀ (v : Option ZV) (S1 : ZM), P (.inl v) S1 → ∃ z : Int32, v = some (zi z)) (he : ∀ (E : String) (S1 : ZM), P (.inr E) S1 → E = "java/util/NoSuchElementException" ∨ E = "java/lang/UnsupportedOperationException" ∨ E = "java/lang/IllegalStateException") : zMetN l yL_both (Cond.codeWith yL_both cL_both 5 (some .int) [(0, 10, 13, 21), (0, 10, 17, 49), (0, 10, 21, 15)] :: LWl) ({ frames := 8, cells := 4, slots := 25, locals := 133 } : Room) 4 25 [zr (some x), zi p0, zi p1, zr (some o)] S (WQ zi (ptI o) P [("java/util/NoSuchElementException", 1), ("java/lang/UnsupportedOperationException", 2), ("java/lang/IllegalStateException", 3)] F S) := by
  refine zMetN.ofH [some (zr (some x)), some (zi p0), some (zi p1), some (zr (some o)), none] hl0 (by decide) rfl (Nat.le_of_ble_eq_true rfl) rfl ?_
  intro X C N Nc hR hX F9
  subst hX
  refine z_aload_n C rfl dL_both_0 ?_
  refine z_iconst 0 (by decide) C dL_both_1 ?_
  refine z_aload_n C rfl dL_both_2 ?_
  refine z_iload_n C rfl dL_both_3 ?_
  refine z_iload_n C rfl dL_both_4 ?_
  refine z_callC 2 [zi p0, zi p1] C rfl (hc.off F) rfl (zgoodV2 LWl_good (fun w h => ul_c h) wq72 wq73 wq74 (ul_c wc58) wq75) rfl rfl rfl (by decide +kernel) rfl (by rw [hR]; exact ⟨Nat.le_of_ble_eq_true rfl, Nat.le_of_ble_eq_true rfl⟩) hx (by rw [hR]; exact ⟨Nat.le_of_ble_eq_true rfl, Nat.le_of_ble_eq_true rfl⟩) (Nat.le_of_ble_eq_true rfl) dL_both_5 (fun v5 S5 h5 => ?_) (fun E5 S5 h5 => ?_)
  · obtain ⟨S1, hp, rfl, hof⟩ := h5
    obtain ⟨z, rfl⟩ := hv _ _ hp
    have hk9 : mK (mrg F S S1) o = 13 := (mrg_in hF).1.trans ho
    have hn9 : mN (mrg F S S1) o = 1 := (mrg_in hF).2.1.trans hn
    refine z_i2l C dL_both_8 ?_
    refine z_lastore C hk9 (by rw [hn9]; exact vp01) dL_both_9 ?_
    refine z_goto 25 C dL_both_10 (by decide) ?_
    refine z_iconst 0 (by decide) C dL_both_25 ?_
    refine z_ireturn C F9 (Nat.le_of_ble_eq_true rfl) (Nat.le_of_ble_eq_true rfl) dL_both_26 ?_
    exact Or.inl ⟨z, S1, hp, rfl, rfl, hof hFk⟩
  · obtain ⟨S1, hp, rfl, hof⟩ := h5
    rcases he _ _ hp with rfl | rfl | rfl
    · refine z_catch 0 (q := (0, 10, 13, 21)) C N Nc rfl (by decide) (fun z hz => nomatch hz) ⟨by decide, by decide⟩ (by decide) (List.mem_cons_of_mem _ wq6) (fun r => ?_)
      refine z_astore [_, _, _, _, _] C (by decide) rfl dL_both_13 ?_
      refine z_iconst 1 (by decide) C dL_both_15 ?_
      refine z_ireturn C F9 (Nat.le_of_ble_eq_true rfl) (Nat.le_of_ble_eq_true rfl) dL_both_16 ?_
      exact Or.inr ⟨_, S1, 1, hp, List.mem_cons_self, rfl, rfl, hof hFk⟩
    · refine z_catch 1 (q := (0, 10, 17, 49)) C N Nc rfl (by decide) (fun z hz => by obtain rfl := List.mem_singleton.mp hz; exact ⟨by decide, "java/util/NoSuchElementException", List.mem_cons_of_mem _ wq6, by decide, by decide⟩) ⟨by decide, by decide⟩ (by decide) (List.mem_cons_of_mem _ wq39) (fun r => ?_)
      refine z_astore [_, _, _, _, _] C (by decide) rfl dL_both_17 ?_
      refine z_iconst 2 (by decide) C dL_both_19 ?_
      refine z_ireturn C F9 (Nat.le_of_ble_eq_true rfl) (Nat.le_of_ble_eq_true rfl) dL_both_20 ?_
      exact Or.inr ⟨_, S1, 2, hp, List.mem_cons_of_mem _ (List.mem_cons_self), rfl, rfl, hof hFk⟩
    · refine z_catch 2 (q := (0, 10, 21, 15)) C N Nc rfl (by decide) (fun z hz => (List.mem_cons.mp hz).elim (fun e => by subst e; exact ⟨by decide, "java/util/NoSuchElementException", List.mem_cons_of_mem _ wq6, by decide, by decide⟩) (fun hz => by obtain rfl := List.mem_singleton.mp hz; exact ⟨by decide, "java/lang/UnsupportedOperationException", List.mem_cons_of_mem _ wq39, by decide, by decide⟩)) ⟨by decide, by decide⟩ (by decide) (List.mem_cons_of_mem _ wq1) (fun r => ?_)
      refine z_astore [_, _, _, _, _] C (by decide) rfl dL_both_21 ?_
      refine z_iconst 3 (by decide) C dL_both_23 ?_
      refine z_ireturn C F9 (Nat.le_of_ble_eq_true rfl) (Nat.le_of_ble_eq_true rfl) dL_both_24 ?_
      exact Or.inr ⟨_, S1, 3, hp, List.mem_cons_of_mem _ (List.mem_cons_of_mem _ (List.mem_cons_self)), rfl, rfl, hof hFk⟩
set_option maxRecDepth 100000 in
theorem W_either {l : Launch} (hl0 : l.stackTraces = false) {P : zP} {S : ZM} {F : Nat → Bool} {x o : Nat} (p0 p1 : Int32) (hF : F o = true) (ho : mK S o = 13) (hn : mN S o = 1) (hx : mK S x = 6) (hFk : ∀ b : Nat, F b = true → zkn (mK S b) = true) (hc : zMet l yX4_either (Cond.code yX4_either cX4_either 3 (some .int) :: LWc) ({ frames := 7, cells := 4, slots := 25, locals := 111 } : Room) 4 25 [zr (some x), zi p0, zi p1] (rsOff F S) P) (hv : ∀ (v : Option ZV) (S1 : ZM), P (.inl v) S1 → ∃ z : Int32, v = some (zi z)) (he : ∀ (E : String) (S1 : ZM), P (.inr E) S1 → E = "java/util/NoSuchElementException" ∨ E = "java/lang/UnsupportedOperationException" ∨ E = "java/lang/IllegalStateException") : zMetN l yL_either (Cond.codeWith yL_either cL_either 5 (some .int) [(0, 10, 13, 21), (0, 10, 17, 49), (0, 10, 21, 15)] :: LWl) ({ frames := 8, cells := 4, slots := 25, locals := 133 } : Room) 4 25 [zr (some x), zi p0, zi p1, zr (some o)] S (WQ zi (ptI o) P [("java/util/NoSuchElementException", 1), ("java/lang/UnsupportedOperationException", 2), ("java/lang/IllegalStateException", 3)] F S) := by
  refine zMetN.ofH [some (zr (some x)), some (zi p0), some (zi p1), some (zr (some o)), none] hl0 (by decide) rfl (Nat.le_of_ble_eq_true rfl) rfl ?_
  intro X C N Nc hR hX F9
  subst hX
  refine z_aload_n C rfl dL_either_0 ?_
  refine z_iconst 0 (by decide) C dL_either_1 ?_
  refine z_aload_n C rfl dL_either_2 ?_
  refine z_iload_n C rfl dL_either_3 ?_
  refine z_iload_n C rfl dL_either_4 ?_
  refine z_callC 2 [zi p0, zi p1] C rfl (hc.off F) rfl (zgoodV2 LWl_good (fun w h => ul_c h) wq76 wq77 wq78 (ul_c wc58) wq79) rfl rfl rfl (by decide +kernel) rfl (by rw [hR]; exact ⟨Nat.le_of_ble_eq_true rfl, Nat.le_of_ble_eq_true rfl⟩) hx (by rw [hR]; exact ⟨Nat.le_of_ble_eq_true rfl, Nat.le_of_ble_eq_true rfl⟩) (Nat.le_of_ble_eq_true rfl) dL_either_5 (fun v5 S5 h5 => ?_) (fun E5 S5 h5 => ?_)
  · obtain ⟨S1, hp, rfl, hof⟩ := h5
    obtain ⟨z, rfl⟩ := hv _ _ hp
    have hk9 : mK (mrg F S S1) o = 13 := (mrg_in hF).1.trans ho
    have hn9 : mN (mrg F S S1) o = 1 := (mrg_in hF).2.1.trans hn
    refine z_i2l C dL_either_8 ?_
    refine z_lastore C hk9 (by rw [hn9]; exact vp01) dL_either_9 ?_
    refine z_goto 25 C dL_either_10 (by decide) ?_
    refine z_iconst 0 (by decide) C dL_either_25 ?_
    refine z_ireturn C F9 (Nat.le_of_ble_eq_true rfl) (Nat.le_of_ble_eq_true rfl) dL_either_26 ?_
    exact Or.inl ⟨z, S1, hp, rfl, rfl, hof hFk⟩
  · obtain ⟨S1, hp, rfl, hof⟩ := h5
    rcases he _ _ hp with rfl | rfl | rfl
    · refine z_catch 0 (q := (0, 10, 13, 21)) C N Nc rfl (by decide) (fun z hz => nomatch hz) ⟨by decide, by decide⟩ (by decide) (List.mem_cons_of_mem _ wq6) (fun r => ?_)
      refine z_astore [_, _, _, _, _] C (by decide) rfl dL_either_13 ?_
      refine z_iconst 1 (by decide) C dL_either_15 ?_
      refine z_ireturn C F9 (Nat.le_of_ble_eq_true rfl) (Nat.le_of_ble_eq_true rfl) dL_either_16 ?_
      exact Or.inr ⟨_, S1, 1, hp, List.mem_cons_self, rfl, rfl, hof hFk⟩
    · refine z_catch 1 (q := (0, 10, 17, 49)) C N Nc rfl (by decide) (fun z hz => by obtain rfl := List.mem_singleton.mp hz; exact ⟨by decide, "java/util/NoSuchElementException", List.mem_cons_of_mem _ wq6, by decide, by decide⟩) ⟨by decide, by decide⟩ (by decide) (List.mem_cons_of_mem _ wq39) (fun r => ?_)
      refine z_astore [_, _, _, _, _] C (by decide) rfl dL_either_17 ?_
      refine z_iconst 2 (by decide) C dL_either_19 ?_
      refine z_ireturn C F9 (Nat.le_of_ble_eq_true rfl) (Nat.le_of_ble_eq_true rfl) dL_either_20 ?_
      exact Or.inr ⟨_, S1, 2, hp, List.mem_cons_of_mem _ (List.mem_cons_self), rfl, rfl, hof hFk⟩
    · refine z_catch 2 (q := (0, 10, 21, 15)) C N Nc rfl (by decide) (fun z hz => (List.mem_cons.mp hz).elim (fun e => by subst e; exact ⟨by decide, "java/util/NoSuchElementException", List.mem_cons_of_mem _ wq6, by decide, by decide⟩) (fun hz => by obtain rfl := List.mem_singleton.mp hz; exact ⟨by decide, "java/lang/UnsupportedOperationException", List.mem_cons_of_mem _ wq39, by decide, by decide⟩)) ⟨by decide, by decide⟩ (by decide) (List.mem_cons_of_mem _ wq1) (fun r => ?_)
      refine z_astore [_, _, _, _, _] C (by decide) rfl dL_either_21 ?_
      refine z_iconst 3 (by decide) C dL_either_23 ?_
      refine z_ireturn C F9 (Nat.le_of_ble_eq_true rfl) (Nat.le_of_ble_eq_true rfl) dL_either_24 ?_
      exact Or.inr ⟨_, S1, 3, hp, List.mem_cons_of_mem _ (List.mem_cons_of_mem _ (List.mem_cons_self)), rfl, rfl, hof hFk⟩
set_option maxRecDepth 100000 in
theorem W_not {l : Launch} (hl0 : l.stackTraces = false) {P : zP} {S : ZM} {F : Nat → Bool} {x o : Nat} (p0 : Int32) (hF : F o = true) (ho : mK S o = 13) (hn : mN S o = 1) (hx : mK S x = 6) (hFk : ∀ b : Nat, F b = true → zkn (mK S b) = true) (hc : zMet l yX4_not (Cond.code yX4_not cX4_not 2 (some .int) :: LWc) ({ frames := 7, cells := 3, slots := 19, locals := 111 } : Room) 3 19 [zr (some x), zi p0] (rsOff F S) P) (hv : ∀ (v : Option ZV) (S1 : ZM), P (.inl v) S1 → ∃ z : Int32, v = some (zi z)) (he : ∀ (E : String) (S1 : ZM), P (.inr E) S1 → E = "java/util/NoSuchElementException" ∨ E = "java/lang/UnsupportedOperationException" ∨ E = "java/lang/IllegalStateException") : zMetN l yL_not (Cond.codeWith yL_not cL_not 4 (some .int) [(0, 9, 12, 21), (0, 9, 15, 49), (0, 9, 18, 15)] :: LWl) ({ frames := 8, cells := 3, slots := 19, locals := 132 } : Room) 3 19 [zr (some x), zi p0, zr (some o)] S (WQ zi (ptI o) P [("java/util/NoSuchElementException", 1), ("java/lang/UnsupportedOperationException", 2), ("java/lang/IllegalStateException", 3)] F S) := by
  refine zMetN.ofH [some (zr (some x)), some (zi p0), some (zr (some o)), none] hl0 (by decide) rfl (Nat.le_of_ble_eq_true rfl) rfl ?_
  intro X C N Nc hR hX F9
  subst hX
  refine z_aload_n C rfl dL_not_0 ?_
  refine z_iconst 0 (by decide) C dL_not_1 ?_
  refine z_aload_n C rfl dL_not_2 ?_
  refine z_iload_n C rfl dL_not_3 ?_
  refine z_callC 1 [zi p0] C rfl (hc.off F) rfl (zgoodV2 LWl_good (fun w h => ul_c h) wq80 wq81 wq82 (ul_c wc58) wq83) rfl rfl rfl (by decide +kernel) rfl (by rw [hR]; exact ⟨Nat.le_of_ble_eq_true rfl, Nat.le_of_ble_eq_true rfl⟩) hx (by rw [hR]; exact ⟨Nat.le_of_ble_eq_true rfl, Nat.le_of_ble_eq_true rfl⟩) (Nat.le_of_ble_eq_true rfl) dL_not_4 (fun v5 S5 h5 => ?_) (fun E5 S5 h5 => ?_)
  · obtain ⟨S1, hp, rfl, hof⟩ := h5
    obtain ⟨z, rfl⟩ := hv _ _ hp
    have hk9 : mK (mrg F S S1) o = 13 := (mrg_in hF).1.trans ho
    have hn9 : mN (mrg F S S1) o = 1 := (mrg_in hF).2.1.trans hn
    refine z_i2l C dL_not_7 ?_
    refine z_lastore C hk9 (by rw [hn9]; exact vp01) dL_not_8 ?_
    refine z_goto 21 C dL_not_9 (by decide) ?_
    refine z_iconst 0 (by decide) C dL_not_21 ?_
    refine z_ireturn C F9 (Nat.le_of_ble_eq_true rfl) (Nat.le_of_ble_eq_true rfl) dL_not_22 ?_
    exact Or.inl ⟨z, S1, hp, rfl, rfl, hof hFk⟩
  · obtain ⟨S1, hp, rfl, hof⟩ := h5
    rcases he _ _ hp with rfl | rfl | rfl
    · refine z_catch 0 (q := (0, 9, 12, 21)) C N Nc rfl (by decide) (fun z hz => nomatch hz) ⟨by decide, by decide⟩ (by decide) (List.mem_cons_of_mem _ wq6) (fun r => ?_)
      refine z_astore_n [_, _, _, _] C (by decide) rfl dL_not_12 ?_
      refine z_iconst 1 (by decide) C dL_not_13 ?_
      refine z_ireturn C F9 (Nat.le_of_ble_eq_true rfl) (Nat.le_of_ble_eq_true rfl) dL_not_14 ?_
      exact Or.inr ⟨_, S1, 1, hp, List.mem_cons_self, rfl, rfl, hof hFk⟩
    · refine z_catch 1 (q := (0, 9, 15, 49)) C N Nc rfl (by decide) (fun z hz => by obtain rfl := List.mem_singleton.mp hz; exact ⟨by decide, "java/util/NoSuchElementException", List.mem_cons_of_mem _ wq6, by decide, by decide⟩) ⟨by decide, by decide⟩ (by decide) (List.mem_cons_of_mem _ wq39) (fun r => ?_)
      refine z_astore_n [_, _, _, _] C (by decide) rfl dL_not_15 ?_
      refine z_iconst 2 (by decide) C dL_not_16 ?_
      refine z_ireturn C F9 (Nat.le_of_ble_eq_true rfl) (Nat.le_of_ble_eq_true rfl) dL_not_17 ?_
      exact Or.inr ⟨_, S1, 2, hp, List.mem_cons_of_mem _ (List.mem_cons_self), rfl, rfl, hof hFk⟩
    · refine z_catch 2 (q := (0, 9, 18, 15)) C N Nc rfl (by decide) (fun z hz => (List.mem_cons.mp hz).elim (fun e => by subst e; exact ⟨by decide, "java/util/NoSuchElementException", List.mem_cons_of_mem _ wq6, by decide, by decide⟩) (fun hz => by obtain rfl := List.mem_singleton.mp hz; exact ⟨by decide, "java/lang/UnsupportedOperationException", List.mem_cons_of_mem _ wq39, by decide, by decide⟩)) ⟨by decide, by decide⟩ (by decide) (List.mem_cons_of_mem _ wq1) (fun r => ?_)
      refine z_astore_n [_, _, _, _] C (by decide) rfl dL_not_18 ?_
      refine z_iconst 3 (by decide) C dL_not_19 ?_
      refine z_ireturn C F9 (Nat.le_of_ble_eq_true rfl) (Nat.le_of_ble_eq_true rfl) dL_not_20 ?_
      exact Or.inr ⟨_, S1, 3, hp, List.mem_cons_of_mem _ (List.mem_cons_of_mem _ (List.mem_cons_self)), rfl, rfl, hof hFk⟩
set_option maxRecDepth 100000 in
theorem W_addList {l : Launch} (hl0 : l.stackTraces = false) {P : zP} {S : ZM} {F : Nat → Bool} {x o : Nat} (p0 p1 p2 : Int32) (hF : F o = true) (ho : mK S o = 13) (hn : mN S o = 1) (hx : mK S x = 6) (hFk : ∀ b : Nat, F b = true → zkn (mK S b) = true) (hc : zMet l yX4_addList (Cond.code yX4_addList cX4_addList 6 (some .int) :: LWc) ({ frames := 44, cells := 5, slots := 27, locals := 980 } : Room) 5 27 [zr (some x), zi p0, zi p1, zi p2] (rsOff F S) P) (hv : ∀ (v : Option ZV) (S1 : ZM), P (.inl v) S1 → ∃ z : Int32, v = some (zi z)) (he : ∀ (E : String) (S1 : ZM), P (.inr E) S1 → E = "java/util/NoSuchElementException" ∨ E = "java/lang/IllegalArgumentException" ∨ E = "java/lang/IllegalStateException") : zMetN l yL_addList (Cond.codeWith yL_addList cL_addList 6 (some .int) [(0, 12, 15, 21), (0, 12, 19, 13), (0, 12, 23, 15)] :: LWl) ({ frames := 45, cells := 5, slots := 27, locals := 1005 } : Room) 5 27 [zr (some x), zi p0, zi p1, zi p2, zr (some o)] S (WQ zi (ptI o) P [("java/util/NoSuchElementException", 1), ("java/lang/IllegalArgumentException", 2), ("java/lang/IllegalStateException", 3)] F S) := by
  refine zMetN.ofH [some (zr (some x)), some (zi p0), some (zi p1), some (zi p2), some (zr (some o)), none] hl0 (by decide) rfl (Nat.le_of_ble_eq_true rfl) rfl ?_
  intro X C N Nc hR hX F9
  subst hX
  refine z_aload C rfl dL_addList_0 ?_
  refine z_iconst 0 (by decide) C dL_addList_2 ?_
  refine z_aload_n C rfl dL_addList_3 ?_
  refine z_iload_n C rfl dL_addList_4 ?_
  refine z_iload_n C rfl dL_addList_5 ?_
  refine z_iload_n C rfl dL_addList_6 ?_
  refine z_callC 3 [zi p0, zi p1, zi p2] C rfl (hc.off F) rfl (zgoodV2 LWl_good (fun w h => ul_c h) wq84 wq85 wq86 (ul_c wc58) wq87) rfl rfl rfl (by decide +kernel) rfl (by rw [hR]; exact ⟨Nat.le_of_ble_eq_true rfl, Nat.le_of_ble_eq_true rfl⟩) hx (by rw [hR]; exact ⟨Nat.le_of_ble_eq_true rfl, Nat.le_of_ble_eq_true rfl⟩) (Nat.le_of_ble_eq_true rfl) dL_addList_7 (fun v5 S5 h5 => ?_) (fun E5 S5 h5 => ?_)
  · obtain ⟨S1, hp, rfl, hof⟩ := h5
    obtain ⟨z, rfl⟩ := hv _ _ hp
    have hk9 : mK (mrg F S S1) o = 13 := (mrg_in hF).1.trans ho
    have hn9 : mN (mrg F S S1) o = 1 := (mrg_in hF).2.1.trans hn
    refine z_i2l C dL_addList_10 ?_
    refine z_lastore C hk9 (by rw [hn9]; exact vp01) dL_addList_11 ?_
    refine z_goto 27 C dL_addList_12 (by decide) ?_
    refine z_iconst 0 (by decide) C dL_addList_27 ?_
    refine z_ireturn C F9 (Nat.le_of_ble_eq_true rfl) (Nat.le_of_ble_eq_true rfl) dL_addList_28 ?_
    exact Or.inl ⟨z, S1, hp, rfl, rfl, hof hFk⟩
  · obtain ⟨S1, hp, rfl, hof⟩ := h5
    rcases he _ _ hp with rfl | rfl | rfl
    · refine z_catch 0 (q := (0, 12, 15, 21)) C N Nc rfl (by decide) (fun z hz => nomatch hz) ⟨by decide, by decide⟩ (by decide) (List.mem_cons_of_mem _ wq6) (fun r => ?_)
      refine z_astore [_, _, _, _, _, _] C (by decide) rfl dL_addList_15 ?_
      refine z_iconst 1 (by decide) C dL_addList_17 ?_
      refine z_ireturn C F9 (Nat.le_of_ble_eq_true rfl) (Nat.le_of_ble_eq_true rfl) dL_addList_18 ?_
      exact Or.inr ⟨_, S1, 1, hp, List.mem_cons_self, rfl, rfl, hof hFk⟩
    · refine z_catch 1 (q := (0, 12, 19, 13)) C N Nc rfl (by decide) (fun z hz => by obtain rfl := List.mem_singleton.mp hz; exact ⟨by decide, "java/util/NoSuchElementException", List.mem_cons_of_mem _ wq6, by decide, by decide⟩) ⟨by decide, by decide⟩ (by decide) (List.mem_cons_of_mem _ wq0) (fun r => ?_)
      refine z_astore [_, _, _, _, _, _] C (by decide) rfl dL_addList_19 ?_
      refine z_iconst 2 (by decide) C dL_addList_21 ?_
      refine z_ireturn C F9 (Nat.le_of_ble_eq_true rfl) (Nat.le_of_ble_eq_true rfl) dL_addList_22 ?_
      exact Or.inr ⟨_, S1, 2, hp, List.mem_cons_of_mem _ (List.mem_cons_self), rfl, rfl, hof hFk⟩
    · refine z_catch 2 (q := (0, 12, 23, 15)) C N Nc rfl (by decide) (fun z hz => (List.mem_cons.mp hz).elim (fun e => by subst e; exact ⟨by decide, "java/util/NoSuchElementException", List.mem_cons_of_mem _ wq6, by decide, by decide⟩) (fun hz => by obtain rfl := List.mem_singleton.mp hz; exact ⟨by decide, "java/lang/IllegalArgumentException", List.mem_cons_of_mem _ wq0, by decide, by decide⟩)) ⟨by decide, by decide⟩ (by decide) (List.mem_cons_of_mem _ wq1) (fun r => ?_)
      refine z_astore [_, _, _, _, _, _] C (by decide) rfl dL_addList_23 ?_
      refine z_iconst 3 (by decide) C dL_addList_25 ?_
      refine z_ireturn C F9 (Nat.le_of_ble_eq_true rfl) (Nat.le_of_ble_eq_true rfl) dL_addList_26 ?_
      exact Or.inr ⟨_, S1, 3, hp, List.mem_cons_of_mem _ (List.mem_cons_of_mem _ (List.mem_cons_self)), rfl, rfl, hof hFk⟩
set_option maxRecDepth 100000 in
theorem W_setRule {l : Launch} (hl0 : l.stackTraces = false) {P : zP} {S : ZM} {F : Nat → Bool} {x o : Nat} (p0 p1 : Int32) (hF : F o = true) (ho : mK S o = 13) (hn : mN S o = 1) (hx : mK S x = 6) (hFk : ∀ b : Nat, F b = true → zkn (mK S b) = true) (hc : zMet l yX4_setRule (Cond.code yX4_setRule cX4_setRule 6 (some .int) :: LWc) ({ frames := 45, cells := 3, slots := 18, locals := 1001 } : Room) 3 18 [zr (some x), zi p0, zi p1] (rsOff F S) P) (hv : ∀ (v : Option ZV) (S1 : ZM), P (.inl v) S1 → ∃ z : Int32, v = some (zi z)) (he : ∀ (E : String) (S1 : ZM), P (.inr E) S1 → E = "java/util/NoSuchElementException" ∨ E = "java/lang/UnsupportedOperationException") : zMetN l yL_setRule (Cond.codeWith yL_setRule cL_setRule 5 (some .int) [(0, 10, 13, 21), (0, 10, 17, 49)] :: LWl) ({ frames := 46, cells := 3, slots := 18, locals := 1026 } : Room) 3 18 [zr (some x), zi p0, zi p1, zr (some o)] S (WQ zi (ptI o) P [("java/util/NoSuchElementException", 1), ("java/lang/UnsupportedOperationException", 2)] F S) := by
  refine zMetN.ofH [some (zr (some x)), some (zi p0), some (zi p1), some (zr (some o)), none] hl0 (by decide) rfl (Nat.le_of_ble_eq_true rfl) rfl ?_
  intro X C N Nc hR hX F9
  subst hX
  refine z_aload_n C rfl dL_setRule_0 ?_
  refine z_iconst 0 (by decide) C dL_setRule_1 ?_
  refine z_aload_n C rfl dL_setRule_2 ?_
  refine z_iload_n C rfl dL_setRule_3 ?_
  refine z_iload_n C rfl dL_setRule_4 ?_
  refine z_callC 2 [zi p0, zi p1] C rfl (hc.off F) rfl (zgoodV2 LWl_good (fun w h => ul_c h) wq88 wq89 wq90 (ul_c wc58) wq91) rfl rfl rfl (by decide +kernel) rfl (by rw [hR]; exact ⟨Nat.le_of_ble_eq_true rfl, Nat.le_of_ble_eq_true rfl⟩) hx (by rw [hR]; exact ⟨Nat.le_of_ble_eq_true rfl, Nat.le_of_ble_eq_true rfl⟩) (Nat.le_of_ble_eq_true rfl) dL_setRule_5 (fun v5 S5 h5 => ?_) (fun E5 S5 h5 => ?_)
  · obtain ⟨S1, hp, rfl, hof⟩ := h5
    obtain ⟨z, rfl⟩ := hv _ _ hp
    have hk9 : mK (mrg F S S1) o = 13 := (mrg_in hF).1.trans ho
    have hn9 : mN (mrg F S S1) o = 1 := (mrg_in hF).2.1.trans hn
    refine z_i2l C dL_setRule_8 ?_
    refine z_lastore C hk9 (by rw [hn9]; exact vp01) dL_setRule_9 ?_
    refine z_goto 21 C dL_setRule_10 (by decide) ?_
    refine z_iconst 0 (by decide) C dL_setRule_21 ?_
    refine z_ireturn C F9 (Nat.le_of_ble_eq_true rfl) (Nat.le_of_ble_eq_true rfl) dL_setRule_22 ?_
    exact Or.inl ⟨z, S1, hp, rfl, rfl, hof hFk⟩
  · obtain ⟨S1, hp, rfl, hof⟩ := h5
    rcases he _ _ hp with rfl | rfl
    · refine z_catch 0 (q := (0, 10, 13, 21)) C N Nc rfl (by decide) (fun z hz => nomatch hz) ⟨by decide, by decide⟩ (by decide) (List.mem_cons_of_mem _ wq6) (fun r => ?_)
      refine z_astore [_, _, _, _, _] C (by decide) rfl dL_setRule_13 ?_
      refine z_iconst 1 (by decide) C dL_setRule_15 ?_
      refine z_ireturn C F9 (Nat.le_of_ble_eq_true rfl) (Nat.le_of_ble_eq_true rfl) dL_setRule_16 ?_
      exact Or.inr ⟨_, S1, 1, hp, List.mem_cons_self, rfl, rfl, hof hFk⟩
    · refine z_catch 1 (q := (0, 10, 17, 49)) C N Nc rfl (by decide) (fun z hz => by obtain rfl := List.mem_singleton.mp hz; exact ⟨by decide, "java/util/NoSuchElementException", List.mem_cons_of_mem _ wq6, by decide, by decide⟩) ⟨by decide, by decide⟩ (by decide) (List.mem_cons_of_mem _ wq39) (fun r => ?_)
      refine z_astore [_, _, _, _, _] C (by decide) rfl dL_setRule_17 ?_
      refine z_iconst 2 (by decide) C dL_setRule_19 ?_
      refine z_ireturn C F9 (Nat.le_of_ble_eq_true rfl) (Nat.le_of_ble_eq_true rfl) dL_setRule_20 ?_
      exact Or.inr ⟨_, S1, 2, hp, List.mem_cons_of_mem _ (List.mem_cons_self), rfl, rfl, hof hFk⟩
set_option maxRecDepth 100000 in
theorem W_setOrder {l : Launch} (hl0 : l.stackTraces = false) {P : zP} {S : ZM} {F : Nat → Bool} {x o : Nat} (p0 p1 : Int32) (hF : F o = true) (ho : mK S o = 13) (hn : mN S o = 1) (hx : mK S x = 6) (hFk : ∀ b : Nat, F b = true → zkn (mK S b) = true) (hc : zMet l yX4_setOrder (Cond.code yX4_setOrder cX4_setOrder 5 (some .char) :: LWc) ({ frames := 45, cells := 2, slots := 12, locals := 1001 } : Room) 2 12 [zr (some x), zi p0, zi p1] (rsOff F S) P) (hv : ∀ (v : Option ZV) (S1 : ZM), P (.inl v) S1 → ∃ z : Int32, v = some (zi z)) (he : ∀ (E : String) (S1 : ZM), P (.inr E) S1 → E = "java/util/NoSuchElementException" ∨ E = "java/lang/IllegalArgumentException") : zMetN l yL_setOrder (Cond.codeWith yL_setOrder cL_setOrder 5 (some .int) [(0, 10, 13, 21), (0, 10, 17, 13)] :: LWl) ({ frames := 46, cells := 2, slots := 12, locals := 1025 } : Room) 2 12 [zr (some x), zi p0, zi p1, zr (some o)] S (WQ zi (ptI o) P [("java/util/NoSuchElementException", 1), ("java/lang/IllegalArgumentException", 2)] F S) := by
  refine zMetN.ofH [some (zr (some x)), some (zi p0), some (zi p1), some (zr (some o)), none] hl0 (by decide) rfl (Nat.le_of_ble_eq_true rfl) rfl ?_
  intro X C N Nc hR hX F9
  subst hX
  refine z_aload_n C rfl dL_setOrder_0 ?_
  refine z_iconst 0 (by decide) C dL_setOrder_1 ?_
  refine z_aload_n C rfl dL_setOrder_2 ?_
  refine z_iload_n C rfl dL_setOrder_3 ?_
  refine z_iload_n C rfl dL_setOrder_4 ?_
  refine z_callC 2 [zi p0, zi p1] C rfl (hc.off F) rfl (zgoodV2 LWl_good (fun w h => ul_c h) wq92 wq93 wq94 (ul_c wc58) wq95) rfl rfl rfl (by decide +kernel) rfl (by rw [hR]; exact ⟨Nat.le_of_ble_eq_true rfl, Nat.le_of_ble_eq_true rfl⟩) hx (by rw [hR]; exact ⟨Nat.le_of_ble_eq_true rfl, Nat.le_of_ble_eq_true rfl⟩) (Nat.le_of_ble_eq_true rfl) dL_setOrder_5 (fun v5 S5 h5 => ?_) (fun E5 S5 h5 => ?_)
  · obtain ⟨S1, hp, rfl, hof⟩ := h5
    obtain ⟨z, rfl⟩ := hv _ _ hp
    have hk9 : mK (mrg F S S1) o = 13 := (mrg_in hF).1.trans ho
    have hn9 : mN (mrg F S S1) o = 1 := (mrg_in hF).2.1.trans hn
    refine z_i2l C dL_setOrder_8 ?_
    refine z_lastore C hk9 (by rw [hn9]; exact vp01) dL_setOrder_9 ?_
    refine z_goto 21 C dL_setOrder_10 (by decide) ?_
    refine z_iconst 0 (by decide) C dL_setOrder_21 ?_
    refine z_ireturn C F9 (Nat.le_of_ble_eq_true rfl) (Nat.le_of_ble_eq_true rfl) dL_setOrder_22 ?_
    exact Or.inl ⟨z, S1, hp, rfl, rfl, hof hFk⟩
  · obtain ⟨S1, hp, rfl, hof⟩ := h5
    rcases he _ _ hp with rfl | rfl
    · refine z_catch 0 (q := (0, 10, 13, 21)) C N Nc rfl (by decide) (fun z hz => nomatch hz) ⟨by decide, by decide⟩ (by decide) (List.mem_cons_of_mem _ wq6) (fun r => ?_)
      refine z_astore [_, _, _, _, _] C (by decide) rfl dL_setOrder_13 ?_
      refine z_iconst 1 (by decide) C dL_setOrder_15 ?_
      refine z_ireturn C F9 (Nat.le_of_ble_eq_true rfl) (Nat.le_of_ble_eq_true rfl) dL_setOrder_16 ?_
      exact Or.inr ⟨_, S1, 1, hp, List.mem_cons_self, rfl, rfl, hof hFk⟩
    · refine z_catch 1 (q := (0, 10, 17, 13)) C N Nc rfl (by decide) (fun z hz => by obtain rfl := List.mem_singleton.mp hz; exact ⟨by decide, "java/util/NoSuchElementException", List.mem_cons_of_mem _ wq6, by decide, by decide⟩) ⟨by decide, by decide⟩ (by decide) (List.mem_cons_of_mem _ wq0) (fun r => ?_)
      refine z_astore [_, _, _, _, _] C (by decide) rfl dL_setOrder_17 ?_
      refine z_iconst 2 (by decide) C dL_setOrder_19 ?_
      refine z_ireturn C F9 (Nat.le_of_ble_eq_true rfl) (Nat.le_of_ble_eq_true rfl) dL_setOrder_20 ?_
      exact Or.inr ⟨_, S1, 2, hp, List.mem_cons_of_mem _ (List.mem_cons_self), rfl, rfl, hof hFk⟩
set_option maxRecDepth 100000 in
theorem W_setLimit {l : Launch} (hl0 : l.stackTraces = false) {P : zP} {S : ZM} {F : Nat → Bool} {x o : Nat} (p0 p1 : Int32) (hF : F o = true) (ho : mK S o = 13) (hn : mN S o = 1) (hx : mK S x = 6) (hFk : ∀ b : Nat, F b = true → zkn (mK S b) = true) (hc : zMet l yX4_setLimit (Cond.code yX4_setLimit cX4_setLimit 5 (some .int) :: LWc) ({ frames := 45, cells := 2, slots := 12, locals := 1001 } : Room) 2 12 [zr (some x), zi p0, zi p1] (rsOff F S) P) (hv : ∀ (v : Option ZV) (S1 : ZM), P (.inl v) S1 → ∃ z : Int32, v = some (zi z)) (he : ∀ (E : String) (S1 : ZM), P (.inr E) S1 → E = "java/util/NoSuchElementException" ∨ E = "java/lang/IllegalArgumentException") : zMetN l yL_setLimit (Cond.codeWith yL_setLimit cL_setLimit 5 (some .int) [(0, 10, 13, 21), (0, 10, 17, 13)] :: LWl) ({ frames := 46, cells := 2, slots := 12, locals := 1025 } : Room) 2 12 [zr (some x), zi p0, zi p1, zr (some o)] S (WQ zi (ptI o) P [("java/util/NoSuchElementException", 1), ("java/lang/IllegalArgumentException", 2)] F S) := by
  refine zMetN.ofH [some (zr (some x)), some (zi p0), some (zi p1), some (zr (some o)), none] hl0 (by decide) rfl (Nat.le_of_ble_eq_true rfl) rfl ?_
  intro X C N Nc hR hX F9
  subst hX
  refine z_aload_n C rfl dL_setLimit_0 ?_
  refine z_iconst 0 (by decide) C dL_setLimit_1 ?_
  refine z_aload_n C rfl dL_setLimit_2 ?_
  refine z_iload_n C rfl dL_setLimit_3 ?_
  refine z_iload_n C rfl dL_setLimit_4 ?_
  refine z_callC 2 [zi p0, zi p1] C rfl (hc.off F) rfl (zgoodV2 LWl_good (fun w h => ul_c h) wq96 wq97 wq98 (ul_c wc58) wq99) rfl rfl rfl (by decide +kernel) rfl (by rw [hR]; exact ⟨Nat.le_of_ble_eq_true rfl, Nat.le_of_ble_eq_true rfl⟩) hx (by rw [hR]; exact ⟨Nat.le_of_ble_eq_true rfl, Nat.le_of_ble_eq_true rfl⟩) (Nat.le_of_ble_eq_true rfl) dL_setLimit_5 (fun v5 S5 h5 => ?_) (fun E5 S5 h5 => ?_)
  · obtain ⟨S1, hp, rfl, hof⟩ := h5
    obtain ⟨z, rfl⟩ := hv _ _ hp
    have hk9 : mK (mrg F S S1) o = 13 := (mrg_in hF).1.trans ho
    have hn9 : mN (mrg F S S1) o = 1 := (mrg_in hF).2.1.trans hn
    refine z_i2l C dL_setLimit_8 ?_
    refine z_lastore C hk9 (by rw [hn9]; exact vp01) dL_setLimit_9 ?_
    refine z_goto 21 C dL_setLimit_10 (by decide) ?_
    refine z_iconst 0 (by decide) C dL_setLimit_21 ?_
    refine z_ireturn C F9 (Nat.le_of_ble_eq_true rfl) (Nat.le_of_ble_eq_true rfl) dL_setLimit_22 ?_
    exact Or.inl ⟨z, S1, hp, rfl, rfl, hof hFk⟩
  · obtain ⟨S1, hp, rfl, hof⟩ := h5
    rcases he _ _ hp with rfl | rfl
    · refine z_catch 0 (q := (0, 10, 13, 21)) C N Nc rfl (by decide) (fun z hz => nomatch hz) ⟨by decide, by decide⟩ (by decide) (List.mem_cons_of_mem _ wq6) (fun r => ?_)
      refine z_astore [_, _, _, _, _] C (by decide) rfl dL_setLimit_13 ?_
      refine z_iconst 1 (by decide) C dL_setLimit_15 ?_
      refine z_ireturn C F9 (Nat.le_of_ble_eq_true rfl) (Nat.le_of_ble_eq_true rfl) dL_setLimit_16 ?_
      exact Or.inr ⟨_, S1, 1, hp, List.mem_cons_self, rfl, rfl, hof hFk⟩
    · refine z_catch 1 (q := (0, 10, 17, 13)) C N Nc rfl (by decide) (fun z hz => by obtain rfl := List.mem_singleton.mp hz; exact ⟨by decide, "java/util/NoSuchElementException", List.mem_cons_of_mem _ wq6, by decide, by decide⟩) ⟨by decide, by decide⟩ (by decide) (List.mem_cons_of_mem _ wq0) (fun r => ?_)
      refine z_astore [_, _, _, _, _] C (by decide) rfl dL_setLimit_17 ?_
      refine z_iconst 2 (by decide) C dL_setLimit_19 ?_
      refine z_ireturn C F9 (Nat.le_of_ble_eq_true rfl) (Nat.le_of_ble_eq_true rfl) dL_setLimit_20 ?_
      exact Or.inr ⟨_, S1, 2, hp, List.mem_cons_of_mem _ (List.mem_cons_self), rfl, rfl, hof hFk⟩
set_option maxRecDepth 100000 in
theorem W_lengthOf {l : Launch} (hl0 : l.stackTraces = false) {P : zP} {S : ZM} {F : Nat → Bool} {x o : Nat} (p0 : Int32) (hF : F o = true) (ho : mK S o = 13) (hn : mN S o = 1) (hx : mK S x = 6) (hFk : ∀ b : Nat, F b = true → zkn (mK S b) = true) (hc : zMet l yX4_lengthOf (Cond.code yX4_lengthOf cX4_lengthOf 2 (some .int) :: LWc) ({ frames := 7, cells := 1, slots := 6, locals := 108 } : Room) 1 6 [zr (some x), zi p0] (rsOff F S) P) (hv : ∀ (v : Option ZV) (S1 : ZM), P (.inl v) S1 → ∃ z : Int32, v = some (zi z)) (he : ∀ (E : String) (S1 : ZM), P (.inr E) S1 → E = "java/util/NoSuchElementException") : zMetN l yL_lengthOf (Cond.codeWith yL_lengthOf cL_lengthOf 4 (some .int) [(0, 9, 12, 21)] :: LWl) ({ frames := 8, cells := 1, slots := 6, locals := 129 } : Room) 1 6 [zr (some x), zi p0, zr (some o)] S (WQ zi (ptI o) P [("java/util/NoSuchElementException", 1)] F S) := by
  refine zMetN.ofH [some (zr (some x)), some (zi p0), some (zr (some o)), none] hl0 (by decide) rfl (Nat.le_of_ble_eq_true rfl) rfl ?_
  intro X C N Nc hR hX F9
  subst hX
  refine z_aload_n C rfl dL_lengthOf_0 ?_
  refine z_iconst 0 (by decide) C dL_lengthOf_1 ?_
  refine z_aload_n C rfl dL_lengthOf_2 ?_
  refine z_iload_n C rfl dL_lengthOf_3 ?_
  refine z_callC 1 [zi p0] C rfl (hc.off F) rfl (zgoodV2 LWl_good (fun w h => ul_c h) wq100 wq101 wq102 (ul_c wc58) wq103) rfl rfl rfl (by decide +kernel) rfl (by rw [hR]; exact ⟨Nat.le_of_ble_eq_true rfl, Nat.le_of_ble_eq_true rfl⟩) hx (by rw [hR]; exact ⟨Nat.le_of_ble_eq_true rfl, Nat.le_of_ble_eq_true rfl⟩) (Nat.le_of_ble_eq_true rfl) dL_lengthOf_4 (fun v5 S5 h5 => ?_) (fun E5 S5 h5 => ?_)
  · obtain ⟨S1, hp, rfl, hof⟩ := h5
    obtain ⟨z, rfl⟩ := hv _ _ hp
    have hk9 : mK (mrg F S S1) o = 13 := (mrg_in hF).1.trans ho
    have hn9 : mN (mrg F S S1) o = 1 := (mrg_in hF).2.1.trans hn
    refine z_i2l C dL_lengthOf_7 ?_
    refine z_lastore C hk9 (by rw [hn9]; exact vp01) dL_lengthOf_8 ?_
    refine z_goto 15 C dL_lengthOf_9 (by decide) ?_
    refine z_iconst 0 (by decide) C dL_lengthOf_15 ?_
    refine z_ireturn C F9 (Nat.le_of_ble_eq_true rfl) (Nat.le_of_ble_eq_true rfl) dL_lengthOf_16 ?_
    exact Or.inl ⟨z, S1, hp, rfl, rfl, hof hFk⟩
  · obtain ⟨S1, hp, rfl, hof⟩ := h5
    obtain rfl := he _ _ hp
    refine z_catch 0 (q := (0, 9, 12, 21)) C N Nc rfl (by decide) (fun z hz => nomatch hz) ⟨by decide, by decide⟩ (by decide) (List.mem_cons_of_mem _ wq6) (fun r => ?_)
    refine z_astore_n [_, _, _, _] C (by decide) rfl dL_lengthOf_12 ?_
    refine z_iconst 1 (by decide) C dL_lengthOf_13 ?_
    refine z_ireturn C F9 (Nat.le_of_ble_eq_true rfl) (Nat.le_of_ble_eq_true rfl) dL_lengthOf_14 ?_
    exact Or.inr ⟨_, S1, 1, hp, List.mem_cons_self, rfl, rfl, hof hFk⟩
set_option maxRecDepth 100000 in
theorem W_ratingOf {l : Launch} (hl0 : l.stackTraces = false) {P : zP} {S : ZM} {F : Nat → Bool} {x o : Nat} (p0 : Int32) (hF : F o = true) (ho : mK S o = 13) (hn : mN S o = 1) (hx : mK S x = 6) (hFk : ∀ b : Nat, F b = true → zkn (mK S b) = true) (hc : zMet l yX4_ratingOf (Cond.code yX4_ratingOf cX4_ratingOf 2 (some .int) :: LWc) ({ frames := 7, cells := 1, slots := 6, locals := 108 } : Room) 1 6 [zr (some x), zi p0] (rsOff F S) P) (hv : ∀ (v : Option ZV) (S1 : ZM), P (.inl v) S1 → ∃ z : Int32, v = some (zi z)) (he : ∀ (E : String) (S1 : ZM), P (.inr E) S1 → E = "java/util/NoSuchElementException") : zMetN l yL_ratingOf (Cond.codeWith yL_ratingOf cL_ratingOf 4 (some .int) [(0, 9, 12, 21)] :: LWl) ({ frames := 8, cells := 1, slots := 6, locals := 129 } : Room) 1 6 [zr (some x), zi p0, zr (some o)] S (WQ zi (ptI o) P [("java/util/NoSuchElementException", 1)] F S) := by
  refine zMetN.ofH [some (zr (some x)), some (zi p0), some (zr (some o)), none] hl0 (by decide) rfl (Nat.le_of_ble_eq_true rfl) rfl ?_
  intro X C N Nc hR hX F9
  subst hX
  refine z_aload_n C rfl dL_ratingOf_0 ?_
  refine z_iconst 0 (by decide) C dL_ratingOf_1 ?_
  refine z_aload_n C rfl dL_ratingOf_2 ?_
  refine z_iload_n C rfl dL_ratingOf_3 ?_
  refine z_callC 1 [zi p0] C rfl (hc.off F) rfl (zgoodV2 LWl_good (fun w h => ul_c h) wq104 wq105 wq106 (ul_c wc58) wq107) rfl rfl rfl (by decide +kernel) rfl (by rw [hR]; exact ⟨Nat.le_of_ble_eq_true rfl, Nat.le_of_ble_eq_true rfl⟩) hx (by rw [hR]; exact ⟨Nat.le_of_ble_eq_true rfl, Nat.le_of_ble_eq_true rfl⟩) (Nat.le_of_ble_eq_true rfl) dL_ratingOf_4 (fun v5 S5 h5 => ?_) (fun E5 S5 h5 => ?_)
  · obtain ⟨S1, hp, rfl, hof⟩ := h5
    obtain ⟨z, rfl⟩ := hv _ _ hp
    have hk9 : mK (mrg F S S1) o = 13 := (mrg_in hF).1.trans ho
    have hn9 : mN (mrg F S S1) o = 1 := (mrg_in hF).2.1.trans hn
    refine z_i2l C dL_ratingOf_7 ?_
    refine z_lastore C hk9 (by rw [hn9]; exact vp01) dL_ratingOf_8 ?_
    refine z_goto 15 C dL_ratingOf_9 (by decide) ?_
    refine z_iconst 0 (by decide) C dL_ratingOf_15 ?_
    refine z_ireturn C F9 (Nat.le_of_ble_eq_true rfl) (Nat.le_of_ble_eq_true rfl) dL_ratingOf_16 ?_
    exact Or.inl ⟨z, S1, hp, rfl, rfl, hof hFk⟩
  · obtain ⟨S1, hp, rfl, hof⟩ := h5
    obtain rfl := he _ _ hp
    refine z_catch 0 (q := (0, 9, 12, 21)) C N Nc rfl (by decide) (fun z hz => nomatch hz) ⟨by decide, by decide⟩ (by decide) (List.mem_cons_of_mem _ wq6) (fun r => ?_)
    refine z_astore_n [_, _, _, _] C (by decide) rfl dL_ratingOf_12 ?_
    refine z_iconst 1 (by decide) C dL_ratingOf_13 ?_
    refine z_ireturn C F9 (Nat.le_of_ble_eq_true rfl) (Nat.le_of_ble_eq_true rfl) dL_ratingOf_14 ?_
    exact Or.inr ⟨_, S1, 1, hp, List.mem_cons_self, rfl, rfl, hof hFk⟩
set_option maxRecDepth 100000 in
theorem W_playsOf {l : Launch} (hl0 : l.stackTraces = false) {P : zP} {S : ZM} {F : Nat → Bool} {x o : Nat} (p0 : Int32) (hF : F o = true) (ho : mK S o = 13) (hn : mN S o = 1) (hx : mK S x = 6) (hFk : ∀ b : Nat, F b = true → zkn (mK S b) = true) (hc : zMet l yX4_playsOf (Cond.code yX4_playsOf cX4_playsOf 2 (some .int) :: LWc) ({ frames := 7, cells := 1, slots := 6, locals := 108 } : Room) 1 6 [zr (some x), zi p0] (rsOff F S) P) (hv : ∀ (v : Option ZV) (S1 : ZM), P (.inl v) S1 → ∃ z : Int32, v = some (zi z)) (he : ∀ (E : String) (S1 : ZM), P (.inr E) S1 → E = "java/util/NoSuchElementException") : zMetN l yL_playsOf (Cond.codeWith yL_playsOf cL_playsOf 4 (some .int) [(0, 9, 12, 21)] :: LWl) ({ frames := 8, cells := 1, slots := 6, locals := 129 } : Room) 1 6 [zr (some x), zi p0, zr (some o)] S (WQ zi (ptI o) P [("java/util/NoSuchElementException", 1)] F S) := by
  refine zMetN.ofH [some (zr (some x)), some (zi p0), some (zr (some o)), none] hl0 (by decide) rfl (Nat.le_of_ble_eq_true rfl) rfl ?_
  intro X C N Nc hR hX F9
  subst hX
  refine z_aload_n C rfl dL_playsOf_0 ?_
  refine z_iconst 0 (by decide) C dL_playsOf_1 ?_
  refine z_aload_n C rfl dL_playsOf_2 ?_
  refine z_iload_n C rfl dL_playsOf_3 ?_
  refine z_callC 1 [zi p0] C rfl (hc.off F) rfl (zgoodV2 LWl_good (fun w h => ul_c h) wq108 wq109 wq110 (ul_c wc58) wq111) rfl rfl rfl (by decide +kernel) rfl (by rw [hR]; exact ⟨Nat.le_of_ble_eq_true rfl, Nat.le_of_ble_eq_true rfl⟩) hx (by rw [hR]; exact ⟨Nat.le_of_ble_eq_true rfl, Nat.le_of_ble_eq_true rfl⟩) (Nat.le_of_ble_eq_true rfl) dL_playsOf_4 (fun v5 S5 h5 => ?_) (fun E5 S5 h5 => ?_)
  · obtain ⟨S1, hp, rfl, hof⟩ := h5
    obtain ⟨z, rfl⟩ := hv _ _ hp
    have hk9 : mK (mrg F S S1) o = 13 := (mrg_in hF).1.trans ho
    have hn9 : mN (mrg F S S1) o = 1 := (mrg_in hF).2.1.trans hn
    refine z_i2l C dL_playsOf_7 ?_
    refine z_lastore C hk9 (by rw [hn9]; exact vp01) dL_playsOf_8 ?_
    refine z_goto 15 C dL_playsOf_9 (by decide) ?_
    refine z_iconst 0 (by decide) C dL_playsOf_15 ?_
    refine z_ireturn C F9 (Nat.le_of_ble_eq_true rfl) (Nat.le_of_ble_eq_true rfl) dL_playsOf_16 ?_
    exact Or.inl ⟨z, S1, hp, rfl, rfl, hof hFk⟩
  · obtain ⟨S1, hp, rfl, hof⟩ := h5
    obtain rfl := he _ _ hp
    refine z_catch 0 (q := (0, 9, 12, 21)) C N Nc rfl (by decide) (fun z hz => nomatch hz) ⟨by decide, by decide⟩ (by decide) (List.mem_cons_of_mem _ wq6) (fun r => ?_)
    refine z_astore_n [_, _, _, _] C (by decide) rfl dL_playsOf_12 ?_
    refine z_iconst 1 (by decide) C dL_playsOf_13 ?_
    refine z_ireturn C F9 (Nat.le_of_ble_eq_true rfl) (Nat.le_of_ble_eq_true rfl) dL_playsOf_14 ?_
    exact Or.inr ⟨_, S1, 1, hp, List.mem_cons_self, rfl, rfl, hof hFk⟩
set_option maxRecDepth 100000 in
theorem W_playedLast {l : Launch} (hl0 : l.stackTraces = false) {P : zP} {S : ZM} {F : Nat → Bool} {x o : Nat} (p0 : Int32) (hF : F o = true) (ho : mK S o = 13) (hn : mN S o = 1) (hx : mK S x = 6) (hFk : ∀ b : Nat, F b = true → zkn (mK S b) = true) (hc : zMet l yX4_playedLast (Cond.code yX4_playedLast cX4_playedLast 3 (some .int) :: LWc) ({ frames := 7, cells := 2, slots := 12, locals := 108 } : Room) 2 12 [zr (some x), zi p0] (rsOff F S) P) (hv : ∀ (v : Option ZV) (S1 : ZM), P (.inl v) S1 → ∃ z : Int32, v = some (zi z)) (he : ∀ (E : String) (S1 : ZM), P (.inr E) S1 → E = "java/util/NoSuchElementException" ∨ E = "java/lang/IllegalStateException") : zMetN l yL_playedLast (Cond.codeWith yL_playedLast cL_playedLast 4 (some .int) [(0, 9, 12, 21), (0, 9, 15, 15)] :: LWl) ({ frames := 8, cells := 2, slots := 12, locals := 130 } : Room) 2 12 [zr (some x), zi p0, zr (some o)] S (WQ zi (ptI o) P [("java/util/NoSuchElementException", 1), ("java/lang/IllegalStateException", 2)] F S) := by
  refine zMetN.ofH [some (zr (some x)), some (zi p0), some (zr (some o)), none] hl0 (by decide) rfl (Nat.le_of_ble_eq_true rfl) rfl ?_
  intro X C N Nc hR hX F9
  subst hX
  refine z_aload_n C rfl dL_playedLast_0 ?_
  refine z_iconst 0 (by decide) C dL_playedLast_1 ?_
  refine z_aload_n C rfl dL_playedLast_2 ?_
  refine z_iload_n C rfl dL_playedLast_3 ?_
  refine z_callC 1 [zi p0] C rfl (hc.off F) rfl (zgoodV2 LWl_good (fun w h => ul_c h) wq112 wq113 wq114 (ul_c wc58) wq115) rfl rfl rfl (by decide +kernel) rfl (by rw [hR]; exact ⟨Nat.le_of_ble_eq_true rfl, Nat.le_of_ble_eq_true rfl⟩) hx (by rw [hR]; exact ⟨Nat.le_of_ble_eq_true rfl, Nat.le_of_ble_eq_true rfl⟩) (Nat.le_of_ble_eq_true rfl) dL_playedLast_4 (fun v5 S5 h5 => ?_) (fun E5 S5 h5 => ?_)
  · obtain ⟨S1, hp, rfl, hof⟩ := h5
    obtain ⟨z, rfl⟩ := hv _ _ hp
    have hk9 : mK (mrg F S S1) o = 13 := (mrg_in hF).1.trans ho
    have hn9 : mN (mrg F S S1) o = 1 := (mrg_in hF).2.1.trans hn
    refine z_i2l C dL_playedLast_7 ?_
    refine z_lastore C hk9 (by rw [hn9]; exact vp01) dL_playedLast_8 ?_
    refine z_goto 18 C dL_playedLast_9 (by decide) ?_
    refine z_iconst 0 (by decide) C dL_playedLast_18 ?_
    refine z_ireturn C F9 (Nat.le_of_ble_eq_true rfl) (Nat.le_of_ble_eq_true rfl) dL_playedLast_19 ?_
    exact Or.inl ⟨z, S1, hp, rfl, rfl, hof hFk⟩
  · obtain ⟨S1, hp, rfl, hof⟩ := h5
    rcases he _ _ hp with rfl | rfl
    · refine z_catch 0 (q := (0, 9, 12, 21)) C N Nc rfl (by decide) (fun z hz => nomatch hz) ⟨by decide, by decide⟩ (by decide) (List.mem_cons_of_mem _ wq6) (fun r => ?_)
      refine z_astore_n [_, _, _, _] C (by decide) rfl dL_playedLast_12 ?_
      refine z_iconst 1 (by decide) C dL_playedLast_13 ?_
      refine z_ireturn C F9 (Nat.le_of_ble_eq_true rfl) (Nat.le_of_ble_eq_true rfl) dL_playedLast_14 ?_
      exact Or.inr ⟨_, S1, 1, hp, List.mem_cons_self, rfl, rfl, hof hFk⟩
    · refine z_catch 1 (q := (0, 9, 15, 15)) C N Nc rfl (by decide) (fun z hz => by obtain rfl := List.mem_singleton.mp hz; exact ⟨by decide, "java/util/NoSuchElementException", List.mem_cons_of_mem _ wq6, by decide, by decide⟩) ⟨by decide, by decide⟩ (by decide) (List.mem_cons_of_mem _ wq1) (fun r => ?_)
      refine z_astore_n [_, _, _, _] C (by decide) rfl dL_playedLast_15 ?_
      refine z_iconst 2 (by decide) C dL_playedLast_16 ?_
      refine z_ireturn C F9 (Nat.le_of_ble_eq_true rfl) (Nat.le_of_ble_eq_true rfl) dL_playedLast_17 ?_
      exact Or.inr ⟨_, S1, 2, hp, List.mem_cons_of_mem _ (List.mem_cons_self), rfl, rfl, hof hFk⟩
set_option maxRecDepth 100000 in
theorem W_tagBits {l : Launch} (hl0 : l.stackTraces = false) {P : zP} {S : ZM} {F : Nat → Bool} {x o : Nat} (p0 : Int32) (hF : F o = true) (ho : mK S o = 13) (hn : mN S o = 1) (hx : mK S x = 6) (hFk : ∀ b : Nat, F b = true → zkn (mK S b) = true) (hc : zMet l yX4_tagBits (Cond.code yX4_tagBits cX4_tagBits 2 (some .int) :: LWc) ({ frames := 7, cells := 1, slots := 6, locals := 108 } : Room) 1 6 [zr (some x), zi p0] (rsOff F S) P) (hv : ∀ (v : Option ZV) (S1 : ZM), P (.inl v) S1 → ∃ z : Int32, v = some (zi z)) (he : ∀ (E : String) (S1 : ZM), P (.inr E) S1 → E = "java/util/NoSuchElementException") : zMetN l yL_tagBits (Cond.codeWith yL_tagBits cL_tagBits 4 (some .int) [(0, 9, 12, 21)] :: LWl) ({ frames := 8, cells := 1, slots := 6, locals := 129 } : Room) 1 6 [zr (some x), zi p0, zr (some o)] S (WQ zi (ptI o) P [("java/util/NoSuchElementException", 1)] F S) := by
  refine zMetN.ofH [some (zr (some x)), some (zi p0), some (zr (some o)), none] hl0 (by decide) rfl (Nat.le_of_ble_eq_true rfl) rfl ?_
  intro X C N Nc hR hX F9
  subst hX
  refine z_aload_n C rfl dL_tagBits_0 ?_
  refine z_iconst 0 (by decide) C dL_tagBits_1 ?_
  refine z_aload_n C rfl dL_tagBits_2 ?_
  refine z_iload_n C rfl dL_tagBits_3 ?_
  refine z_callC 1 [zi p0] C rfl (hc.off F) rfl (zgoodV2 LWl_good (fun w h => ul_c h) wq116 wq117 wq118 (ul_c wc58) wq119) rfl rfl rfl (by decide +kernel) rfl (by rw [hR]; exact ⟨Nat.le_of_ble_eq_true rfl, Nat.le_of_ble_eq_true rfl⟩) hx (by rw [hR]; exact ⟨Nat.le_of_ble_eq_true rfl, Nat.le_of_ble_eq_true rfl⟩) (Nat.le_of_ble_eq_true rfl) dL_tagBits_4 (fun v5 S5 h5 => ?_) (fun E5 S5 h5 => ?_)
  · obtain ⟨S1, hp, rfl, hof⟩ := h5
    obtain ⟨z, rfl⟩ := hv _ _ hp
    have hk9 : mK (mrg F S S1) o = 13 := (mrg_in hF).1.trans ho
    have hn9 : mN (mrg F S S1) o = 1 := (mrg_in hF).2.1.trans hn
    refine z_i2l C dL_tagBits_7 ?_
    refine z_lastore C hk9 (by rw [hn9]; exact vp01) dL_tagBits_8 ?_
    refine z_goto 15 C dL_tagBits_9 (by decide) ?_
    refine z_iconst 0 (by decide) C dL_tagBits_15 ?_
    refine z_ireturn C F9 (Nat.le_of_ble_eq_true rfl) (Nat.le_of_ble_eq_true rfl) dL_tagBits_16 ?_
    exact Or.inl ⟨z, S1, hp, rfl, rfl, hof hFk⟩
  · obtain ⟨S1, hp, rfl, hof⟩ := h5
    obtain rfl := he _ _ hp
    refine z_catch 0 (q := (0, 9, 12, 21)) C N Nc rfl (by decide) (fun z hz => nomatch hz) ⟨by decide, by decide⟩ (by decide) (List.mem_cons_of_mem _ wq6) (fun r => ?_)
    refine z_astore_n [_, _, _, _] C (by decide) rfl dL_tagBits_12 ?_
    refine z_iconst 1 (by decide) C dL_tagBits_13 ?_
    refine z_ireturn C F9 (Nat.le_of_ble_eq_true rfl) (Nat.le_of_ble_eq_true rfl) dL_tagBits_14 ?_
    exact Or.inr ⟨_, S1, 1, hp, List.mem_cons_self, rfl, rfl, hof hFk⟩
set_option maxRecDepth 100000 in
theorem W_nameLength {l : Launch} (hl0 : l.stackTraces = false) {P : zP} {S : ZM} {F : Nat → Bool} {x o : Nat} (p0 : Int32) (hF : F o = true) (ho : mK S o = 13) (hn : mN S o = 1) (hx : mK S x = 6) (hFk : ∀ b : Nat, F b = true → zkn (mK S b) = true) (hc : zMet l yX4_nameLength (Cond.code yX4_nameLength cX4_nameLength 2 (some .int) :: LWc) ({ frames := 7, cells := 1, slots := 6, locals := 108 } : Room) 1 6 [zr (some x), zi p0] (rsOff F S) P) (hv : ∀ (v : Option ZV) (S1 : ZM), P (.inl v) S1 → ∃ z : Int32, v = some (zi z)) (he : ∀ (E : String) (S1 : ZM), P (.inr E) S1 → E = "java/util/NoSuchElementException") : zMetN l yL_nameLength (Cond.codeWith yL_nameLength cL_nameLength 4 (some .int) [(0, 9, 12, 21)] :: LWl) ({ frames := 8, cells := 1, slots := 6, locals := 129 } : Room) 1 6 [zr (some x), zi p0, zr (some o)] S (WQ zi (ptI o) P [("java/util/NoSuchElementException", 1)] F S) := by
  refine zMetN.ofH [some (zr (some x)), some (zi p0), some (zr (some o)), none] hl0 (by decide) rfl (Nat.le_of_ble_eq_true rfl) rfl ?_
  intro X C N Nc hR hX F9
  subst hX
  refine z_aload_n C rfl dL_nameLength_0 ?_
  refine z_iconst 0 (by decide) C dL_nameLength_1 ?_
  refine z_aload_n C rfl dL_nameLength_2 ?_
  refine z_iload_n C rfl dL_nameLength_3 ?_
  refine z_callC 1 [zi p0] C rfl (hc.off F) rfl (zgoodV2 LWl_good (fun w h => ul_c h) wq120 wq121 wq122 (ul_c wc58) wq123) rfl rfl rfl (by decide +kernel) rfl (by rw [hR]; exact ⟨Nat.le_of_ble_eq_true rfl, Nat.le_of_ble_eq_true rfl⟩) hx (by rw [hR]; exact ⟨Nat.le_of_ble_eq_true rfl, Nat.le_of_ble_eq_true rfl⟩) (Nat.le_of_ble_eq_true rfl) dL_nameLength_4 (fun v5 S5 h5 => ?_) (fun E5 S5 h5 => ?_)
  · obtain ⟨S1, hp, rfl, hof⟩ := h5
    obtain ⟨z, rfl⟩ := hv _ _ hp
    have hk9 : mK (mrg F S S1) o = 13 := (mrg_in hF).1.trans ho
    have hn9 : mN (mrg F S S1) o = 1 := (mrg_in hF).2.1.trans hn
    refine z_i2l C dL_nameLength_7 ?_
    refine z_lastore C hk9 (by rw [hn9]; exact vp01) dL_nameLength_8 ?_
    refine z_goto 15 C dL_nameLength_9 (by decide) ?_
    refine z_iconst 0 (by decide) C dL_nameLength_15 ?_
    refine z_ireturn C F9 (Nat.le_of_ble_eq_true rfl) (Nat.le_of_ble_eq_true rfl) dL_nameLength_16 ?_
    exact Or.inl ⟨z, S1, hp, rfl, rfl, hof hFk⟩
  · obtain ⟨S1, hp, rfl, hof⟩ := h5
    obtain rfl := he _ _ hp
    refine z_catch 0 (q := (0, 9, 12, 21)) C N Nc rfl (by decide) (fun z hz => nomatch hz) ⟨by decide, by decide⟩ (by decide) (List.mem_cons_of_mem _ wq6) (fun r => ?_)
    refine z_astore_n [_, _, _, _] C (by decide) rfl dL_nameLength_12 ?_
    refine z_iconst 1 (by decide) C dL_nameLength_13 ?_
    refine z_ireturn C F9 (Nat.le_of_ble_eq_true rfl) (Nat.le_of_ble_eq_true rfl) dL_nameLength_14 ?_
    exact Or.inr ⟨_, S1, 1, hp, List.mem_cons_self, rfl, rfl, hof hFk⟩
set_option maxRecDepth 100000 in
theorem W_nameAt {l : Launch} (hl0 : l.stackTraces = false) {P : zP} {S : ZM} {F : Nat → Bool} {x o : Nat} (p0 p1 : Int32) (hF : F o = true) (ho : mK S o = 13) (hn : mN S o = 1) (hx : mK S x = 6) (hFk : ∀ b : Nat, F b = true → zkn (mK S b) = true) (hc : zMet l yX4_nameAt (Cond.code yX4_nameAt cX4_nameAt 4 (some .char) :: LWc) ({ frames := 7, cells := 2, slots := 12, locals := 108 } : Room) 2 12 [zr (some x), zi p0, zi p1] (rsOff F S) P) (hv : ∀ (v : Option ZV) (S1 : ZM), P (.inl v) S1 → ∃ z : Int32, v = some (zi z)) (he : ∀ (E : String) (S1 : ZM), P (.inr E) S1 → E = "java/util/NoSuchElementException" ∨ E = "java/lang/IndexOutOfBoundsException") : zMetN l yL_nameAt (Cond.codeWith yL_nameAt cL_nameAt 5 (some .int) [(0, 10, 13, 21), (0, 10, 17, 117)] :: LWl) ({ frames := 8, cells := 2, slots := 12, locals := 131 } : Room) 2 12 [zr (some x), zi p0, zi p1, zr (some o)] S (WQ zi (ptI o) P [("java/util/NoSuchElementException", 1), ("java/lang/IndexOutOfBoundsException", 2)] F S) := by
  refine zMetN.ofH [some (zr (some x)), some (zi p0), some (zi p1), some (zr (some o)), none] hl0 (by decide) rfl (Nat.le_of_ble_eq_true rfl) rfl ?_
  intro X C N Nc hR hX F9
  subst hX
  refine z_aload_n C rfl dL_nameAt_0 ?_
  refine z_iconst 0 (by decide) C dL_nameAt_1 ?_
  refine z_aload_n C rfl dL_nameAt_2 ?_
  refine z_iload_n C rfl dL_nameAt_3 ?_
  refine z_iload_n C rfl dL_nameAt_4 ?_
  refine z_callC 2 [zi p0, zi p1] C rfl (hc.off F) rfl (zgoodV2 LWl_good (fun w h => ul_c h) wq125 wq126 wq127 (ul_c wc58) wq128) rfl rfl rfl (by decide +kernel) rfl (by rw [hR]; exact ⟨Nat.le_of_ble_eq_true rfl, Nat.le_of_ble_eq_true rfl⟩) hx (by rw [hR]; exact ⟨Nat.le_of_ble_eq_true rfl, Nat.le_of_ble_eq_true rfl⟩) (Nat.le_of_ble_eq_true rfl) dL_nameAt_5 (fun v5 S5 h5 => ?_) (fun E5 S5 h5 => ?_)
  · obtain ⟨S1, hp, rfl, hof⟩ := h5
    obtain ⟨z, rfl⟩ := hv _ _ hp
    have hk9 : mK (mrg F S S1) o = 13 := (mrg_in hF).1.trans ho
    have hn9 : mN (mrg F S S1) o = 1 := (mrg_in hF).2.1.trans hn
    refine z_i2l C dL_nameAt_8 ?_
    refine z_lastore C hk9 (by rw [hn9]; exact vp01) dL_nameAt_9 ?_
    refine z_goto 21 C dL_nameAt_10 (by decide) ?_
    refine z_iconst 0 (by decide) C dL_nameAt_21 ?_
    refine z_ireturn C F9 (Nat.le_of_ble_eq_true rfl) (Nat.le_of_ble_eq_true rfl) dL_nameAt_22 ?_
    exact Or.inl ⟨z, S1, hp, rfl, rfl, hof hFk⟩
  · obtain ⟨S1, hp, rfl, hof⟩ := h5
    rcases he _ _ hp with rfl | rfl
    · refine z_catch 0 (q := (0, 10, 13, 21)) C N Nc rfl (by decide) (fun z hz => nomatch hz) ⟨by decide, by decide⟩ (by decide) (List.mem_cons_of_mem _ wq6) (fun r => ?_)
      refine z_astore [_, _, _, _, _] C (by decide) rfl dL_nameAt_13 ?_
      refine z_iconst 1 (by decide) C dL_nameAt_15 ?_
      refine z_ireturn C F9 (Nat.le_of_ble_eq_true rfl) (Nat.le_of_ble_eq_true rfl) dL_nameAt_16 ?_
      exact Or.inr ⟨_, S1, 1, hp, List.mem_cons_self, rfl, rfl, hof hFk⟩
    · refine z_catch 1 (q := (0, 10, 17, 117)) C N Nc rfl (by decide) (fun z hz => by obtain rfl := List.mem_singleton.mp hz; exact ⟨by decide, "java/util/NoSuchElementException", List.mem_cons_of_mem _ wq6, by decide, by decide⟩) ⟨by decide, by decide⟩ (by decide) (List.mem_cons_of_mem _ wq124) (fun r => ?_)
      refine z_astore [_, _, _, _, _] C (by decide) rfl dL_nameAt_17 ?_
      refine z_iconst 2 (by decide) C dL_nameAt_19 ?_
      refine z_ireturn C F9 (Nat.le_of_ble_eq_true rfl) (Nat.le_of_ble_eq_true rfl) dL_nameAt_20 ?_
      exact Or.inr ⟨_, S1, 2, hp, List.mem_cons_of_mem _ (List.mem_cons_self), rfl, rfl, hof hFk⟩
set_option maxRecDepth 100000 in
theorem W_distance {l : Launch} (hl0 : l.stackTraces = false) {P : zP} {S : ZM} {F : Nat → Bool} {x o : Nat} (p0 p1 : Int32) (hF : F o = true) (ho : mK S o = 13) (hn : mN S o = 1) (hx : mK S x = 6) (hFk : ∀ b : Nat, F b = true → zkn (mK S b) = true) (hc : zMet l yX4_distance (Cond.code yX4_distance cX4_distance 3 (some .int) :: LWc) ({ frames := 7, cells := 2, slots := 12, locals := 108 } : Room) 2 12 [zr (some x), zi p0, zi p1] (rsOff F S) P) (hv : ∀ (v : Option ZV) (S1 : ZM), P (.inl v) S1 → ∃ z : Int32, v = some (zi z)) (he : ∀ (E : String) (S1 : ZM), P (.inr E) S1 → E = "java/util/NoSuchElementException") : zMetN l yL_distance (Cond.codeWith yL_distance cL_distance 5 (some .int) [(0, 10, 13, 21)] :: LWl) ({ frames := 8, cells := 2, slots := 12, locals := 130 } : Room) 2 12 [zr (some x), zi p0, zi p1, zr (some o)] S (WQ zi (ptI o) P [("java/util/NoSuchElementException", 1)] F S) := by
  refine zMetN.ofH [some (zr (some x)), some (zi p0), some (zi p1), some (zr (some o)), none] hl0 (by decide) rfl (Nat.le_of_ble_eq_true rfl) rfl ?_
  intro X C N Nc hR hX F9
  subst hX
  refine z_aload_n C rfl dL_distance_0 ?_
  refine z_iconst 0 (by decide) C dL_distance_1 ?_
  refine z_aload_n C rfl dL_distance_2 ?_
  refine z_iload_n C rfl dL_distance_3 ?_
  refine z_iload_n C rfl dL_distance_4 ?_
  refine z_callC 2 [zi p0, zi p1] C rfl (hc.off F) rfl (zgoodV2 LWl_good (fun w h => ul_c h) wq129 wq130 wq131 (ul_c wc58) wq132) rfl rfl rfl (by decide +kernel) rfl (by rw [hR]; exact ⟨Nat.le_of_ble_eq_true rfl, Nat.le_of_ble_eq_true rfl⟩) hx (by rw [hR]; exact ⟨Nat.le_of_ble_eq_true rfl, Nat.le_of_ble_eq_true rfl⟩) (Nat.le_of_ble_eq_true rfl) dL_distance_5 (fun v5 S5 h5 => ?_) (fun E5 S5 h5 => ?_)
  · obtain ⟨S1, hp, rfl, hof⟩ := h5
    obtain ⟨z, rfl⟩ := hv _ _ hp
    have hk9 : mK (mrg F S S1) o = 13 := (mrg_in hF).1.trans ho
    have hn9 : mN (mrg F S S1) o = 1 := (mrg_in hF).2.1.trans hn
    refine z_i2l C dL_distance_8 ?_
    refine z_lastore C hk9 (by rw [hn9]; exact vp01) dL_distance_9 ?_
    refine z_goto 17 C dL_distance_10 (by decide) ?_
    refine z_iconst 0 (by decide) C dL_distance_17 ?_
    refine z_ireturn C F9 (Nat.le_of_ble_eq_true rfl) (Nat.le_of_ble_eq_true rfl) dL_distance_18 ?_
    exact Or.inl ⟨z, S1, hp, rfl, rfl, hof hFk⟩
  · obtain ⟨S1, hp, rfl, hof⟩ := h5
    obtain rfl := he _ _ hp
    refine z_catch 0 (q := (0, 10, 13, 21)) C N Nc rfl (by decide) (fun z hz => nomatch hz) ⟨by decide, by decide⟩ (by decide) (List.mem_cons_of_mem _ wq6) (fun r => ?_)
    refine z_astore [_, _, _, _, _] C (by decide) rfl dL_distance_13 ?_
    refine z_iconst 1 (by decide) C dL_distance_15 ?_
    refine z_ireturn C F9 (Nat.le_of_ble_eq_true rfl) (Nat.le_of_ble_eq_true rfl) dL_distance_16 ?_
    exact Or.inr ⟨_, S1, 1, hp, List.mem_cons_self, rfl, rfl, hof hFk⟩
set_option maxRecDepth 100000 in
theorem W_distanceByTrying {l : Launch} (hl0 : l.stackTraces = false) {P : zP} {S : ZM} {F : Nat → Bool} {x o : Nat} (p0 p1 : Int32) (hF : F o = true) (ho : mK S o = 13) (hn : mN S o = 1) (hx : mK S x = 6) (hFk : ∀ b : Nat, F b = true → zkn (mK S b) = true) (hc : zMet l yX4_distanceByTrying (Cond.code yX4_distanceByTrying cX4_distanceByTrying 5 (some .int) :: LWc) ({ frames := 14, cells := 2, slots := 12, locals := 375 } : Room) 2 12 [zr (some x), zi p0, zi p1] (rsOff F S) P) (hv : ∀ (v : Option ZV) (S1 : ZM), P (.inl v) S1 → ∃ z : Int32, v = some (zi z)) (he : ∀ (E : String) (S1 : ZM), P (.inr E) S1 → E = "java/util/NoSuchElementException") : zMetN l yL_distanceByTrying (Cond.codeWith yL_distanceByTrying cL_distanceByTrying 5 (some .int) [(0, 10, 13, 21)] :: LWl) ({ frames := 15, cells := 2, slots := 12, locals := 399 } : Room) 2 12 [zr (some x), zi p0, zi p1, zr (some o)] S (WQ zi (ptI o) P [("java/util/NoSuchElementException", 1)] F S) := by
  refine zMetN.ofH [some (zr (some x)), some (zi p0), some (zi p1), some (zr (some o)), none] hl0 (by decide) rfl (Nat.le_of_ble_eq_true rfl) rfl ?_
  intro X C N Nc hR hX F9
  subst hX
  refine z_aload_n C rfl dL_distanceByTrying_0 ?_
  refine z_iconst 0 (by decide) C dL_distanceByTrying_1 ?_
  refine z_aload_n C rfl dL_distanceByTrying_2 ?_
  refine z_iload_n C rfl dL_distanceByTrying_3 ?_
  refine z_iload_n C rfl dL_distanceByTrying_4 ?_
  refine z_callC 2 [zi p0, zi p1] C rfl (hc.off F) rfl (zgoodV2 LWl_good (fun w h => ul_c h) wq133 wq134 wq135 (ul_c wc58) wq136) rfl rfl rfl (by decide +kernel) rfl (by rw [hR]; exact ⟨Nat.le_of_ble_eq_true rfl, Nat.le_of_ble_eq_true rfl⟩) hx (by rw [hR]; exact ⟨Nat.le_of_ble_eq_true rfl, Nat.le_of_ble_eq_true rfl⟩) (Nat.le_of_ble_eq_true rfl) dL_distanceByTrying_5 (fun v5 S5 h5 => ?_) (fun E5 S5 h5 => ?_)
  · obtain ⟨S1, hp, rfl, hof⟩ := h5
    obtain ⟨z, rfl⟩ := hv _ _ hp
    have hk9 : mK (mrg F S S1) o = 13 := (mrg_in hF).1.trans ho
    have hn9 : mN (mrg F S S1) o = 1 := (mrg_in hF).2.1.trans hn
    refine z_i2l C dL_distanceByTrying_8 ?_
    refine z_lastore C hk9 (by rw [hn9]; exact vp01) dL_distanceByTrying_9 ?_
    refine z_goto 17 C dL_distanceByTrying_10 (by decide) ?_
    refine z_iconst 0 (by decide) C dL_distanceByTrying_17 ?_
    refine z_ireturn C F9 (Nat.le_of_ble_eq_true rfl) (Nat.le_of_ble_eq_true rfl) dL_distanceByTrying_18 ?_
    exact Or.inl ⟨z, S1, hp, rfl, rfl, hof hFk⟩
  · obtain ⟨S1, hp, rfl, hof⟩ := h5
    obtain rfl := he _ _ hp
    refine z_catch 0 (q := (0, 10, 13, 21)) C N Nc rfl (by decide) (fun z hz => nomatch hz) ⟨by decide, by decide⟩ (by decide) (List.mem_cons_of_mem _ wq6) (fun r => ?_)
    refine z_astore [_, _, _, _, _] C (by decide) rfl dL_distanceByTrying_13 ?_
    refine z_iconst 1 (by decide) C dL_distanceByTrying_15 ?_
    refine z_ireturn C F9 (Nat.le_of_ble_eq_true rfl) (Nat.le_of_ble_eq_true rfl) dL_distanceByTrying_16 ?_
    exact Or.inr ⟨_, S1, 1, hp, List.mem_cons_self, rfl, rfl, hof hFk⟩
set_option maxRecDepth 100000 in
theorem W_nearest {l : Launch} (hl0 : l.stackTraces = false) {P : zP} {S : ZM} {F : Nat → Bool} {x o : Nat} (p0 : Int32) (hF : F o = true) (ho : mK S o = 13) (hn : mN S o = 1) (hx : mK S x = 6) (hFk : ∀ b : Nat, F b = true → zkn (mK S b) = true) (hc : zMet l yX4_nearest (Cond.code yX4_nearest cX4_nearest 8 (some .int) :: LWc) ({ frames := 7, cells := 2, slots := 12, locals := 108 } : Room) 2 12 [zr (some x), zi p0] (rsOff F S) P) (hv : ∀ (v : Option ZV) (S1 : ZM), P (.inl v) S1 → ∃ z : Int32, v = some (zi z)) (he : ∀ (E : String) (S1 : ZM), P (.inr E) S1 → E = "java/util/NoSuchElementException" ∨ E = "java/lang/IllegalStateException") : zMetN l yL_nearest (Cond.codeWith yL_nearest cL_nearest 4 (some .int) [(0, 9, 12, 21), (0, 9, 15, 15)] :: LWl) ({ frames := 8, cells := 2, slots := 12, locals := 135 } : Room) 2 12 [zr (some x), zi p0, zr (some o)] S (WQ zi (ptI o) P [("java/util/NoSuchElementException", 1), ("java/lang/IllegalStateException", 2)] F S) := by
  refine zMetN.ofH [some (zr (some x)), some (zi p0), some (zr (some o)), none] hl0 (by decide) rfl (Nat.le_of_ble_eq_true rfl) rfl ?_
  intro X C N Nc hR hX F9
  subst hX
  refine z_aload_n C rfl dL_nearest_0 ?_
  refine z_iconst 0 (by decide) C dL_nearest_1 ?_
  refine z_aload_n C rfl dL_nearest_2 ?_
  refine z_iload_n C rfl dL_nearest_3 ?_
  refine z_callC 1 [zi p0] C rfl (hc.off F) rfl (zgoodV2 LWl_good (fun w h => ul_c h) wq137 wq138 wq139 (ul_c wc58) wq140) rfl rfl rfl (by decide +kernel) rfl (by rw [hR]; exact ⟨Nat.le_of_ble_eq_true rfl, Nat.le_of_ble_eq_true rfl⟩) hx (by rw [hR]; exact ⟨Nat.le_of_ble_eq_true rfl, Nat.le_of_ble_eq_true rfl⟩) (Nat.le_of_ble_eq_true rfl) dL_nearest_4 (fun v5 S5 h5 => ?_) (fun E5 S5 h5 => ?_)
  · obtain ⟨S1, hp, rfl, hof⟩ := h5
    obtain ⟨z, rfl⟩ := hv _ _ hp
    have hk9 : mK (mrg F S S1) o = 13 := (mrg_in hF).1.trans ho
    have hn9 : mN (mrg F S S1) o = 1 := (mrg_in hF).2.1.trans hn
    refine z_i2l C dL_nearest_7 ?_
    refine z_lastore C hk9 (by rw [hn9]; exact vp01) dL_nearest_8 ?_
    refine z_goto 18 C dL_nearest_9 (by decide) ?_
    refine z_iconst 0 (by decide) C dL_nearest_18 ?_
    refine z_ireturn C F9 (Nat.le_of_ble_eq_true rfl) (Nat.le_of_ble_eq_true rfl) dL_nearest_19 ?_
    exact Or.inl ⟨z, S1, hp, rfl, rfl, hof hFk⟩
  · obtain ⟨S1, hp, rfl, hof⟩ := h5
    rcases he _ _ hp with rfl | rfl
    · refine z_catch 0 (q := (0, 9, 12, 21)) C N Nc rfl (by decide) (fun z hz => nomatch hz) ⟨by decide, by decide⟩ (by decide) (List.mem_cons_of_mem _ wq6) (fun r => ?_)
      refine z_astore_n [_, _, _, _] C (by decide) rfl dL_nearest_12 ?_
      refine z_iconst 1 (by decide) C dL_nearest_13 ?_
      refine z_ireturn C F9 (Nat.le_of_ble_eq_true rfl) (Nat.le_of_ble_eq_true rfl) dL_nearest_14 ?_
      exact Or.inr ⟨_, S1, 1, hp, List.mem_cons_self, rfl, rfl, hof hFk⟩
    · refine z_catch 1 (q := (0, 9, 15, 15)) C N Nc rfl (by decide) (fun z hz => by obtain rfl := List.mem_singleton.mp hz; exact ⟨by decide, "java/util/NoSuchElementException", List.mem_cons_of_mem _ wq6, by decide, by decide⟩) ⟨by decide, by decide⟩ (by decide) (List.mem_cons_of_mem _ wq1) (fun r => ?_)
      refine z_astore_n [_, _, _, _] C (by decide) rfl dL_nearest_15 ?_
      refine z_iconst 2 (by decide) C dL_nearest_16 ?_
      refine z_ireturn C F9 (Nat.le_of_ble_eq_true rfl) (Nat.le_of_ble_eq_true rfl) dL_nearest_17 ?_
      exact Or.inr ⟨_, S1, 2, hp, List.mem_cons_of_mem _ (List.mem_cons_self), rfl, rfl, hof hFk⟩
set_option maxRecDepth 100000 in
theorem W_sizeOf {l : Launch} (hl0 : l.stackTraces = false) {P : zP} {S : ZM} {F : Nat → Bool} {x o : Nat} (p0 : Int32) (hF : F o = true) (ho : mK S o = 13) (hn : mN S o = 1) (hx : mK S x = 6) (hFk : ∀ b : Nat, F b = true → zkn (mK S b) = true) (hc : zMet l yX4_sizeOf (Cond.code yX4_sizeOf cX4_sizeOf 2 (some .int) :: LWc) ({ frames := 7, cells := 1, slots := 6, locals := 108 } : Room) 1 6 [zr (some x), zi p0] (rsOff F S) P) (hv : ∀ (v : Option ZV) (S1 : ZM), P (.inl v) S1 → ∃ z : Int32, v = some (zi z)) (he : ∀ (E : String) (S1 : ZM), P (.inr E) S1 → E = "java/util/NoSuchElementException") : zMetN l yL_sizeOf (Cond.codeWith yL_sizeOf cL_sizeOf 4 (some .int) [(0, 9, 12, 21)] :: LWl) ({ frames := 8, cells := 1, slots := 6, locals := 129 } : Room) 1 6 [zr (some x), zi p0, zr (some o)] S (WQ zi (ptI o) P [("java/util/NoSuchElementException", 1)] F S) := by
  refine zMetN.ofH [some (zr (some x)), some (zi p0), some (zr (some o)), none] hl0 (by decide) rfl (Nat.le_of_ble_eq_true rfl) rfl ?_
  intro X C N Nc hR hX F9
  subst hX
  refine z_aload_n C rfl dL_sizeOf_0 ?_
  refine z_iconst 0 (by decide) C dL_sizeOf_1 ?_
  refine z_aload_n C rfl dL_sizeOf_2 ?_
  refine z_iload_n C rfl dL_sizeOf_3 ?_
  refine z_callC 1 [zi p0] C rfl (hc.off F) rfl (zgoodV2 LWl_good (fun w h => ul_c h) wq141 wq142 wq143 (ul_c wc58) wq144) rfl rfl rfl (by decide +kernel) rfl (by rw [hR]; exact ⟨Nat.le_of_ble_eq_true rfl, Nat.le_of_ble_eq_true rfl⟩) hx (by rw [hR]; exact ⟨Nat.le_of_ble_eq_true rfl, Nat.le_of_ble_eq_true rfl⟩) (Nat.le_of_ble_eq_true rfl) dL_sizeOf_4 (fun v5 S5 h5 => ?_) (fun E5 S5 h5 => ?_)
  · obtain ⟨S1, hp, rfl, hof⟩ := h5
    obtain ⟨z, rfl⟩ := hv _ _ hp
    have hk9 : mK (mrg F S S1) o = 13 := (mrg_in hF).1.trans ho
    have hn9 : mN (mrg F S S1) o = 1 := (mrg_in hF).2.1.trans hn
    refine z_i2l C dL_sizeOf_7 ?_
    refine z_lastore C hk9 (by rw [hn9]; exact vp01) dL_sizeOf_8 ?_
    refine z_goto 15 C dL_sizeOf_9 (by decide) ?_
    refine z_iconst 0 (by decide) C dL_sizeOf_15 ?_
    refine z_ireturn C F9 (Nat.le_of_ble_eq_true rfl) (Nat.le_of_ble_eq_true rfl) dL_sizeOf_16 ?_
    exact Or.inl ⟨z, S1, hp, rfl, rfl, hof hFk⟩
  · obtain ⟨S1, hp, rfl, hof⟩ := h5
    obtain rfl := he _ _ hp
    refine z_catch 0 (q := (0, 9, 12, 21)) C N Nc rfl (by decide) (fun z hz => nomatch hz) ⟨by decide, by decide⟩ (by decide) (List.mem_cons_of_mem _ wq6) (fun r => ?_)
    refine z_astore_n [_, _, _, _] C (by decide) rfl dL_sizeOf_12 ?_
    refine z_iconst 1 (by decide) C dL_sizeOf_13 ?_
    refine z_ireturn C F9 (Nat.le_of_ble_eq_true rfl) (Nat.le_of_ble_eq_true rfl) dL_sizeOf_14 ?_
    exact Or.inr ⟨_, S1, 1, hp, List.mem_cons_self, rfl, rfl, hof hFk⟩
set_option maxRecDepth 100000 in
theorem W_holds {l : Launch} (hl0 : l.stackTraces = false) {P : zP} {S : ZM} {F : Nat → Bool} {x o : Nat} (p0 p1 : Int32) (hF : F o = true) (ho : mK S o = 13) (hn : mN S o = 1) (hx : mK S x = 6) (hFk : ∀ b : Nat, F b = true → zkn (mK S b) = true) (hc : zMet l yX4_holds (Cond.code yX4_holds cX4_holds 4 (some .boolean) :: LWc) ({ frames := 42, cells := 2, slots := 12, locals := 928 } : Room) 2 12 [zr (some x), zi p0, zi p1] (rsOff F S) P) (hv : ∀ (v : Option ZV) (S1 : ZM), P (.inl v) S1 → ∃ z : Int32, v = some (zi z)) (he : ∀ (E : String) (S1 : ZM), P (.inr E) S1 → E = "java/util/NoSuchElementException") : zMetN l yL_holds (Cond.codeWith yL_holds cL_holds 5 (some .int) [(0, 17, 20, 21)] :: LWl) ({ frames := 43, cells := 2, slots := 12, locals := 951 } : Room) 2 12 [zr (some x), zi p0, zi p1, zr (some o)] S (WQ zi (ptB o) P [("java/util/NoSuchElementException", 1)] F S) := by
  refine zMetN.ofH [some (zr (some x)), some (zi p0), some (zi p1), some (zr (some o)), none] hl0 (by decide) rfl (Nat.le_of_ble_eq_true rfl) rfl ?_
  intro X C N Nc hR hX F9
  subst hX
  refine z_aload_n C rfl dL_holds_0 ?_
  refine z_iconst 0 (by decide) C dL_holds_1 ?_
  refine z_aload_n C rfl dL_holds_2 ?_
  refine z_iload_n C rfl dL_holds_3 ?_
  refine z_iload_n C rfl dL_holds_4 ?_
  refine z_callC 2 [zi p0, zi p1] C rfl (hc.off F) rfl (zgoodV2 LWl_good (fun w h => ul_c h) wq145 wq146 wq147 (ul_c wc58) wq148) rfl rfl rfl (by decide +kernel) rfl (by rw [hR]; exact ⟨Nat.le_of_ble_eq_true rfl, Nat.le_of_ble_eq_true rfl⟩) hx (by rw [hR]; exact ⟨Nat.le_of_ble_eq_true rfl, Nat.le_of_ble_eq_true rfl⟩) (Nat.le_of_ble_eq_true rfl) dL_holds_5 (fun v5 S5 h5 => ?_) (fun E5 S5 h5 => ?_)
  · obtain ⟨S1, hp, rfl, hof⟩ := h5
    obtain ⟨z, rfl⟩ := hv _ _ hp
    have hk9 : mK (mrg F S S1) o = 13 := (mrg_in hF).1.trans ho
    have hn9 : mN (mrg F S S1) o = 1 := (mrg_in hF).2.1.trans hn
    refine z_if_eq 15 C dL_holds_8 (by decide) (fun c9 => ?_) (fun c9 => ?_)
    · refine z_lconst 0 (by decide) C dL_holds_15 ?_
      refine z_lastore C hk9 (by rw [hn9]; exact vp01) dL_holds_16 ?_
      refine z_goto 24 C dL_holds_17 (by decide) ?_
      refine z_iconst 0 (by decide) C dL_holds_24 ?_
      refine z_ireturn C F9 (Nat.le_of_ble_eq_true rfl) (Nat.le_of_ble_eq_true rfl) dL_holds_25 ?_
      exact Or.inl ⟨z, S1, hp, rfl, by rw [ptB, if_pos c9]; rfl, hof hFk⟩
    · refine z_lconst 1 (by decide) C dL_holds_11 ?_
      refine z_goto 16 C dL_holds_12 (by decide) ?_
      refine z_lastore C hk9 (by rw [hn9]; exact vp01) dL_holds_16 ?_
      refine z_goto 24 C dL_holds_17 (by decide) ?_
      refine z_iconst 0 (by decide) C dL_holds_24 ?_
      refine z_ireturn C F9 (Nat.le_of_ble_eq_true rfl) (Nat.le_of_ble_eq_true rfl) dL_holds_25 ?_
      exact Or.inl ⟨z, S1, hp, rfl, by rw [ptB, if_neg c9]; rfl, hof hFk⟩
  · obtain ⟨S1, hp, rfl, hof⟩ := h5
    obtain rfl := he _ _ hp
    refine z_catch 0 (q := (0, 17, 20, 21)) C N Nc rfl (by decide) (fun z hz => nomatch hz) ⟨by decide, by decide⟩ (by decide) (List.mem_cons_of_mem _ wq6) (fun r => ?_)
    refine z_astore [_, _, _, _, _] C (by decide) rfl dL_holds_20 ?_
    refine z_iconst 1 (by decide) C dL_holds_22 ?_
    refine z_ireturn C F9 (Nat.le_of_ble_eq_true rfl) (Nat.le_of_ble_eq_true rfl) dL_holds_23 ?_
    exact Or.inr ⟨_, S1, 1, hp, List.mem_cons_self, rfl, rfl, hof hFk⟩
set_option maxRecDepth 100000 in
theorem W_matches {l : Launch} (hl0 : l.stackTraces = false) {P : zP} {S : ZM} {F : Nat → Bool} {x o : Nat} (p0 : Int32) (hF : F o = true) (ho : mK S o = 13) (hn : mN S o = 1) (hx : mK S x = 6) (hFk : ∀ b : Nat, F b = true → zkn (mK S b) = true) (hc : zMet l yX4_matches (Cond.code yX4_matches cX4_matches 2 (some .int) :: LWc) ({ frames := 42, cells := 1, slots := 6, locals := 928 } : Room) 1 6 [zr (some x), zi p0] (rsOff F S) P) (hv : ∀ (v : Option ZV) (S1 : ZM), P (.inl v) S1 → ∃ z : Int32, v = some (zi z)) (he : ∀ (E : String) (S1 : ZM), P (.inr E) S1 → E = "java/util/NoSuchElementException") : zMetN l yL_matches (Cond.codeWith yL_matches cL_matches 4 (some .int) [(0, 9, 12, 21)] :: LWl) ({ frames := 43, cells := 1, slots := 6, locals := 949 } : Room) 1 6 [zr (some x), zi p0, zr (some o)] S (WQ zi (ptI o) P [("java/util/NoSuchElementException", 1)] F S) := by
  refine zMetN.ofH [some (zr (some x)), some (zi p0), some (zr (some o)), none] hl0 (by decide) rfl (Nat.le_of_ble_eq_true rfl) rfl ?_
  intro X C N Nc hR hX F9
  subst hX
  refine z_aload_n C rfl dL_matches_0 ?_
  refine z_iconst 0 (by decide) C dL_matches_1 ?_
  refine z_aload_n C rfl dL_matches_2 ?_
  refine z_iload_n C rfl dL_matches_3 ?_
  refine z_callC 1 [zi p0] C rfl (hc.off F) rfl (zgoodV2 LWl_good (fun w h => ul_c h) wq149 wq150 wq151 (ul_c wc58) wq152) rfl rfl rfl (by decide +kernel) rfl (by rw [hR]; exact ⟨Nat.le_of_ble_eq_true rfl, Nat.le_of_ble_eq_true rfl⟩) hx (by rw [hR]; exact ⟨Nat.le_of_ble_eq_true rfl, Nat.le_of_ble_eq_true rfl⟩) (Nat.le_of_ble_eq_true rfl) dL_matches_4 (fun v5 S5 h5 => ?_) (fun E5 S5 h5 => ?_)
  · obtain ⟨S1, hp, rfl, hof⟩ := h5
    obtain ⟨z, rfl⟩ := hv _ _ hp
    have hk9 : mK (mrg F S S1) o = 13 := (mrg_in hF).1.trans ho
    have hn9 : mN (mrg F S S1) o = 1 := (mrg_in hF).2.1.trans hn
    refine z_i2l C dL_matches_7 ?_
    refine z_lastore C hk9 (by rw [hn9]; exact vp01) dL_matches_8 ?_
    refine z_goto 15 C dL_matches_9 (by decide) ?_
    refine z_iconst 0 (by decide) C dL_matches_15 ?_
    refine z_ireturn C F9 (Nat.le_of_ble_eq_true rfl) (Nat.le_of_ble_eq_true rfl) dL_matches_16 ?_
    exact Or.inl ⟨z, S1, hp, rfl, rfl, hof hFk⟩
  · obtain ⟨S1, hp, rfl, hof⟩ := h5
    obtain rfl := he _ _ hp
    refine z_catch 0 (q := (0, 9, 12, 21)) C N Nc rfl (by decide) (fun z hz => nomatch hz) ⟨by decide, by decide⟩ (by decide) (List.mem_cons_of_mem _ wq6) (fun r => ?_)
    refine z_astore_n [_, _, _, _] C (by decide) rfl dL_matches_12 ?_
    refine z_iconst 1 (by decide) C dL_matches_13 ?_
    refine z_ireturn C F9 (Nat.le_of_ble_eq_true rfl) (Nat.le_of_ble_eq_true rfl) dL_matches_14 ?_
    exact Or.inr ⟨_, S1, 1, hp, List.mem_cons_self, rfl, rfl, hof hFk⟩
set_option maxRecDepth 100000 in
theorem W_size {l : Launch} (hl0 : l.stackTraces = false) {P : zP} {S : ZM} {F : Nat → Bool} {x o : Nat} (p0 : Int32) (hF : F o = true) (ho : mK S o = 13) (hn : mN S o = 1) (hx : mK S x = 6) (hFk : ∀ b : Nat, F b = true → zkn (mK S b) = true) (hc : zMet l yX4_size (Cond.code yX4_size cX4_size 2 (some .int) :: LWc) ({ frames := 7, cells := 1, slots := 6, locals := 108 } : Room) 1 6 [zr (some x), zi p0] (rsOff F S) P) (hv : ∀ (v : Option ZV) (S1 : ZM), P (.inl v) S1 → ∃ z : Int32, v = some (zi z)) (he : ∀ (E : String) (S1 : ZM), P (.inr E) S1 → E = "java/util/NoSuchElementException") : zMetN l yL_size (Cond.codeWith yL_size cL_size 4 (some .int) [(0, 9, 12, 21)] :: LWl) ({ frames := 8, cells := 1, slots := 6, locals := 129 } : Room) 1 6 [zr (some x), zi p0, zr (some o)] S (WQ zi (ptI o) P [("java/util/NoSuchElementException", 1)] F S) := by
  refine zMetN.ofH [some (zr (some x)), some (zi p0), some (zr (some o)), none] hl0 (by decide) rfl (Nat.le_of_ble_eq_true rfl) rfl ?_
  intro X C N Nc hR hX F9
  subst hX
  refine z_aload_n C rfl dL_size_0 ?_
  refine z_iconst 0 (by decide) C dL_size_1 ?_
  refine z_aload_n C rfl dL_size_2 ?_
  refine z_iload_n C rfl dL_size_3 ?_
  refine z_callC 1 [zi p0] C rfl (hc.off F) rfl (zgoodV2 LWl_good (fun w h => ul_c h) wq153 wq154 wq155 (ul_c wc58) wq156) rfl rfl rfl (by decide +kernel) rfl (by rw [hR]; exact ⟨Nat.le_of_ble_eq_true rfl, Nat.le_of_ble_eq_true rfl⟩) hx (by rw [hR]; exact ⟨Nat.le_of_ble_eq_true rfl, Nat.le_of_ble_eq_true rfl⟩) (Nat.le_of_ble_eq_true rfl) dL_size_4 (fun v5 S5 h5 => ?_) (fun E5 S5 h5 => ?_)
  · obtain ⟨S1, hp, rfl, hof⟩ := h5
    obtain ⟨z, rfl⟩ := hv _ _ hp
    have hk9 : mK (mrg F S S1) o = 13 := (mrg_in hF).1.trans ho
    have hn9 : mN (mrg F S S1) o = 1 := (mrg_in hF).2.1.trans hn
    refine z_i2l C dL_size_7 ?_
    refine z_lastore C hk9 (by rw [hn9]; exact vp01) dL_size_8 ?_
    refine z_goto 15 C dL_size_9 (by decide) ?_
    refine z_iconst 0 (by decide) C dL_size_15 ?_
    refine z_ireturn C F9 (Nat.le_of_ble_eq_true rfl) (Nat.le_of_ble_eq_true rfl) dL_size_16 ?_
    exact Or.inl ⟨z, S1, hp, rfl, rfl, hof hFk⟩
  · obtain ⟨S1, hp, rfl, hof⟩ := h5
    obtain rfl := he _ _ hp
    refine z_catch 0 (q := (0, 9, 12, 21)) C N Nc rfl (by decide) (fun z hz => nomatch hz) ⟨by decide, by decide⟩ (by decide) (List.mem_cons_of_mem _ wq6) (fun r => ?_)
    refine z_astore_n [_, _, _, _] C (by decide) rfl dL_size_12 ?_
    refine z_iconst 1 (by decide) C dL_size_13 ?_
    refine z_ireturn C F9 (Nat.le_of_ble_eq_true rfl) (Nat.le_of_ble_eq_true rfl) dL_size_14 ?_
    exact Or.inr ⟨_, S1, 1, hp, List.mem_cons_self, rfl, rfl, hof hFk⟩
set_option maxRecDepth 100000 in
theorem W_trackAt {l : Launch} (hl0 : l.stackTraces = false) {P : zP} {S : ZM} {F : Nat → Bool} {x o : Nat} (p0 p1 : Int32) (hF : F o = true) (ho : mK S o = 13) (hn : mN S o = 1) (hx : mK S x = 6) (hFk : ∀ b : Nat, F b = true → zkn (mK S b) = true) (hc : zMet l yX4_trackAt (Cond.code yX4_trackAt cX4_trackAt 7 (some .int) :: LWc) ({ frames := 7, cells := 2, slots := 12, locals := 108 } : Room) 2 12 [zr (some x), zi p0, zi p1] (rsOff F S) P) (hv : ∀ (v : Option ZV) (S1 : ZM), P (.inl v) S1 → ∃ z : Int32, v = some (zi z)) (he : ∀ (E : String) (S1 : ZM), P (.inr E) S1 → E = "java/util/NoSuchElementException" ∨ E = "java/lang/IndexOutOfBoundsException") : zMetN l yL_trackAt (Cond.codeWith yL_trackAt cL_trackAt 5 (some .int) [(0, 10, 13, 21), (0, 10, 17, 117)] :: LWl) ({ frames := 8, cells := 2, slots := 12, locals := 134 } : Room) 2 12 [zr (some x), zi p0, zi p1, zr (some o)] S (WQ zi (ptI o) P [("java/util/NoSuchElementException", 1), ("java/lang/IndexOutOfBoundsException", 2)] F S) := by
  refine zMetN.ofH [some (zr (some x)), some (zi p0), some (zi p1), some (zr (some o)), none] hl0 (by decide) rfl (Nat.le_of_ble_eq_true rfl) rfl ?_
  intro X C N Nc hR hX F9
  subst hX
  refine z_aload_n C rfl dL_trackAt_0 ?_
  refine z_iconst 0 (by decide) C dL_trackAt_1 ?_
  refine z_aload_n C rfl dL_trackAt_2 ?_
  refine z_iload_n C rfl dL_trackAt_3 ?_
  refine z_iload_n C rfl dL_trackAt_4 ?_
  refine z_callC 2 [zi p0, zi p1] C rfl (hc.off F) rfl (zgoodV2 LWl_good (fun w h => ul_c h) wq157 wq158 wq159 (ul_c wc58) wq160) rfl rfl rfl (by decide +kernel) rfl (by rw [hR]; exact ⟨Nat.le_of_ble_eq_true rfl, Nat.le_of_ble_eq_true rfl⟩) hx (by rw [hR]; exact ⟨Nat.le_of_ble_eq_true rfl, Nat.le_of_ble_eq_true rfl⟩) (Nat.le_of_ble_eq_true rfl) dL_trackAt_5 (fun v5 S5 h5 => ?_) (fun E5 S5 h5 => ?_)
  · obtain ⟨S1, hp, rfl, hof⟩ := h5
    obtain ⟨z, rfl⟩ := hv _ _ hp
    have hk9 : mK (mrg F S S1) o = 13 := (mrg_in hF).1.trans ho
    have hn9 : mN (mrg F S S1) o = 1 := (mrg_in hF).2.1.trans hn
    refine z_i2l C dL_trackAt_8 ?_
    refine z_lastore C hk9 (by rw [hn9]; exact vp01) dL_trackAt_9 ?_
    refine z_goto 21 C dL_trackAt_10 (by decide) ?_
    refine z_iconst 0 (by decide) C dL_trackAt_21 ?_
    refine z_ireturn C F9 (Nat.le_of_ble_eq_true rfl) (Nat.le_of_ble_eq_true rfl) dL_trackAt_22 ?_
    exact Or.inl ⟨z, S1, hp, rfl, rfl, hof hFk⟩
  · obtain ⟨S1, hp, rfl, hof⟩ := h5
    rcases he _ _ hp with rfl | rfl
    · refine z_catch 0 (q := (0, 10, 13, 21)) C N Nc rfl (by decide) (fun z hz => nomatch hz) ⟨by decide, by decide⟩ (by decide) (List.mem_cons_of_mem _ wq6) (fun r => ?_)
      refine z_astore [_, _, _, _, _] C (by decide) rfl dL_trackAt_13 ?_
      refine z_iconst 1 (by decide) C dL_trackAt_15 ?_
      refine z_ireturn C F9 (Nat.le_of_ble_eq_true rfl) (Nat.le_of_ble_eq_true rfl) dL_trackAt_16 ?_
      exact Or.inr ⟨_, S1, 1, hp, List.mem_cons_self, rfl, rfl, hof hFk⟩
    · refine z_catch 1 (q := (0, 10, 17, 117)) C N Nc rfl (by decide) (fun z hz => by obtain rfl := List.mem_singleton.mp hz; exact ⟨by decide, "java/util/NoSuchElementException", List.mem_cons_of_mem _ wq6, by decide, by decide⟩) ⟨by decide, by decide⟩ (by decide) (List.mem_cons_of_mem _ wq124) (fun r => ?_)
      refine z_astore [_, _, _, _, _] C (by decide) rfl dL_trackAt_17 ?_
      refine z_iconst 2 (by decide) C dL_trackAt_19 ?_
      refine z_ireturn C F9 (Nat.le_of_ble_eq_true rfl) (Nat.le_of_ble_eq_true rfl) dL_trackAt_20 ?_
      exact Or.inr ⟨_, S1, 2, hp, List.mem_cons_of_mem _ (List.mem_cons_self), rfl, rfl, hof hFk⟩
set_option maxRecDepth 100000 in
theorem W_contains {l : Launch} (hl0 : l.stackTraces = false) {P : zP} {S : ZM} {F : Nat → Bool} {x o : Nat} (p0 p1 : Int32) (hF : F o = true) (ho : mK S o = 13) (hn : mN S o = 1) (hx : mK S x = 6) (hFk : ∀ b : Nat, F b = true → zkn (mK S b) = true) (hc : zMet l yX4_contains (Cond.code yX4_contains cX4_contains 3 (some .boolean) :: LWc) ({ frames := 7, cells := 2, slots := 12, locals := 108 } : Room) 2 12 [zr (some x), zi p0, zi p1] (rsOff F S) P) (hv : ∀ (v : Option ZV) (S1 : ZM), P (.inl v) S1 → ∃ z : Int32, v = some (zi z)) (he : ∀ (E : String) (S1 : ZM), P (.inr E) S1 → E = "java/util/NoSuchElementException") : zMetN l yL_contains (Cond.codeWith yL_contains cL_contains 5 (some .int) [(0, 17, 20, 21)] :: LWl) ({ frames := 8, cells := 2, slots := 12, locals := 130 } : Room) 2 12 [zr (some x), zi p0, zi p1, zr (some o)] S (WQ zi (ptB o) P [("java/util/NoSuchElementException", 1)] F S) := by
  refine zMetN.ofH [some (zr (some x)), some (zi p0), some (zi p1), some (zr (some o)), none] hl0 (by decide) rfl (Nat.le_of_ble_eq_true rfl) rfl ?_
  intro X C N Nc hR hX F9
  subst hX
  refine z_aload_n C rfl dL_contains_0 ?_
  refine z_iconst 0 (by decide) C dL_contains_1 ?_
  refine z_aload_n C rfl dL_contains_2 ?_
  refine z_iload_n C rfl dL_contains_3 ?_
  refine z_iload_n C rfl dL_contains_4 ?_
  refine z_callC 2 [zi p0, zi p1] C rfl (hc.off F) rfl (zgoodV2 LWl_good (fun w h => ul_c h) wq161 wq162 wq163 (ul_c wc58) wq164) rfl rfl rfl (by decide +kernel) rfl (by rw [hR]; exact ⟨Nat.le_of_ble_eq_true rfl, Nat.le_of_ble_eq_true rfl⟩) hx (by rw [hR]; exact ⟨Nat.le_of_ble_eq_true rfl, Nat.le_of_ble_eq_true rfl⟩) (Nat.le_of_ble_eq_true rfl) dL_contains_5 (fun v5 S5 h5 => ?_) (fun E5 S5 h5 => ?_)
  · obtain ⟨S1, hp, rfl, hof⟩ := h5
    obtain ⟨z, rfl⟩ := hv _ _ hp
    have hk9 : mK (mrg F S S1) o = 13 := (mrg_in hF).1.trans ho
    have hn9 : mN (mrg F S S1) o = 1 := (mrg_in hF).2.1.trans hn
    refine z_if_eq 15 C dL_contains_8 (by decide) (fun c9 => ?_) (fun c9 => ?_)
    · refine z_lconst 0 (by decide) C dL_contains_15 ?_
      refine z_lastore C hk9 (by rw [hn9]; exact vp01) dL_contains_16 ?_
      refine z_goto 24 C dL_contains_17 (by decide) ?_
      refine z_iconst 0 (by decide) C dL_contains_24 ?_
      refine z_ireturn C F9 (Nat.le_of_ble_eq_true rfl) (Nat.le_of_ble_eq_true rfl) dL_contains_25 ?_
      exact Or.inl ⟨z, S1, hp, rfl, by rw [ptB, if_pos c9]; rfl, hof hFk⟩
    · refine z_lconst 1 (by decide) C dL_contains_11 ?_
      refine z_goto 16 C dL_contains_12 (by decide) ?_
      refine z_lastore C hk9 (by rw [hn9]; exact vp01) dL_contains_16 ?_
      refine z_goto 24 C dL_contains_17 (by decide) ?_
      refine z_iconst 0 (by decide) C dL_contains_24 ?_
      refine z_ireturn C F9 (Nat.le_of_ble_eq_true rfl) (Nat.le_of_ble_eq_true rfl) dL_contains_25 ?_
      exact Or.inl ⟨z, S1, hp, rfl, by rw [ptB, if_neg c9]; rfl, hof hFk⟩
  · obtain ⟨S1, hp, rfl, hof⟩ := h5
    obtain rfl := he _ _ hp
    refine z_catch 0 (q := (0, 17, 20, 21)) C N Nc rfl (by decide) (fun z hz => nomatch hz) ⟨by decide, by decide⟩ (by decide) (List.mem_cons_of_mem _ wq6) (fun r => ?_)
    refine z_astore [_, _, _, _, _] C (by decide) rfl dL_contains_20 ?_
    refine z_iconst 1 (by decide) C dL_contains_22 ?_
    refine z_ireturn C F9 (Nat.le_of_ble_eq_true rfl) (Nat.le_of_ble_eq_true rfl) dL_contains_23 ?_
    exact Or.inr ⟨_, S1, 1, hp, List.mem_cons_self, rfl, rfl, hof hFk⟩
set_option maxRecDepth 100000 in
theorem W_containsByRounds {l : Launch} (hl0 : l.stackTraces = false) {P : zP} {S : ZM} {F : Nat → Bool} {x o : Nat} (p0 p1 : Int32) (hF : F o = true) (ho : mK S o = 13) (hn : mN S o = 1) (hx : mK S x = 6) (hFk : ∀ b : Nat, F b = true → zkn (mK S b) = true) (hc : zMet l yX4_containsByRounds (Cond.code yX4_containsByRounds cX4_containsByRounds 3 (some .boolean) :: LWc) ({ frames := 44, cells := 2, slots := 12, locals := 981 } : Room) 2 12 [zr (some x), zi p0, zi p1] (rsOff F S) P) (hv : ∀ (v : Option ZV) (S1 : ZM), P (.inl v) S1 → ∃ z : Int32, v = some (zi z)) (he : ∀ (E : String) (S1 : ZM), P (.inr E) S1 → E = "java/util/NoSuchElementException") : zMetN l yL_containsByRounds (Cond.codeWith yL_containsByRounds cL_containsByRounds 5 (some .int) [(0, 17, 20, 21)] :: LWl) ({ frames := 45, cells := 2, slots := 12, locals := 1003 } : Room) 2 12 [zr (some x), zi p0, zi p1, zr (some o)] S (WQ zi (ptB o) P [("java/util/NoSuchElementException", 1)] F S) := by
  refine zMetN.ofH [some (zr (some x)), some (zi p0), some (zi p1), some (zr (some o)), none] hl0 (by decide) rfl (Nat.le_of_ble_eq_true rfl) rfl ?_
  intro X C N Nc hR hX F9
  subst hX
  refine z_aload_n C rfl dL_containsByRounds_0 ?_
  refine z_iconst 0 (by decide) C dL_containsByRounds_1 ?_
  refine z_aload_n C rfl dL_containsByRounds_2 ?_
  refine z_iload_n C rfl dL_containsByRounds_3 ?_
  refine z_iload_n C rfl dL_containsByRounds_4 ?_
  refine z_callC 2 [zi p0, zi p1] C rfl (hc.off F) rfl (zgoodV2 LWl_good (fun w h => ul_c h) wq165 wq166 wq167 (ul_c wc58) wq168) rfl rfl rfl (by decide +kernel) rfl (by rw [hR]; exact ⟨Nat.le_of_ble_eq_true rfl, Nat.le_of_ble_eq_true rfl⟩) hx (by rw [hR]; exact ⟨Nat.le_of_ble_eq_true rfl, Nat.le_of_ble_eq_true rfl⟩) (Nat.le_of_ble_eq_true rfl) dL_containsByRounds_5 (fun v5 S5 h5 => ?_) (fun E5 S5 h5 => ?_)
  · obtain ⟨S1, hp, rfl, hof⟩ := h5
    obtain ⟨z, rfl⟩ := hv _ _ hp
    have hk9 : mK (mrg F S S1) o = 13 := (mrg_in hF).1.trans ho
    have hn9 : mN (mrg F S S1) o = 1 := (mrg_in hF).2.1.trans hn
    refine z_if_eq 15 C dL_containsByRounds_8 (by decide) (fun c9 => ?_) (fun c9 => ?_)
    · refine z_lconst 0 (by decide) C dL_containsByRounds_15 ?_
      refine z_lastore C hk9 (by rw [hn9]; exact vp01) dL_containsByRounds_16 ?_
      refine z_goto 24 C dL_containsByRounds_17 (by decide) ?_
      refine z_iconst 0 (by decide) C dL_containsByRounds_24 ?_
      refine z_ireturn C F9 (Nat.le_of_ble_eq_true rfl) (Nat.le_of_ble_eq_true rfl) dL_containsByRounds_25 ?_
      exact Or.inl ⟨z, S1, hp, rfl, by rw [ptB, if_pos c9]; rfl, hof hFk⟩
    · refine z_lconst 1 (by decide) C dL_containsByRounds_11 ?_
      refine z_goto 16 C dL_containsByRounds_12 (by decide) ?_
      refine z_lastore C hk9 (by rw [hn9]; exact vp01) dL_containsByRounds_16 ?_
      refine z_goto 24 C dL_containsByRounds_17 (by decide) ?_
      refine z_iconst 0 (by decide) C dL_containsByRounds_24 ?_
      refine z_ireturn C F9 (Nat.le_of_ble_eq_true rfl) (Nat.le_of_ble_eq_true rfl) dL_containsByRounds_25 ?_
      exact Or.inl ⟨z, S1, hp, rfl, by rw [ptB, if_neg c9]; rfl, hof hFk⟩
  · obtain ⟨S1, hp, rfl, hof⟩ := h5
    obtain rfl := he _ _ hp
    refine z_catch 0 (q := (0, 17, 20, 21)) C N Nc rfl (by decide) (fun z hz => nomatch hz) ⟨by decide, by decide⟩ (by decide) (List.mem_cons_of_mem _ wq6) (fun r => ?_)
    refine z_astore [_, _, _, _, _] C (by decide) rfl dL_containsByRounds_20 ?_
    refine z_iconst 1 (by decide) C dL_containsByRounds_22 ?_
    refine z_ireturn C F9 (Nat.le_of_ble_eq_true rfl) (Nat.le_of_ble_eq_true rfl) dL_containsByRounds_23 ?_
    exact Or.inr ⟨_, S1, 1, hp, List.mem_cons_self, rfl, rfl, hof hFk⟩
set_option maxRecDepth 100000 in
theorem W_secondsOf {l : Launch} (hl0 : l.stackTraces = false) {P : zP} {S : ZM} {F : Nat → Bool} {x o : Nat} (p0 : Int32) (hF : F o = true) (ho : mK S o = 13) (hn : mN S o = 1) (hx : mK S x = 6) (hFk : ∀ b : Nat, F b = true → zkn (mK S b) = true) (hc : zMet l yX4_secondsOf (Cond.code yX4_secondsOf cX4_secondsOf 2 (some .int) :: LWc) ({ frames := 7, cells := 1, slots := 6, locals := 108 } : Room) 1 6 [zr (some x), zi p0] (rsOff F S) P) (hv : ∀ (v : Option ZV) (S1 : ZM), P (.inl v) S1 → ∃ z : Int32, v = some (zi z)) (he : ∀ (E : String) (S1 : ZM), P (.inr E) S1 → E = "java/util/NoSuchElementException") : zMetN l yL_secondsOf (Cond.codeWith yL_secondsOf cL_secondsOf 4 (some .int) [(0, 9, 12, 21)] :: LWl) ({ frames := 8, cells := 1, slots := 6, locals := 129 } : Room) 1 6 [zr (some x), zi p0, zr (some o)] S (WQ zi (ptI o) P [("java/util/NoSuchElementException", 1)] F S) := by
  refine zMetN.ofH [some (zr (some x)), some (zi p0), some (zr (some o)), none] hl0 (by decide) rfl (Nat.le_of_ble_eq_true rfl) rfl ?_
  intro X C N Nc hR hX F9
  subst hX
  refine z_aload_n C rfl dL_secondsOf_0 ?_
  refine z_iconst 0 (by decide) C dL_secondsOf_1 ?_
  refine z_aload_n C rfl dL_secondsOf_2 ?_
  refine z_iload_n C rfl dL_secondsOf_3 ?_
  refine z_callC 1 [zi p0] C rfl (hc.off F) rfl (zgoodV2 LWl_good (fun w h => ul_c h) wq169 wq170 wq171 (ul_c wc58) wq172) rfl rfl rfl (by decide +kernel) rfl (by rw [hR]; exact ⟨Nat.le_of_ble_eq_true rfl, Nat.le_of_ble_eq_true rfl⟩) hx (by rw [hR]; exact ⟨Nat.le_of_ble_eq_true rfl, Nat.le_of_ble_eq_true rfl⟩) (Nat.le_of_ble_eq_true rfl) dL_secondsOf_4 (fun v5 S5 h5 => ?_) (fun E5 S5 h5 => ?_)
  · obtain ⟨S1, hp, rfl, hof⟩ := h5
    obtain ⟨z, rfl⟩ := hv _ _ hp
    have hk9 : mK (mrg F S S1) o = 13 := (mrg_in hF).1.trans ho
    have hn9 : mN (mrg F S S1) o = 1 := (mrg_in hF).2.1.trans hn
    refine z_i2l C dL_secondsOf_7 ?_
    refine z_lastore C hk9 (by rw [hn9]; exact vp01) dL_secondsOf_8 ?_
    refine z_goto 15 C dL_secondsOf_9 (by decide) ?_
    refine z_iconst 0 (by decide) C dL_secondsOf_15 ?_
    refine z_ireturn C F9 (Nat.le_of_ble_eq_true rfl) (Nat.le_of_ble_eq_true rfl) dL_secondsOf_16 ?_
    exact Or.inl ⟨z, S1, hp, rfl, rfl, hof hFk⟩
  · obtain ⟨S1, hp, rfl, hof⟩ := h5
    obtain rfl := he _ _ hp
    refine z_catch 0 (q := (0, 9, 12, 21)) C N Nc rfl (by decide) (fun z hz => nomatch hz) ⟨by decide, by decide⟩ (by decide) (List.mem_cons_of_mem _ wq6) (fun r => ?_)
    refine z_astore_n [_, _, _, _] C (by decide) rfl dL_secondsOf_12 ?_
    refine z_iconst 1 (by decide) C dL_secondsOf_13 ?_
    refine z_ireturn C F9 (Nat.le_of_ble_eq_true rfl) (Nat.le_of_ble_eq_true rfl) dL_secondsOf_14 ?_
    exact Or.inr ⟨_, S1, 1, hp, List.mem_cons_self, rfl, rfl, hof hFk⟩
set_option maxRecDepth 100000 in
theorem W_common {l : Launch} (hl0 : l.stackTraces = false) {P : zP} {S : ZM} {F : Nat → Bool} {x o : Nat} (p0 p1 : Int32) (hF : F o = true) (ho : mK S o = 13) (hn : mN S o = 1) (hx : mK S x = 6) (hFk : ∀ b : Nat, F b = true → zkn (mK S b) = true) (hc : zMet l yX4_common (Cond.code yX4_common cX4_common 3 (some .int) :: LWc) ({ frames := 7, cells := 2, slots := 12, locals := 108 } : Room) 2 12 [zr (some x), zi p0, zi p1] (rsOff F S) P) (hv : ∀ (v : Option ZV) (S1 : ZM), P (.inl v) S1 → ∃ z : Int32, v = some (zi z)) (he : ∀ (E : String) (S1 : ZM), P (.inr E) S1 → E = "java/util/NoSuchElementException") : zMetN l yL_common (Cond.codeWith yL_common cL_common 5 (some .int) [(0, 10, 13, 21)] :: LWl) ({ frames := 8, cells := 2, slots := 12, locals := 130 } : Room) 2 12 [zr (some x), zi p0, zi p1, zr (some o)] S (WQ zi (ptI o) P [("java/util/NoSuchElementException", 1)] F S) := by
  refine zMetN.ofH [some (zr (some x)), some (zi p0), some (zi p1), some (zr (some o)), none] hl0 (by decide) rfl (Nat.le_of_ble_eq_true rfl) rfl ?_
  intro X C N Nc hR hX F9
  subst hX
  refine z_aload_n C rfl dL_common_0 ?_
  refine z_iconst 0 (by decide) C dL_common_1 ?_
  refine z_aload_n C rfl dL_common_2 ?_
  refine z_iload_n C rfl dL_common_3 ?_
  refine z_iload_n C rfl dL_common_4 ?_
  refine z_callC 2 [zi p0, zi p1] C rfl (hc.off F) rfl (zgoodV2 LWl_good (fun w h => ul_c h) wq173 wq174 wq175 (ul_c wc58) wq176) rfl rfl rfl (by decide +kernel) rfl (by rw [hR]; exact ⟨Nat.le_of_ble_eq_true rfl, Nat.le_of_ble_eq_true rfl⟩) hx (by rw [hR]; exact ⟨Nat.le_of_ble_eq_true rfl, Nat.le_of_ble_eq_true rfl⟩) (Nat.le_of_ble_eq_true rfl) dL_common_5 (fun v5 S5 h5 => ?_) (fun E5 S5 h5 => ?_)
  · obtain ⟨S1, hp, rfl, hof⟩ := h5
    obtain ⟨z, rfl⟩ := hv _ _ hp
    have hk9 : mK (mrg F S S1) o = 13 := (mrg_in hF).1.trans ho
    have hn9 : mN (mrg F S S1) o = 1 := (mrg_in hF).2.1.trans hn
    refine z_i2l C dL_common_8 ?_
    refine z_lastore C hk9 (by rw [hn9]; exact vp01) dL_common_9 ?_
    refine z_goto 17 C dL_common_10 (by decide) ?_
    refine z_iconst 0 (by decide) C dL_common_17 ?_
    refine z_ireturn C F9 (Nat.le_of_ble_eq_true rfl) (Nat.le_of_ble_eq_true rfl) dL_common_18 ?_
    exact Or.inl ⟨z, S1, hp, rfl, rfl, hof hFk⟩
  · obtain ⟨S1, hp, rfl, hof⟩ := h5
    obtain rfl := he _ _ hp
    refine z_catch 0 (q := (0, 10, 13, 21)) C N Nc rfl (by decide) (fun z hz => nomatch hz) ⟨by decide, by decide⟩ (by decide) (List.mem_cons_of_mem _ wq6) (fun r => ?_)
    refine z_astore [_, _, _, _, _] C (by decide) rfl dL_common_13 ?_
    refine z_iconst 1 (by decide) C dL_common_15 ?_
    refine z_ireturn C F9 (Nat.le_of_ble_eq_true rfl) (Nat.le_of_ble_eq_true rfl) dL_common_16 ?_
    exact Or.inr ⟨_, S1, 1, hp, List.mem_cons_self, rfl, rfl, hof hFk⟩
set_option maxRecDepth 100000 in
theorem W_dependsOn {l : Launch} (hl0 : l.stackTraces = false) {P : zP} {S : ZM} {F : Nat → Bool} {x o : Nat} (p0 p1 : Int32) (hF : F o = true) (ho : mK S o = 13) (hn : mN S o = 1) (hx : mK S x = 6) (hFk : ∀ b : Nat, F b = true → zkn (mK S b) = true) (hc : zMet l yX4_dependsOn (Cond.code yX4_dependsOn cX4_dependsOn 4 (some .boolean) :: LWc) ({ frames := 7, cells := 2, slots := 12, locals := 108 } : Room) 2 12 [zr (some x), zi p0, zi p1] (rsOff F S) P) (hv : ∀ (v : Option ZV) (S1 : ZM), P (.inl v) S1 → ∃ z : Int32, v = some (zi z)) (he : ∀ (E : String) (S1 : ZM), P (.inr E) S1 → E = "java/util/NoSuchElementException") : zMetN l yL_dependsOn (Cond.codeWith yL_dependsOn cL_dependsOn 5 (some .int) [(0, 17, 20, 21)] :: LWl) ({ frames := 8, cells := 2, slots := 12, locals := 131 } : Room) 2 12 [zr (some x), zi p0, zi p1, zr (some o)] S (WQ zi (ptB o) P [("java/util/NoSuchElementException", 1)] F S) := by
  refine zMetN.ofH [some (zr (some x)), some (zi p0), some (zi p1), some (zr (some o)), none] hl0 (by decide) rfl (Nat.le_of_ble_eq_true rfl) rfl ?_
  intro X C N Nc hR hX F9
  subst hX
  refine z_aload_n C rfl dL_dependsOn_0 ?_
  refine z_iconst 0 (by decide) C dL_dependsOn_1 ?_
  refine z_aload_n C rfl dL_dependsOn_2 ?_
  refine z_iload_n C rfl dL_dependsOn_3 ?_
  refine z_iload_n C rfl dL_dependsOn_4 ?_
  refine z_callC 2 [zi p0, zi p1] C rfl (hc.off F) rfl (zgoodV2 LWl_good (fun w h => ul_c h) wq177 wq178 wq179 (ul_c wc58) wq180) rfl rfl rfl (by decide +kernel) rfl (by rw [hR]; exact ⟨Nat.le_of_ble_eq_true rfl, Nat.le_of_ble_eq_true rfl⟩) hx (by rw [hR]; exact ⟨Nat.le_of_ble_eq_true rfl, Nat.le_of_ble_eq_true rfl⟩) (Nat.le_of_ble_eq_true rfl) dL_dependsOn_5 (fun v5 S5 h5 => ?_) (fun E5 S5 h5 => ?_)
  · obtain ⟨S1, hp, rfl, hof⟩ := h5
    obtain ⟨z, rfl⟩ := hv _ _ hp
    have hk9 : mK (mrg F S S1) o = 13 := (mrg_in hF).1.trans ho
    have hn9 : mN (mrg F S S1) o = 1 := (mrg_in hF).2.1.trans hn
    refine z_if_eq 15 C dL_dependsOn_8 (by decide) (fun c9 => ?_) (fun c9 => ?_)
    · refine z_lconst 0 (by decide) C dL_dependsOn_15 ?_
      refine z_lastore C hk9 (by rw [hn9]; exact vp01) dL_dependsOn_16 ?_
      refine z_goto 24 C dL_dependsOn_17 (by decide) ?_
      refine z_iconst 0 (by decide) C dL_dependsOn_24 ?_
      refine z_ireturn C F9 (Nat.le_of_ble_eq_true rfl) (Nat.le_of_ble_eq_true rfl) dL_dependsOn_25 ?_
      exact Or.inl ⟨z, S1, hp, rfl, by rw [ptB, if_pos c9]; rfl, hof hFk⟩
    · refine z_lconst 1 (by decide) C dL_dependsOn_11 ?_
      refine z_goto 16 C dL_dependsOn_12 (by decide) ?_
      refine z_lastore C hk9 (by rw [hn9]; exact vp01) dL_dependsOn_16 ?_
      refine z_goto 24 C dL_dependsOn_17 (by decide) ?_
      refine z_iconst 0 (by decide) C dL_dependsOn_24 ?_
      refine z_ireturn C F9 (Nat.le_of_ble_eq_true rfl) (Nat.le_of_ble_eq_true rfl) dL_dependsOn_25 ?_
      exact Or.inl ⟨z, S1, hp, rfl, by rw [ptB, if_neg c9]; rfl, hof hFk⟩
  · obtain ⟨S1, hp, rfl, hof⟩ := h5
    obtain rfl := he _ _ hp
    refine z_catch 0 (q := (0, 17, 20, 21)) C N Nc rfl (by decide) (fun z hz => nomatch hz) ⟨by decide, by decide⟩ (by decide) (List.mem_cons_of_mem _ wq6) (fun r => ?_)
    refine z_astore [_, _, _, _, _] C (by decide) rfl dL_dependsOn_20 ?_
    refine z_iconst 1 (by decide) C dL_dependsOn_22 ?_
    refine z_ireturn C F9 (Nat.le_of_ble_eq_true rfl) (Nat.le_of_ble_eq_true rfl) dL_dependsOn_23 ?_
    exact Or.inr ⟨_, S1, 1, hp, List.mem_cons_self, rfl, rfl, hof hFk⟩
set_option maxRecDepth 100000 in
theorem W_mixes {l : Launch} (hl0 : l.stackTraces = false) {P : zP} {S : ZM} {F : Nat → Bool} {x o : Nat} (p0 : Int32) (hF : F o = true) (ho : mK S o = 13) (hn : mN S o = 1) (hx : mK S x = 6) (hFk : ∀ b : Nat, F b = true → zkn (mK S b) = true) (hc : zMet l yX4_mixes (Cond.code yX4_mixes cX4_mixes 6 (some .int) :: LWc) ({ frames := 7, cells := 2, slots := 12, locals := 108 } : Room) 2 12 [zr (some x), zi p0] (rsOff F S) P) (hv : ∀ (v : Option ZV) (S1 : ZM), P (.inl v) S1 → ∃ z : Int32, v = some (zi z)) (he : ∀ (E : String) (S1 : ZM), P (.inr E) S1 → E = "java/util/NoSuchElementException" ∨ E = "java/lang/ArithmeticException") : zMetN l yL_mixes (Cond.codeWith yL_mixes cL_mixes 4 (some .int) [(0, 9, 12, 21), (0, 9, 15, 162)] :: LWl) ({ frames := 8, cells := 2, slots := 12, locals := 133 } : Room) 2 12 [zr (some x), zi p0, zr (some o)] S (WQ zi (ptI o) P [("java/util/NoSuchElementException", 1), ("java/lang/ArithmeticException", 2)] F S) := by
  refine zMetN.ofH [some (zr (some x)), some (zi p0), some (zr (some o)), none] hl0 (by decide) rfl (Nat.le_of_ble_eq_true rfl) rfl ?_
  intro X C N Nc hR hX F9
  subst hX
  refine z_aload_n C rfl dL_mixes_0 ?_
  refine z_iconst 0 (by decide) C dL_mixes_1 ?_
  refine z_aload_n C rfl dL_mixes_2 ?_
  refine z_iload_n C rfl dL_mixes_3 ?_
  refine z_callC 1 [zi p0] C rfl (hc.off F) rfl (zgoodV2 LWl_good (fun w h => ul_c h) wq182 wq183 wq184 (ul_c wc58) wq185) rfl rfl rfl (by decide +kernel) rfl (by rw [hR]; exact ⟨Nat.le_of_ble_eq_true rfl, Nat.le_of_ble_eq_true rfl⟩) hx (by rw [hR]; exact ⟨Nat.le_of_ble_eq_true rfl, Nat.le_of_ble_eq_true rfl⟩) (Nat.le_of_ble_eq_true rfl) dL_mixes_4 (fun v5 S5 h5 => ?_) (fun E5 S5 h5 => ?_)
  · obtain ⟨S1, hp, rfl, hof⟩ := h5
    obtain ⟨z, rfl⟩ := hv _ _ hp
    have hk9 : mK (mrg F S S1) o = 13 := (mrg_in hF).1.trans ho
    have hn9 : mN (mrg F S S1) o = 1 := (mrg_in hF).2.1.trans hn
    refine z_i2l C dL_mixes_7 ?_
    refine z_lastore C hk9 (by rw [hn9]; exact vp01) dL_mixes_8 ?_
    refine z_goto 18 C dL_mixes_9 (by decide) ?_
    refine z_iconst 0 (by decide) C dL_mixes_18 ?_
    refine z_ireturn C F9 (Nat.le_of_ble_eq_true rfl) (Nat.le_of_ble_eq_true rfl) dL_mixes_19 ?_
    exact Or.inl ⟨z, S1, hp, rfl, rfl, hof hFk⟩
  · obtain ⟨S1, hp, rfl, hof⟩ := h5
    rcases he _ _ hp with rfl | rfl
    · refine z_catch 0 (q := (0, 9, 12, 21)) C N Nc rfl (by decide) (fun z hz => nomatch hz) ⟨by decide, by decide⟩ (by decide) (List.mem_cons_of_mem _ wq6) (fun r => ?_)
      refine z_astore_n [_, _, _, _] C (by decide) rfl dL_mixes_12 ?_
      refine z_iconst 1 (by decide) C dL_mixes_13 ?_
      refine z_ireturn C F9 (Nat.le_of_ble_eq_true rfl) (Nat.le_of_ble_eq_true rfl) dL_mixes_14 ?_
      exact Or.inr ⟨_, S1, 1, hp, List.mem_cons_self, rfl, rfl, hof hFk⟩
    · refine z_catch 1 (q := (0, 9, 15, 162)) C N Nc rfl (by decide) (fun z hz => by obtain rfl := List.mem_singleton.mp hz; exact ⟨by decide, "java/util/NoSuchElementException", List.mem_cons_of_mem _ wq6, by decide, by decide⟩) ⟨by decide, by decide⟩ (by decide) (List.mem_cons_of_mem _ wq181) (fun r => ?_)
      refine z_astore_n [_, _, _, _] C (by decide) rfl dL_mixes_15 ?_
      refine z_iconst 2 (by decide) C dL_mixes_16 ?_
      refine z_ireturn C F9 (Nat.le_of_ble_eq_true rfl) (Nat.le_of_ble_eq_true rfl) dL_mixes_17 ?_
      exact Or.inr ⟨_, S1, 2, hp, List.mem_cons_of_mem _ (List.mem_cons_self), rfl, rfl, hof hFk⟩
set_option maxRecDepth 100000 in
theorem W_listedShare {l : Launch} (hl0 : l.stackTraces = false) {P : zP} {S : ZM} {F : Nat → Bool} {x o : Nat} (hF : F o = true) (ho : mK S o = 14) (hn : mN S o = 1) (hx : mK S x = 6) (hFk : ∀ b : Nat, F b = true → zkn (mK S b) = true) (hc : zMet l yX4_listedShare (Cond.code yX4_listedShare cX4_listedShare 3 (some .float) :: LWc) ({ frames := 6, cells := 1, slots := 6, locals := 86 } : Room) 1 6 [zr (some x)] (rsOff F S) P) (hv : ∀ (v : Option ZV) (S1 : ZM), P (.inl v) S1 → ∃ z : UInt32, v = some (zf z) ∧ vf_n64 (FP.f2d z)) (he : ∀ (E : String) (S1 : ZM), P (.inr E) S1 → E = "java/lang/ArithmeticException") : zMetN l yL_listedShare (Cond.codeWith yL_listedShare cL_listedShare 3 (some .int) [(0, 8, 11, 162)] :: LWl) ({ frames := 7, cells := 1, slots := 6, locals := 108 } : Room) 1 6 [zr (some x), zr (some o)] S (WQ zf (ptF o) P [("java/lang/ArithmeticException", 1)] F S) := by
  refine zMetN.ofH [some (zr (some x)), some (zr (some o)), none] hl0 (by decide) rfl (Nat.le_of_ble_eq_true rfl) rfl ?_
  intro X C N Nc hR hX F9
  subst hX
  refine z_aload_n C rfl dL_listedShare_0 ?_
  refine z_iconst 0 (by decide) C dL_listedShare_1 ?_
  refine z_aload_n C rfl dL_listedShare_2 ?_
  refine z_callC 0 [] C rfl (hc.off F) rfl (zgoodV2 LWl_good (fun w h => ul_c h) wq186 wq187 wq188 (ul_c wc58) wq189) rfl rfl rfl (by decide +kernel) rfl (by rw [hR]; exact ⟨Nat.le_of_ble_eq_true rfl, Nat.le_of_ble_eq_true rfl⟩) hx (by rw [hR]; exact ⟨Nat.le_of_ble_eq_true rfl, Nat.le_of_ble_eq_true rfl⟩) (Nat.le_of_ble_eq_true rfl) dL_listedShare_3 (fun v5 S5 h5 => ?_) (fun E5 S5 h5 => ?_)
  · obtain ⟨S1, hp, rfl, hof⟩ := h5
    obtain ⟨z, rfl, hz⟩ := hv _ _ hp
    have hk9 : mK (mrg F S S1) o = 14 := (mrg_in hF).1.trans ho
    have hn9 : mN (mrg F S S1) o = 1 := (mrg_in hF).2.1.trans hn
    refine z_f2d hz C dL_listedShare_6 ?_
    refine z_dastore C hk9 (by rw [hn9]; exact vp01) dL_listedShare_7 ?_
    refine z_goto 14 C dL_listedShare_8 (by decide) ?_
    refine z_iconst 0 (by decide) C dL_listedShare_14 ?_
    refine z_ireturn C F9 (Nat.le_of_ble_eq_true rfl) (Nat.le_of_ble_eq_true rfl) dL_listedShare_15 ?_
    exact Or.inl ⟨z, S1, hp, rfl, rfl, hof hFk⟩
  · obtain ⟨S1, hp, rfl, hof⟩ := h5
    obtain rfl := he _ _ hp
    refine z_catch 0 (q := (0, 8, 11, 162)) C N Nc rfl (by decide) (fun z hz => nomatch hz) ⟨by decide, by decide⟩ (by decide) (List.mem_cons_of_mem _ wq181) (fun r => ?_)
    refine z_astore_n [_, _, _] C (by decide) rfl dL_listedShare_11 ?_
    refine z_iconst 1 (by decide) C dL_listedShare_12 ?_
    refine z_ireturn C F9 (Nat.le_of_ble_eq_true rfl) (Nat.le_of_ble_eq_true rfl) dL_listedShare_13 ?_
    exact Or.inr ⟨_, S1, 1, hp, List.mem_cons_self, rfl, rfl, hof hFk⟩
set_option maxRecDepth 100000 in
theorem W_meanLength {l : Launch} (hl0 : l.stackTraces = false) {P : zP} {S : ZM} {F : Nat → Bool} {x o : Nat} (p0 : Int32) (hF : F o = true) (ho : mK S o = 14) (hn : mN S o = 1) (hx : mK S x = 6) (hFk : ∀ b : Nat, F b = true → zkn (mK S b) = true) (hc : zMet l yX4_meanLength (Cond.code yX4_meanLength cX4_meanLength 3 (some .double) :: LWc) ({ frames := 7, cells := 2, slots := 12, locals := 108 } : Room) 2 12 [zr (some x), zi p0] (rsOff F S) P) (hv : ∀ (v : Option ZV) (S1 : ZM), P (.inl v) S1 → ∃ z : UInt64, v = some (zd z)) (he : ∀ (E : String) (S1 : ZM), P (.inr E) S1 → E = "java/util/NoSuchElementException" ∨ E = "java/lang/ArithmeticException") : zMetN l yL_meanLength (Cond.codeWith yL_meanLength cL_meanLength 4 (some .int) [(0, 8, 11, 21), (0, 8, 14, 162)] :: LWl) ({ frames := 8, cells := 2, slots := 12, locals := 130 } : Room) 2 12 [zr (some x), zi p0, zr (some o)] S (WQ zd (ptD o) P [("java/util/NoSuchElementException", 1), ("java/lang/ArithmeticException", 2)] F S) := by
  refine zMetN.ofH [some (zr (some x)), some (zi p0), some (zr (some o)), none] hl0 (by decide) rfl (Nat.le_of_ble_eq_true rfl) rfl ?_
  intro X C N Nc hR hX F9
  subst hX
  refine z_aload_n C rfl dL_meanLength_0 ?_
  refine z_iconst 0 (by decide) C dL_meanLength_1 ?_
  refine z_aload_n C rfl dL_meanLength_2 ?_
  refine z_iload_n C rfl dL_meanLength_3 ?_
  refine z_callC 1 [zi p0] C rfl (hc.off F) rfl (zgoodV2 LWl_good (fun w h => ul_c h) wq190 wq191 wq192 (ul_c wc58) wq193) rfl rfl rfl (by decide +kernel) rfl (by rw [hR]; exact ⟨Nat.le_of_ble_eq_true rfl, Nat.le_of_ble_eq_true rfl⟩) hx (by rw [hR]; exact ⟨Nat.le_of_ble_eq_true rfl, Nat.le_of_ble_eq_true rfl⟩) (Nat.le_of_ble_eq_true rfl) dL_meanLength_4 (fun v5 S5 h5 => ?_) (fun E5 S5 h5 => ?_)
  · obtain ⟨S1, hp, rfl, hof⟩ := h5
    obtain ⟨z, rfl⟩ := hv _ _ hp
    have hk9 : mK (mrg F S S1) o = 14 := (mrg_in hF).1.trans ho
    have hn9 : mN (mrg F S S1) o = 1 := (mrg_in hF).2.1.trans hn
    refine z_dastore C hk9 (by rw [hn9]; exact vp01) dL_meanLength_7 ?_
    refine z_goto 17 C dL_meanLength_8 (by decide) ?_
    refine z_iconst 0 (by decide) C dL_meanLength_17 ?_
    refine z_ireturn C F9 (Nat.le_of_ble_eq_true rfl) (Nat.le_of_ble_eq_true rfl) dL_meanLength_18 ?_
    exact Or.inl ⟨z, S1, hp, rfl, rfl, hof hFk⟩
  · obtain ⟨S1, hp, rfl, hof⟩ := h5
    rcases he _ _ hp with rfl | rfl
    · refine z_catch 0 (q := (0, 8, 11, 21)) C N Nc rfl (by decide) (fun z hz => nomatch hz) ⟨by decide, by decide⟩ (by decide) (List.mem_cons_of_mem _ wq6) (fun r => ?_)
      refine z_astore_n [_, _, _, _] C (by decide) rfl dL_meanLength_11 ?_
      refine z_iconst 1 (by decide) C dL_meanLength_12 ?_
      refine z_ireturn C F9 (Nat.le_of_ble_eq_true rfl) (Nat.le_of_ble_eq_true rfl) dL_meanLength_13 ?_
      exact Or.inr ⟨_, S1, 1, hp, List.mem_cons_self, rfl, rfl, hof hFk⟩
    · refine z_catch 1 (q := (0, 8, 14, 162)) C N Nc rfl (by decide) (fun z hz => by obtain rfl := List.mem_singleton.mp hz; exact ⟨by decide, "java/util/NoSuchElementException", List.mem_cons_of_mem _ wq6, by decide, by decide⟩) ⟨by decide, by decide⟩ (by decide) (List.mem_cons_of_mem _ wq181) (fun r => ?_)
      refine z_astore_n [_, _, _, _] C (by decide) rfl dL_meanLength_14 ?_
      refine z_iconst 2 (by decide) C dL_meanLength_15 ?_
      refine z_ireturn C F9 (Nat.le_of_ble_eq_true rfl) (Nat.le_of_ble_eq_true rfl) dL_meanLength_16 ?_
      exact Or.inr ⟨_, S1, 2, hp, List.mem_cons_of_mem _ (List.mem_cons_self), rfl, rfl, hof hFk⟩
