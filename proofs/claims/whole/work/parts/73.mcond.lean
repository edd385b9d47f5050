/-! the reference: what its conditions say -/
section ZKN
variable {X : zX} {nL : Nat} {k n : Nat} {S : ZM} {pc : Nat} {ls : List (Option ZV)} {st : List ZV}
theorem z_memM {D1 : ZD} {J1 : Nat → Int64} {M : Nat} {r : Nat → Nat} (hM : mR D1 J1 S M r) (h : ∀ S1 : ZM, mR D1 J1 S1 M r → zW X nL k n S1 pc ls st) : zW X nL k n S pc ls st := h S hM
end ZKN
theorem in_lt {x c : Int32} {n : Nat} (hn : n ≤ 2 ^ 20) (hc : c = nI n) : (0 ≤ x ∧ x ≤ c - 1) ↔ ∃ t : Nat, t < n ∧ x = nI t := by
  subst hc
  cases n with
  | zero =>
    constructor
    · rintro ⟨h1, h2⟩
      exact absurd (Int32.le_trans h1 h2) (by decide)
    · rintro ⟨t, ht, -⟩; omega
  | succ n =>
    rw [nI_pred]
    constructor
    · rintro ⟨h1, h2⟩
      obtain ⟨t, e, ht⟩ := in_nI h1 h2 (by omega)
      exact ⟨t, by omega, e⟩
    · rintro ⟨t, ht, rfl⟩
      exact ⟨nI_pos' (by omega), nI_le (by omega) (by omega)⟩
theorem b_ft {P : Prop} (h : false = true ↔ P) : ¬ P := fun p => Bool.noConfusion (h.mpr p)
theorem b_tf {P : Prop} (h : true = false ↔ P) : ¬ P := fun p => Bool.noConfusion (h.mpr p)
theorem bI_nar (b : Bool) : narrow .boolean (.int (bI b)) = .int (bI b) := by cases b <;> decide
/-- the ones among the first bits -/
def ctF (s : Int32) : Nat → Int32
  | 0 => 0
  | k + 1 => ctF s k + ((s >>> (nI k &&& 31)) &&& 1)
theorem n_ge {a b : Nat} (h : a < b) (hb : b < 2 ^ 31) : ¬ nI b ≤ nI a := nI_ge h hb

set_option maxRecDepth 100000 in
set_option maxHeartbeats 4000000 in
theorem M_in {l : Launch} (hl0 : l.stackTraces = false) {S : ZM} (x a c : Int32) : zMet l yX5_in (Cond.code yX5_in cX5_in 3 (some .boolean) :: LWm) ({ frames := 0, cells := 0, slots := 0, locals := 0 } : Room) 0 0 [zi x, zi a, zi c] S (zPo (fun v S' => ∃ b : Bool, v = some (zi (bI b)) ∧ (b = true ↔ a ≤ x ∧ x ≤ c) ∧ S' = S) (fun _ _ => False)) := by
  refine zMet.of' [some (zi x), some (zi a), some (zi c)] hl0 (by decide) rfl (Nat.le_of_ble_eq_true rfl) rfl ?_
  intro X C N hR hN0 hX F
  subst hX
  refine z_iload_n C rfl dX5_in_0 ?_
  refine z_iload_n C rfl dX5_in_1 ?_
  refine z_icmp_lt 14 C dX5_in_2 (by decide) (fun c2 => ?_) (fun c2 => ?_)
  · refine z_iconst 0 (by decide) C dX5_in_14 ?_
    refine z_zreturn C F (Nat.le_of_ble_eq_true rfl) (Nat.le_of_ble_eq_true rfl) (by decide) dX5_in_15 ?_
    exact ⟨false, rfl, ⟨fun q => (by cases q), fun q => absurd q.1 (Int32.not_le.mpr c2)⟩, rfl⟩
  · refine z_iload_n C rfl dX5_in_5 ?_
    refine z_iload_n C rfl dX5_in_6 ?_
    refine z_icmp_gt 14 C dX5_in_7 (by decide) (fun c7 => ?_) (fun c7 => ?_)
    · refine z_iconst 0 (by decide) C dX5_in_14 ?_
      refine z_zreturn C F (Nat.le_of_ble_eq_true rfl) (Nat.le_of_ble_eq_true rfl) (by decide) dX5_in_15 ?_
      exact ⟨false, rfl, ⟨fun q => (by cases q), fun q => absurd q.2 (Int32.not_le.mpr c7)⟩, rfl⟩
    · refine z_iconst 1 (by decide) C dX5_in_10 ?_
      refine z_goto 15 C dX5_in_11 (by decide) ?_
      refine z_zreturn C F (Nat.le_of_ble_eq_true rfl) (Nat.le_of_ble_eq_true rfl) (by decide) dX5_in_15 ?_
      exact ⟨true, rfl, ⟨fun _ => ⟨Int32.not_lt.mp c2, Int32.not_lt.mp c7⟩, fun _ => rfl⟩, rfl⟩
set_option maxRecDepth 100000 in
set_option maxHeartbeats 4000000 in
theorem M_fails0 {l : Launch} (hl0 : l.stackTraces = false) {D : ZD} {J : Nat → Int64} {S : ZM} {M : Nat} {r : Nat → Nat} (hM : mR D J S M r) (h39 : D 39 0 = 0) (x e : Int32) (hx : x = 0) : zMet l yX5_fails (Cond.code yX5_fails cX5_fails 3 (some .boolean) :: LWm) ({ frames := 0, cells := 0, slots := 0, locals := 0 } : Room) 0 0 [zr (some M), zi x, zi e] S (zPo (fun v S' => v = some (zi 0) ∧ S' = S) (fun _ _ => False)) := by
  refine zMet.of' [some (zr (some M)), some (zi x), some (zi e)] hl0 (by decide) rfl (Nat.le_of_ble_eq_true rfl) rfl ?_
  intro X C N hR hN0 hX F
  subst hX
  subst hx
  refine z_iload_n C rfl dX5_fails_0 ?_
  refine z_if_eq 16 C dX5_fails_1 (by decide) (fun _ => ?_) (fun c1 => absurd c1 (by decide))
  refine z_aload_n C rfl dX5_fails_16 ?_
  refine zg5_thrown C (fun w h => List.mem_cons_of_mem _ (um_wsX50 w h)) hM.1 (List.mem_cons_of_mem _ wm33) dX5_fails_17 ?_
  refine z_int (hM.i 39 rfl) ?_
  refine z_int h39 ?_
  refine z_if_eq 27 C dX5_fails_20 (by decide) (fun _ => ?_) (fun c20 => absurd c20 (by decide))
  refine z_iconst 0 (by decide) C dX5_fails_27 ?_
  refine z_zreturn C F (Nat.le_of_ble_eq_true rfl) (Nat.le_of_ble_eq_true rfl) (by decide) dX5_fails_28 ?_
  exact ⟨rfl, rfl⟩
set_option maxRecDepth 100000 in
set_option maxHeartbeats 4000000 in
theorem M_fails1 {l : Launch} (hl0 : l.stackTraces = false) {D : ZD} {J : Nat → Int64} {S : ZM} {M : Nat} {r : Nat → Nat} (hM : mR D J S M r) (h39 : D 39 0 = 0) (x e : Int32) (hx : ¬ x = 0 ∧ ¬ e = 0) : zMet l yX5_fails (Cond.code yX5_fails cX5_fails 3 (some .boolean) :: LWm) ({ frames := 0, cells := 0, slots := 0, locals := 0 } : Room) 0 0 [zr (some M), zi x, zi e] S (zPo (fun v S' => v = some (zi 1) ∧ mR (s39 D e) J S' M r) (fun _ _ => False)) := by
  refine zMet.of' [some (zr (some M)), some (zi x), some (zi e)] hl0 (by decide) rfl (Nat.le_of_ble_eq_true rfl) rfl ?_
  intro X C N hR hN0 hX F
  subst hX
  refine z_iload_n C rfl dX5_fails_0 ?_
  refine z_if_eq 16 C dX5_fails_1 (by decide) (fun c1 => ?_) (fun c1 => ?_)
  · exact absurd c1 hx.1
  · refine z_aload_n C rfl dX5_fails_4 ?_
    refine zg5_thrown C (fun w h => List.mem_cons_of_mem _ (um_wsX50 w h)) hM.1 (List.mem_cons_of_mem _ wm33) dX5_fails_5 ?_
    refine z_int (hM.i 39 rfl) ?_
    refine z_int h39 ?_
    refine z_if_ne 16 C dX5_fails_8 (by decide) (fun c8 => absurd c8 (by decide)) (fun _ => ?_)
    refine z_aload_n C rfl dX5_fails_11 ?_
    refine z_iload_n C rfl dX5_fails_12 ?_
    refine zp5_thrown C (fun w h => List.mem_cons_of_mem _ (um_wsX50 w h)) hM.1 (List.mem_cons_of_mem _ wm33) dX5_fails_13 ?_
    refine z_memM (hM.sI 39 rfl _) (fun S13 hM => ?_)
    refine z_aload_n C rfl dX5_fails_16 ?_
    refine zg5_thrown C (fun w h => List.mem_cons_of_mem _ (um_wsX50 w h)) hM.1 (List.mem_cons_of_mem _ wm33) dX5_fails_17 ?_
    refine z_int (hM.i 39 rfl) ?_
    refine z_int (x' := e) ((congrFun dS_self 0).trans up1_self) ?_
    refine z_if_eq 27 C dX5_fails_20 (by decide) (fun c20 => ?_) (fun c20 => ?_)
    · exact absurd c20 hx.2
    · refine z_iconst 1 (by decide) C dX5_fails_23 ?_
      refine z_goto 28 C dX5_fails_24 (by decide) ?_
      refine z_zreturn C F (Nat.le_of_ble_eq_true rfl) (Nat.le_of_ble_eq_true rfl) (by decide) dX5_fails_28 ?_
      exact ⟨rfl, hM⟩
set_option maxRecDepth 100000 in
set_option maxHeartbeats 4000000 in
theorem M_thrown {l : Launch} (hl0 : l.stackTraces = false) {D : ZD} {J : Nat → Int64} {S : ZM} {M : Nat} {r : Nat → Nat} (hM : mR D J S M r) : zMet l yX5_thrown (Cond.code yX5_thrown cX5_thrown 1 (some .int) :: LWm) ({ frames := 0, cells := 0, slots := 0, locals := 0 } : Room) 0 0 [zr (some M)] S (zPo (fun v S' => v = some (zi (D 39 0)) ∧ S' = S) (fun _ _ => False)) := by
  refine zMet.of' [some (zr (some M))] hl0 (by decide) rfl (Nat.le_of_ble_eq_true rfl) rfl ?_
  intro X C N hR hN0 hX F
  subst hX
  refine z_aload_n C rfl dX5_thrown_0 ?_
  refine zg5_thrown C (fun w h => List.mem_cons_of_mem _ (um_wsX50 w h)) hM.1 (List.mem_cons_of_mem _ wm33) dX5_thrown_1 ?_
  refine z_int (hM.i 39 rfl) ?_
  refine z_ireturn C F (Nat.le_of_ble_eq_true rfl) (Nat.le_of_ble_eq_true rfl) dX5_thrown_4 ?_
  exact ⟨rfl, rfl⟩
set_option maxRecDepth 100000 in
set_option maxHeartbeats 4000000 in
theorem M_noTrack {l : Launch} (hl0 : l.stackTraces = false) {D : ZD} {J : Nat → Int64} {S : ZM} {M : Nat} {r : Nat → Nat} (hM : mR D J S M r) (hN : wfN D) (x : Int32) : zMet l yX5_noTrack (Cond.code yX5_noTrack cX5_noTrack 2 (some .boolean) :: LWm) ({ frames := 1, cells := 0, slots := 0, locals := 22 } : Room) 0 0 [zr (some M), zi x] S (zPo (fun v S' => ∃ b : Bool, v = some (zi (bI b)) ∧ (b = false ↔ hasTr D x) ∧ S' = S) (fun _ _ => False)) := by
  refine zMet.of' [some (zr (some M)), some (zi x)] hl0 (by decide) rfl (Nat.le_of_ble_eq_true rfl) rfl ?_
  intro X C N hR hN0 hX F
  subst hX
  refine z_iload_n C rfl dX5_noTrack_0 ?_
  refine z_iconst 0 (by decide) C dX5_noTrack_1 ?_
  refine z_aload_n C rfl dX5_noTrack_2 ?_
  refine zg5_tracks C (fun w h => List.mem_cons_of_mem _ (um_wsX50 w h)) hM.1 (List.mem_cons_of_mem _ wm34) dX5_noTrack_3 ?_
  refine z_int (hM.i 41 rfl) ?_
  refine z_iconst 1 (by decide) C dX5_noTrack_6 ?_
  refine z_isub C dX5_noTrack_7 ?_
  refine z_callS 3 [zi x, zi 0, zi (D 41 0 - 1)] C (M_in hl0 x 0 (D 41 0 - 1)) rfl (zgoodS LWm_good wm35 wm36 wm37 wm38) rfl rfl rfl (by decide +kernel) rfl (by rw [hR]; exact ⟨Nat.le_of_ble_eq_true rfl, Nat.le_of_ble_eq_true rfl⟩) (by rw [hR]; exact ⟨Nat.le_of_ble_eq_true rfl, Nat.le_of_ble_eq_true rfl⟩) (Nat.le_of_ble_eq_true rfl) dX5_noTrack_8 (fun v8 S8 h8 => ?_) (fun E8 S8 h8 => ?_)
  · obtain ⟨b8, rfl, hb8, q8⟩ := h8
    subst S8
    cases b8 with
    | false =>
      have y8 := b_ft hb8
      refine z_if_eq 23 C dX5_noTrack_11 (by decide) (fun _ => ?_) (fun c11 => absurd c11 (by decide))
      refine z_iconst 1 (by decide) C dX5_noTrack_23 ?_
      refine z_goto 28 C dX5_noTrack_24 (by decide) ?_
      refine z_zreturn C F (Nat.le_of_ble_eq_true rfl) (Nat.le_of_ble_eq_true rfl) (by decide) dX5_noTrack_28 ?_
      exact ⟨true, rfl, ⟨fun q => (by cases q), fun q => by
        obtain ⟨t2, -, e2, hp⟩ := q
        exact (y8 ((in_lt (by have := hN.1.2; omega) hN.1.1).mpr ⟨t2, prD_lt hp, e2⟩)).elim⟩, rfl⟩
    | true =>
      have y8 := hb8.mp rfl
      refine z_if_eq 23 C dX5_noTrack_11 (by decide) (fun c11 => absurd c11 (by decide)) (fun _ => ?_)
      obtain ⟨t, ht, et⟩ := (in_lt (by have := hN.1.2; omega) hN.1.1).mp y8
      have h24 : t < 24 := by have := hN.1.2; omega
      refine z_aload_n C rfl dX5_noTrack_14 ?_
      refine zg5_isRemoved C (fun w h => List.mem_cons_of_mem _ (um_wsX50 w h)) hM.1 (List.mem_cons_of_mem _ wm10) dX5_noTrack_15 ?_
      refine z_ref (hM.q 47 rfl) ?_
      refine z_iload_n C rfl dX5_noTrack_18 ?_
      refine z_zaload C (hM.k 47 rfl) (hM.b' 47 rfl (⟨t, et, h24⟩) (by decide)) dX5_noTrack_19 ?_
      refine z_int (hM.t 47 rfl (by decide) _) ?_
      refine z_int (x' := D 47 t) (by rw [et]; exact congrArg _ (nI_clamp (by omega))) ?_
      refine z_if_eq 27 C dX5_noTrack_20 (by decide) (fun c20 => ?_) (fun c20 => ?_)
      · refine z_iconst 0 (by decide) C dX5_noTrack_27 ?_
        refine z_zreturn C F (Nat.le_of_ble_eq_true rfl) (Nat.le_of_ble_eq_true rfl) (by decide) dX5_noTrack_28 ?_
        exact ⟨false, rfl, ⟨fun _ => ⟨t, h24, et, by unfold prD; rw [decide_eq_true ht, c20]; rfl⟩, fun _ => rfl⟩, rfl⟩
      · refine z_iconst 1 (by decide) C dX5_noTrack_23 ?_
        refine z_goto 28 C dX5_noTrack_24 (by decide) ?_
        refine z_zreturn C F (Nat.le_of_ble_eq_true rfl) (Nat.le_of_ble_eq_true rfl) (by decide) dX5_noTrack_28 ?_
        exact ⟨true, rfl, ⟨fun q => (by cases q), fun q => by
          obtain ⟨t2, w1, e2, hp⟩ := q
          have e3 : t = t2 := nI_inj (by omega) (by omega) (et.symm.trans e2)
          subst e3
          exact absurd (by have := hp; unfold prD at this; rw [Bool.and_eq_true, decide_eq_true_eq, decide_eq_true_eq] at this; exact this.2) c20⟩, rfl⟩
  · exact h8.elim
set_option maxRecDepth 100000 in
set_option maxHeartbeats 4000000 in
theorem M_noTag {l : Launch} (hl0 : l.stackTraces = false) {D : ZD} {J : Nat → Int64} {S : ZM} {M : Nat} {r : Nat → Nat} (hM : mR D J S M r) (hN : wfN D) (x : Int32) : zMet l yX5_noTag (Cond.code yX5_noTag cX5_noTag 2 (some .boolean) :: LWm) ({ frames := 1, cells := 0, slots := 0, locals := 22 } : Room) 0 0 [zr (some M), zi x] S (zPo (fun v S' => ∃ b : Bool, v = some (zi (bI b)) ∧ (b = false ↔ hasTg D x) ∧ S' = S) (fun _ _ => False)) := by
  refine zMet.of' [some (zr (some M)), some (zi x)] hl0 (by decide) rfl (Nat.le_of_ble_eq_true rfl) rfl ?_
  intro X C N hR hN0 hX F
  subst hX
  refine z_iload_n C rfl dX5_noTag_0 ?_
  refine z_iconst 0 (by decide) C dX5_noTag_1 ?_
  refine z_aload_n C rfl dX5_noTag_2 ?_
  refine zg5_tags C (fun w h => List.mem_cons_of_mem _ (um_wsX50 w h)) hM.1 (List.mem_cons_of_mem _ wm39) dX5_noTag_3 ?_
  refine z_int (hM.i 48 rfl) ?_
  refine z_iconst 1 (by decide) C dX5_noTag_6 ?_
  refine z_isub C dX5_noTag_7 ?_
  refine z_callS 3 [zi x, zi 0, zi (D 48 0 - 1)] C (M_in hl0 x 0 (D 48 0 - 1)) rfl (zgoodS LWm_good wm35 wm36 wm37 wm38) rfl rfl rfl (by decide +kernel) rfl (by rw [hR]; exact ⟨Nat.le_of_ble_eq_true rfl, Nat.le_of_ble_eq_true rfl⟩) (by rw [hR]; exact ⟨Nat.le_of_ble_eq_true rfl, Nat.le_of_ble_eq_true rfl⟩) (Nat.le_of_ble_eq_true rfl) dX5_noTag_8 (fun v8 S8 h8 => ?_) (fun E8 S8 h8 => ?_)
  · obtain ⟨b8, rfl, hb8, q8⟩ := h8
    subst S8
    cases b8 with
    | false =>
      have y8 := b_ft hb8
      refine z_if_eq 23 C dX5_noTag_11 (by decide) (fun _ => ?_) (fun c11 => absurd c11 (by decide))
      refine z_iconst 1 (by decide) C dX5_noTag_23 ?_
      refine z_goto 28 C dX5_noTag_24 (by decide) ?_
      refine z_zreturn C F (Nat.le_of_ble_eq_true rfl) (Nat.le_of_ble_eq_true rfl) (by decide) dX5_noTag_28 ?_
      exact ⟨true, rfl, ⟨fun q => (by cases q), fun q => by
        obtain ⟨t2, -, w, e2, hp⟩ := q
        exact (y8 ((in_lt (by have := hN.2.1.2; omega) hN.2.1.1).mpr ⟨t2, w, e2⟩)).elim⟩, rfl⟩
    | true =>
      have y8 := hb8.mp rfl
      refine z_if_eq 23 C dX5_noTag_11 (by decide) (fun c11 => absurd c11 (by decide)) (fun _ => ?_)
      obtain ⟨t, ht, et⟩ := (in_lt (by have := hN.2.1.2; omega) hN.2.1.1).mp y8
      have h16 : t < 16 := by have := hN.2.1.2; omega
      refine z_aload_n C rfl dX5_noTag_14 ?_
      refine zg5_isGone C (fun w h => List.mem_cons_of_mem _ (um_wsX50 w h)) hM.1 (List.mem_cons_of_mem _ wm14) dX5_noTag_15 ?_
      refine z_ref (hM.q 51 rfl) ?_
      refine z_iload_n C rfl dX5_noTag_18 ?_
      refine z_zaload C (hM.k 51 rfl) (hM.b' 51 rfl (⟨t, et, h16⟩) (by decide)) dX5_noTag_19 ?_
      refine z_int (hM.t 51 rfl (by decide) _) ?_
      refine z_int (x' := D 51 t) (by rw [et]; exact congrArg _ (nI_clamp (by omega))) ?_
      refine z_if_eq 27 C dX5_noTag_20 (by decide) (fun c20 => ?_) (fun c20 => ?_)
      · refine z_iconst 0 (by decide) C dX5_noTag_27 ?_
        refine z_zreturn C F (Nat.le_of_ble_eq_true rfl) (Nat.le_of_ble_eq_true rfl) (by decide) dX5_noTag_28 ?_
        exact ⟨false, rfl, ⟨fun _ => ⟨t, h16, ht, et, c20⟩, fun _ => rfl⟩, rfl⟩
      · refine z_iconst 1 (by decide) C dX5_noTag_23 ?_
        refine z_goto 28 C dX5_noTag_24 (by decide) ?_
        refine z_zreturn C F (Nat.le_of_ble_eq_true rfl) (Nat.le_of_ble_eq_true rfl) (by decide) dX5_noTag_28 ?_
        exact ⟨true, rfl, ⟨fun q => (by cases q), fun q => by
          obtain ⟨t2, w1, w, e2, hp⟩ := q
          have e3 : t = t2 := nI_inj (by omega) (by omega) (et.symm.trans e2)
          subst e3
          exact absurd (by exact hp) c20⟩, rfl⟩
  · exact h8.elim
set_option maxRecDepth 100000 in
set_option maxHeartbeats 4000000 in
theorem M_noRule {l : Launch} (hl0 : l.stackTraces = false) {D : ZD} {J : Nat → Int64} {S : ZM} {M : Nat} {r : Nat → Nat} (hM : mR D J S M r) (hN : wfN D) (x : Int32) : zMet l yX5_noRule (Cond.code yX5_noRule cX5_noRule 2 (some .boolean) :: LWm) ({ frames := 1, cells := 0, slots := 0, locals := 22 } : Room) 0 0 [zr (some M), zi x] S (zPo (fun v S' => ∃ b : Bool, v = some (zi (bI b)) ∧ (b = false ↔ hasRl D x) ∧ S' = S) (fun _ _ => False)) := by
  refine zMet.of' [some (zr (some M)), some (zi x)] hl0 (by decide) rfl (Nat.le_of_ble_eq_true rfl) rfl ?_
  intro X C N hR hN0 hX F
  subst hX
  refine z_iload_n C rfl dX5_noRule_0 ?_
  refine z_iconst 0 (by decide) C dX5_noRule_1 ?_
  refine z_aload_n C rfl dX5_noRule_2 ?_
  refine zg5_rules C (fun w h => List.mem_cons_of_mem _ (um_wsX50 w h)) hM.1 (List.mem_cons_of_mem _ wm40) dX5_noRule_3 ?_
  refine z_int (hM.i 52 rfl) ?_
  refine z_iconst 1 (by decide) C dX5_noRule_6 ?_
  refine z_isub C dX5_noRule_7 ?_
  refine z_callS 3 [zi x, zi 0, zi (D 52 0 - 1)] C (M_in hl0 x 0 (D 52 0 - 1)) rfl (zgoodS LWm_good wm35 wm36 wm37 wm38) rfl rfl rfl (by decide +kernel) rfl (by rw [hR]; exact ⟨Nat.le_of_ble_eq_true rfl, Nat.le_of_ble_eq_true rfl⟩) (by rw [hR]; exact ⟨Nat.le_of_ble_eq_true rfl, Nat.le_of_ble_eq_true rfl⟩) (Nat.le_of_ble_eq_true rfl) dX5_noRule_8 (fun v8 S8 h8 => ?_) (fun E8 S8 h8 => ?_)
  · obtain ⟨b8, rfl, hb8, q8⟩ := h8
    subst S8
    cases b8 with
    | false =>
      have y8 := b_ft hb8
      refine z_if_ne 18 C dX5_noRule_11 (by decide) (fun c11 => absurd c11 (by decide)) (fun _ => ?_)
      refine z_iconst 1 (by decide) C dX5_noRule_14 ?_
      refine z_goto 19 C dX5_noRule_15 (by decide) ?_
      refine z_zreturn C F (Nat.le_of_ble_eq_true rfl) (Nat.le_of_ble_eq_true rfl) (by decide) dX5_noRule_19 ?_
      exact ⟨true, rfl, ⟨fun q => (by cases q), fun q => by
        obtain ⟨t2, -, w, e2⟩ := q
        exact (y8 ((in_lt (by have := hN.2.2.1.2; omega) hN.2.2.1.1).mpr ⟨t2, w, e2⟩)).elim⟩, rfl⟩
    | true =>
      have y8 := hb8.mp rfl
      refine z_if_ne 18 C dX5_noRule_11 (by decide) (fun _ => ?_) (fun c11 => absurd c11 (by decide))
      refine z_iconst 0 (by decide) C dX5_noRule_18 ?_
      refine z_zreturn C F (Nat.le_of_ble_eq_true rfl) (Nat.le_of_ble_eq_true rfl) (by decide) dX5_noRule_19 ?_
      obtain ⟨t, ht, et⟩ := (in_lt (by have := hN.2.2.1.2; omega) hN.2.2.1.1).mp y8
      exact ⟨false, rfl, ⟨fun _ => ⟨t, by have := hN.2.2.1.2; omega, ht, et⟩, fun _ => rfl⟩, rfl⟩
  · exact h8.elim
set_option maxRecDepth 100000 in
set_option maxHeartbeats 4000000 in
theorem M_noList {l : Launch} (hl0 : l.stackTraces = false) {D : ZD} {J : Nat → Int64} {S : ZM} {M : Nat} {r : Nat → Nat} (hM : mR D J S M r) (hN : wfN D) (x : Int32) : zMet l yX5_noList (Cond.code yX5_noList cX5_noList 2 (some .boolean) :: LWm) ({ frames := 1, cells := 0, slots := 0, locals := 22 } : Room) 0 0 [zr (some M), zi x] S (zPo (fun v S' => ∃ b : Bool, v = some (zi (bI b)) ∧ (b = false ↔ hasLs D x) ∧ S' = S) (fun _ _ => False)) := by
  refine zMet.of' [some (zr (some M)), some (zi x)] hl0 (by decide) rfl (Nat.le_of_ble_eq_true rfl) rfl ?_
  intro X C N hR hN0 hX F
  subst hX
  refine z_iload_n C rfl dX5_noList_0 ?_
  refine z_iconst 0 (by decide) C dX5_noList_1 ?_
  refine z_aload_n C rfl dX5_noList_2 ?_
  refine zg5_lists C (fun w h => List.mem_cons_of_mem _ (um_wsX50 w h)) hM.1 (List.mem_cons_of_mem _ wm41) dX5_noList_3 ?_
  refine z_int (hM.i 57 rfl) ?_
  refine z_iconst 1 (by decide) C dX5_noList_6 ?_
  refine z_isub C dX5_noList_7 ?_
  refine z_callS 3 [zi x, zi 0, zi (D 57 0 - 1)] C (M_in hl0 x 0 (D 57 0 - 1)) rfl (zgoodS LWm_good wm35 wm36 wm37 wm38) rfl rfl rfl (by decide +kernel) rfl (by rw [hR]; exact ⟨Nat.le_of_ble_eq_true rfl, Nat.le_of_ble_eq_true rfl⟩) (by rw [hR]; exact ⟨Nat.le_of_ble_eq_true rfl, Nat.le_of_ble_eq_true rfl⟩) (Nat.le_of_ble_eq_true rfl) dX5_noList_8 (fun v8 S8 h8 => ?_) (fun E8 S8 h8 => ?_)
  · obtain ⟨b8, rfl, hb8, q8⟩ := h8
    subst S8
    cases b8 with
    | false =>
      have y8 := b_ft hb8
      refine z_if_ne 18 C dX5_noList_11 (by decide) (fun c11 => absurd c11 (by decide)) (fun _ => ?_)
      refine z_iconst 1 (by decide) C dX5_noList_14 ?_
      refine z_goto 19 C dX5_noList_15 (by decide) ?_
      refine z_zreturn C F (Nat.le_of_ble_eq_true rfl) (Nat.le_of_ble_eq_true rfl) (by decide) dX5_noList_19 ?_
      exact ⟨true, rfl, ⟨fun q => (by cases q), fun q => by
        obtain ⟨t2, -, w, e2⟩ := q
        exact (y8 ((in_lt (by have := hN.2.2.2.2; omega) hN.2.2.2.1).mpr ⟨t2, w, e2⟩)).elim⟩, rfl⟩
    | true =>
      have y8 := hb8.mp rfl
      refine z_if_ne 18 C dX5_noList_11 (by decide) (fun _ => ?_) (fun c11 => absurd c11 (by decide))
      refine z_iconst 0 (by decide) C dX5_noList_18 ?_
      refine z_zreturn C F (Nat.le_of_ble_eq_true rfl) (Nat.le_of_ble_eq_true rfl) (by decide) dX5_noList_19 ?_
      obtain ⟨t, ht, et⟩ := (in_lt (by have := hN.2.2.2.2; omega) hN.2.2.2.1).mp y8
      exact ⟨false, rfl, ⟨fun _ => ⟨t, by have := hN.2.2.2.2; omega, ht, et⟩, fun _ => rfl⟩, rfl⟩
  · exact h8.elim
set_option maxRecDepth 100000 in
set_option maxHeartbeats 4000000 in
theorem M_isOrder {l : Launch} (hl0 : l.stackTraces = false) {S : ZM} (x : Int32) : zMet l yX5_isOrder (Cond.code yX5_isOrder cX5_isOrder 1 (some .boolean) :: LWm) ({ frames := 0, cells := 0, slots := 0, locals := 0 } : Room) 0 0 [zi x] S (zPo (fun v S' => ∃ b : Bool, v = some (zi (bI b)) ∧ (b = true ↔ (x = 115 ∨ x = 114 ∨ x = 112 ∨ x = 110)) ∧ S' = S) (fun _ _ => False)) := by
  refine zMet.of' [some (zi x)] hl0 (by decide) rfl (Nat.le_of_ble_eq_true rfl) rfl ?_
  intro X C N hR hN0 hX F
  subst hX
  refine z_iload_n C rfl dX5_isOrder_0 ?_
  refine z_bipush 115 (by decide) C dX5_isOrder_1 ?_
  refine z_icmp_eq 24 C dX5_isOrder_3 (by decide) (fun c3 => ?_) (fun c3 => ?_)
  · refine z_iconst 1 (by decide) C dX5_isOrder_24 ?_
    refine z_goto 29 C dX5_isOrder_25 (by decide) ?_
    refine z_zreturn C F (Nat.le_of_ble_eq_true rfl) (Nat.le_of_ble_eq_true rfl) (by decide) dX5_isOrder_29 ?_
    exact ⟨true, rfl, ⟨fun _ => Or.inl c3, fun _ => rfl⟩, rfl⟩
  · refine z_iload_n C rfl dX5_isOrder_6 ?_
    refine z_bipush 114 (by decide) C dX5_isOrder_7 ?_
    refine z_icmp_eq 24 C dX5_isOrder_9 (by decide) (fun c9 => ?_) (fun c9 => ?_)
    · refine z_iconst 1 (by decide) C dX5_isOrder_24 ?_
      refine z_goto 29 C dX5_isOrder_25 (by decide) ?_
      refine z_zreturn C F (Nat.le_of_ble_eq_true rfl) (Nat.le_of_ble_eq_true rfl) (by decide) dX5_isOrder_29 ?_
      exact ⟨true, rfl, ⟨fun _ => Or.inr (Or.inl c9), fun _ => rfl⟩, rfl⟩
    · refine z_iload_n C rfl dX5_isOrder_12 ?_
      refine z_bipush 112 (by decide) C dX5_isOrder_13 ?_
      refine z_icmp_eq 24 C dX5_isOrder_15 (by decide) (fun c15 => ?_) (fun c15 => ?_)
      · refine z_iconst 1 (by decide) C dX5_isOrder_24 ?_
        refine z_goto 29 C dX5_isOrder_25 (by decide) ?_
        refine z_zreturn C F (Nat.le_of_ble_eq_true rfl) (Nat.le_of_ble_eq_true rfl) (by decide) dX5_isOrder_29 ?_
        exact ⟨true, rfl, ⟨fun _ => Or.inr (Or.inr (Or.inl c15)), fun _ => rfl⟩, rfl⟩
      · refine z_iload_n C rfl dX5_isOrder_18 ?_
        refine z_bipush 110 (by decide) C dX5_isOrder_19 ?_
        refine z_icmp_ne 28 C dX5_isOrder_21 (by decide) (fun c21 => ?_) (fun c21 => ?_)
        · refine z_iconst 0 (by decide) C dX5_isOrder_28 ?_
          refine z_zreturn C F (Nat.le_of_ble_eq_true rfl) (Nat.le_of_ble_eq_true rfl) (by decide) dX5_isOrder_29 ?_
          exact ⟨false, rfl, ⟨fun q => (by cases q), fun q => (q.elim c3 (fun q => q.elim c9 (fun q => q.elim c15 c21))).elim⟩, rfl⟩
        · refine z_iconst 1 (by decide) C dX5_isOrder_24 ?_
          refine z_goto 29 C dX5_isOrder_25 (by decide) ?_
          refine z_zreturn C F (Nat.le_of_ble_eq_true rfl) (Nat.le_of_ble_eq_true rfl) (by decide) dX5_isOrder_29 ?_
          exact ⟨true, rfl, ⟨fun _ => Or.inr (Or.inr (Or.inr c21)), fun _ => rfl⟩, rfl⟩
set_option maxRecDepth 100000 in
set_option maxHeartbeats 4000000 in
theorem M_least {l : Launch} (hl0 : l.stackTraces = false) {S : ZM} (x y : Int32) : zMet l yX5_least (Cond.code yX5_least cX5_least 2 (some .int) :: LWm) ({ frames := 0, cells := 0, slots := 0, locals := 0 } : Room) 0 0 [zi x, zi y] S (zPo (fun v S' => v = some (zi (if x < y then x else y)) ∧ S' = S) (fun _ _ => False)) := by
  refine zMet.of' [some (zi x), some (zi y)] hl0 (by decide) rfl (Nat.le_of_ble_eq_true rfl) rfl ?_
  intro X C N hR hN0 hX F
  subst hX
  refine z_iload_n C rfl dX5_least_0 ?_
  refine z_iload_n C rfl dX5_least_1 ?_
  refine z_icmp_ge 9 C dX5_least_2 (by decide) (fun c2 => ?_) (fun c2 => ?_)
  · refine z_iload_n C rfl dX5_least_9 ?_
    refine z_ireturn C F (Nat.le_of_ble_eq_true rfl) (Nat.le_of_ble_eq_true rfl) dX5_least_10 ?_
    exact ⟨congrArg (fun z => some (zi z)) (if_neg (Int32.not_lt.mpr c2)).symm, rfl⟩
  · refine z_iload_n C rfl dX5_least_5 ?_
    refine z_goto 10 C dX5_least_6 (by decide) ?_
    refine z_ireturn C F (Nat.le_of_ble_eq_true rfl) (Nat.le_of_ble_eq_true rfl) dX5_least_10 ?_
    exact ⟨congrArg (fun z => some (zi z)) (if_pos (Int32.not_le.mp c2)).symm, rfl⟩
set_option maxRecDepth 100000 in
set_option maxHeartbeats 4000000 in
theorem M_count {l : Launch} (hl0 : l.stackTraces = false) {S : ZM} (x : Int32) : zMet l yX5_count (Cond.code yX5_count cX5_count 3 (some .int) :: LWm) ({ frames := 0, cells := 0, slots := 0, locals := 0 } : Room) 0 0 [zi x] S (zPo (fun v S' => v = some (zi (ctF x 32)) ∧ S' = S) (fun _ _ => False)) := by
  refine zMet.of' [some (zi x), none, none] hl0 (by decide) rfl (Nat.le_of_ble_eq_true rfl) rfl ?_
  intro X C N hR hN0 hX F
  subst hX
  have loop : ∀ (m i : Nat), i + m = 32 → zW X 3 0 0 S 4 [some (zi x), some (zi (ctF x i)), some (zi (nI i))] [] := by
    intro m
    induction m with
    | zero =>
      intro i hi
      obtain rfl : i = 32 := by omega
      refine z_iload_n C rfl dX5_count_4 ?_
      refine z_bipush 32 (by decide) C dX5_count_5 ?_
      refine z_icmp_ge 24 C dX5_count_7 (by decide) (fun c7 => ?_) (fun c7 => ?_)
      · refine z_iload_n C rfl dX5_count_24 ?_
        refine z_ireturn C F (Nat.le_of_ble_eq_true rfl) (Nat.le_of_ble_eq_true rfl) dX5_count_25 ?_
        exact ⟨rfl, rfl⟩
      · exact absurd (by decide) c7
    | succ m ih =>
      intro i hi
      refine z_iload_n C rfl dX5_count_4 ?_
      refine z_bipush 32 (by decide) C dX5_count_5 ?_
      refine z_icmp_ge 24 C dX5_count_7 (by decide) (fun c7 => ?_) (fun c7 => ?_)
      · exact absurd c7 (n_ge (a := i) (b := 32) (by omega) (by decide))
      · refine z_iload_n C rfl dX5_count_10 ?_
        refine z_iload_n C rfl dX5_count_11 ?_
        refine z_iload_n C rfl dX5_count_12 ?_
        refine z_ishr C dX5_count_13 ?_
        refine z_iconst 1 (by decide) C dX5_count_14 ?_
        refine z_iand C dX5_count_15 ?_
        refine z_iadd C dX5_count_16 ?_
        refine z_istore_n [_, _, _] C (by decide) rfl dX5_count_17 ?_
        refine z_inc (1) [_, _, _] C rfl (by decide) (by decide) rfl dX5_count_18 ?_
        refine z_goto 4 C dX5_count_21 (by decide) ?_
        have q := ih (i + 1) (by omega)
        rw [nI_succ] at q
        exact q
  refine z_iconst 0 (by decide) C dX5_count_0 ?_
  refine z_istore_n [_, _, _] C (by decide) rfl dX5_count_1 ?_
  refine z_iconst 0 (by decide) C dX5_count_2 ?_
  refine z_istore_n [_, _, _] C (by decide) rfl dX5_count_3 ?_
  exact loop 32 0 rfl
theorem cnF_all {D : ZD} (h : dT D ≤ 24) : cnF (prD D) (dT D) = cnF (prD D) 24 := by
  have : ∀ m : Nat, cnF (prD D) (dT D + m) = cnF (prD D) (dT D) := by
    intro m
    induction m with
    | zero => rfl
    | succ m ih =>
      rw [← Nat.add_assoc, cnF_s0 (by
        cases hp : prD D (dT D + m) with
        | false => rfl
        | true => have := prD_lt hp; omega)]
      exact ih
  have := this (24 - dT D)
  rw [show dT D + (24 - dT D) = 24 by omega] at this
  exact this.symm
set_option maxRecDepth 100000 in
set_option maxHeartbeats 4000000 in
theorem M_present {l : Launch} (hl0 : l.stackTraces = false) {D : ZD} {J : Nat → Int64} {S : ZM} {M : Nat} {r : Nat → Nat} (hM : mR D J S M r) (hN : wfN D) : zMet l yX5_present (Cond.code yX5_present cX5_present 3 (some .int) :: LWm) ({ frames := 0, cells := 0, slots := 0, locals := 0 } : Room) 0 0 [zr (some M)] S (zPo (fun v S' => v = some (zi (nI (cnF (prD D) 24))) ∧ S' = S) (fun _ _ => False)) := by
  refine zMet.of' [some (zr (some M)), none, none] hl0 (by decide) rfl (Nat.le_of_ble_eq_true rfl) rfl ?_
  intro X C N hR hN0 hX F
  subst hX
  have h41 := hN.1.1
  have h24 := hN.1.2
  have loop : ∀ (m i : Nat), i + m = dT D → zW X 3 0 0 S 4 [some (zr (some M)), some (zi (nI (cnF (prD D) i))), some (zi (nI i))] [] := by
    intro m
    induction m with
    | zero =>
      intro i hi
      obtain rfl : i = dT D := by omega
      refine z_iload_n C rfl dX5_present_4 ?_
      refine z_aload_n C rfl dX5_present_5 ?_
      refine zg5_tracks C (fun w h => List.mem_cons_of_mem _ (um_wsX50 w h)) hM.1 (List.mem_cons_of_mem _ wm34) dX5_present_6 ?_
      refine z_int (hM.i 41 rfl) ?_
      refine z_int h41 ?_
      refine z_icmp_ge 35 C dX5_present_9 (by decide) (fun c9 => ?_) (fun c9 => ?_)
      · refine z_iload_n C rfl dX5_present_35 ?_
        refine z_ireturn C F (Nat.le_of_ble_eq_true rfl) (Nat.le_of_ble_eq_true rfl) dX5_present_36 ?_
        exact ⟨congrArg (fun z => some (zi (nI z))) (cnF_all hN.1.2), rfl⟩
      · exact absurd (Int32.le_refl _) c9
    | succ m ih =>
      intro i hi
      have hi24 : i < dT D := by omega
      refine z_iload_n C rfl dX5_present_4 ?_
      refine z_aload_n C rfl dX5_present_5 ?_
      refine zg5_tracks C (fun w h => List.mem_cons_of_mem _ (um_wsX50 w h)) hM.1 (List.mem_cons_of_mem _ wm34) dX5_present_6 ?_
      refine z_int (hM.i 41 rfl) ?_
      refine z_int h41 ?_
      refine z_icmp_ge 35 C dX5_present_9 (by decide) (fun c9 => ?_) (fun c9 => ?_)
      · exact absurd c9 (n_ge hi24 (by omega))
      · refine z_iload_n C rfl dX5_present_12 ?_
        refine z_aload_n C rfl dX5_present_13 ?_
        refine zg5_isRemoved C (fun w h => List.mem_cons_of_mem _ (um_wsX50 w h)) hM.1 (List.mem_cons_of_mem _ wm10) dX5_present_14 ?_
        refine z_ref (hM.q 47 rfl) ?_
        refine z_iload_n C rfl dX5_present_17 ?_
        refine z_zaload C (hM.k 47 rfl) (hM.b' 47 rfl (⟨i, rfl, by show i < 24; omega⟩) (by decide)) dX5_present_18 ?_
        refine z_int (hM.t 47 rfl (by decide) _) ?_
        refine z_int (x' := D 47 i) (congrArg _ (nI_clamp (by omega))) ?_
        refine z_if_eq 26 C dX5_present_19 (by decide) (fun c19 => ?_) (fun c19 => ?_)
        · refine z_iconst 1 (by decide) C dX5_present_26 ?_
          refine z_iadd C dX5_present_27 ?_
          refine z_istore_n [_, _, _] C (by decide) rfl dX5_present_28 ?_
          refine z_inc (1) [_, _, _] C rfl (by decide) (by decide) rfl dX5_present_29 ?_
          refine z_goto 4 C dX5_present_32 (by decide) ?_
          have hp : prD D i = true := by unfold prD; rw [decide_eq_true hi24, c19]; rfl
          have q := ih (i + 1) (by omega)
          rw [cnF_s1 hp, nI_succ, nI_succ] at q
          exact q
        · refine z_iconst 0 (by decide) C dX5_present_22 ?_
          refine z_goto 27 C dX5_present_23 (by decide) ?_
          refine z_iadd C dX5_present_27 ?_
          refine z_istore_n [_, _, _] C (by decide) rfl dX5_present_28 ?_
          refine z_inc (1) [_, _, _] C rfl (by decide) (by decide) rfl dX5_present_29 ?_
          refine z_goto 4 C dX5_present_32 (by decide) ?_
          have hp : prD D i = false := by unfold prD; rw [decide_eq_false c19, Bool.and_false]
          have q := ih (i + 1) (by omega)
          rw [cnF_s0 hp, nI_succ, ← Int32.add_zero (nI (cnF (prD D) i))] at q
          exact q
  refine z_iconst 0 (by decide) C dX5_present_0 ?_
  refine z_istore_n [_, _, _] C (by decide) rfl dX5_present_1 ?_
  refine z_iconst 0 (by decide) C dX5_present_2 ?_
  refine z_istore_n [_, _, _] C (by decide) rfl dX5_present_3 ?_
  exact loop (dT D) 0 (by omega)
