/-! the reference: what is added to it -/
theorem dS_no {D : ZD} {k k' : Nat} {f : Nat → Int32} (h : k' ≠ k) (i : Nat) : dS D k f k' i = D k' i := congrFun (dS_ne h) i
theorem wC.trk {D : ZD} (h : wC D) {x y : Int32} (h24 : dT D < 24) : wC (opTrk D x y) := by
  have e : ∀ k : Nat, k ≠ 41 → k ≠ 42 → k ≠ 43 → opTrk D x y k = D k := fun k a b c => (dS_ne a).trans ((dS_ne c).trans (dS_ne b))
  have e41 : opTrk D x y 41 0 = nI (dT D + 1) := (congrFun dS_self 0).trans (up1_self.trans (by rw [h.1.1.1, nI_succ]))
  have e48 := e 48 (by decide) (by decide) (by decide)
  have e52 := e 52 (by decide) (by decide) (by decide)
  have e53 := e 53 (by decide) (by decide) (by decide)
  have e54 := e 54 (by decide) (by decide) (by decide)
  have e55 := e 55 (by decide) (by decide) (by decide)
  have e57 := e 57 (by decide) (by decide) (by decide)
  have e58 := e 58 (by decide) (by decide) (by decide)
  have dt : dT (opTrk D x y) = dT D + 1 := by show ix (opTrk D x y 41 0) = _; rw [e41]; exact nI_clamp (by omega)
  obtain ⟨h1, h2, h3, h4⟩ := h
  refine ⟨⟨⟨by rw [dt]; exact e41, by rw [dt]; omega⟩, ?_⟩, ?_, ?_, ?_⟩
  · simp only [dG, dR, dL, e48, e52, e57]; exact h1.2
  · simp only [wfR, dG, dR, dL, e48, e52, e53, e54, e55, e57] at h2 ⊢; exact h2
  · rw [wfO_eq e52 e57 e58]; exact h3
  · rw [acD_eq e53 e54 e55 e57 e58]; exact h4
theorem sz_b {D : ZD} (hQ : nmOk D) {x : Int32} (hx : hasTg D x) (h6 : ¬ D 49 (ix x) = 6) : ∃ n : Nat, 6 * x + D 49 (ix x) = nI n ∧ n < 96 ∧ n = 6 * ix x + ix (D 49 (ix x)) := by
  obtain ⟨h1, h2, h3, -⟩ := hx.d
  obtain ⟨n, en, hn, -⟩ := hQ (ix x) h1
  have hn6 : n ≠ 6 := by rintro rfl; exact h6 en
  refine ⟨6 * ix x + n, ?_, by omega, by rw [en, show ix (nI n) = n from nI_clamp (by omega)]⟩
  rw [en]
  conv => lhs; rw [h3]
  rw [show (6 : Int32) * nI (ix x) = nI (6 * ix x) from pk_mul 6 _, nI_add]
theorem sz_ix {D : ZD} (hQ : nmOk D) {x : Int32} (hx : hasTg D x) (h6 : ¬ D 49 (ix x) = 6) : (6 * x + D 49 (ix x)).toNatClampNeg = 6 * ix x + ix (D 49 (ix x)) := by
  obtain ⟨n, e, hn, en⟩ := sz_b hQ hx h6
  rw [e, ← en]; exact nI_clamp (by omega)
theorem n40 {D : ZD} (hN : wfN D) (h : ¬ D 52 0 = 40) : dR D < 40 := by
  have := hN.2.2.1
  rcases Nat.lt_or_ge (dR D) 40 with q | q
  · exact q
  · exact absurd (by rw [this.1, show dR D = 40 by omega]; rfl) h
theorem nT24 {D : ZD} (hN : wfN D) (h : ¬ D 41 0 = 24) : dT D < 24 := by
  have := hN.1
  rcases Nat.lt_or_ge (dT D) 24 with q | q
  · exact q
  · exact absurd (by rw [this.1, show dT D = 24 by omega]; rfl) h
theorem nL8 {D : ZD} (hN : wfN D) (h : ¬ D 57 0 = 8) : dL D < 8 := by
  have := hN.2.2.2
  rcases Nat.lt_or_ge (dL D) 8 with q | q
  · exact q
  · exact absurd (by rw [this.1, show dL D = 8 by omega]; rfl) h

set_option maxRecDepth 100000 in
set_option maxHeartbeats 800000 in
theorem M_letter {l : Launch} (hl0 : l.stackTraces = false) {D : ZD} {J : Nat → Int64} {S : ZM} {M : Nat} {r : Nat → Nat} (hM0 : iM D J S M r) (h39 : D 39 0 = 0) (hC : wC D) (hQ3 : nmOk D) (x y : Int32) : zMet l yX5_letter (Cond.code yX5_letter cX5_letter 3 (some .int) :: LWm) ({ frames := 2, cells := 0, slots := 0, locals := 43 } : Room) 0 0 [zr (some M), zi x, zi y] S (zPo (fun v S' => (hasTg D x ∧ (97 ≤ y ∧ y ≤ 122) ∧ ¬ D 49 (ix x) = 6 ∧ v = some (zi (D 49 (ix x) + 1)) ∧ mR (opLet D (ix x) y) J S' M r) ∨ (¬ hasTg D x ∧ v = some (zi 0) ∧ mR (s39 D 1) J S' M r) ∨ (hasTg D x ∧ ¬ (97 ≤ y ∧ y ≤ 122) ∧ v = some (zi 0) ∧ mR (s39 D 2) J S' M r) ∨ (hasTg D x ∧ (97 ≤ y ∧ y ≤ 122) ∧ D 49 (ix x) = 6 ∧ v = some (zi 0) ∧ mR (s39 D 3) J S' M r)) (fun _ _ => False)) := by
  refine zMet.of' [some (zr (some M)), some (zi x), some (zi y)] hl0 (by decide) rfl (Nat.le_of_ble_eq_true rfl) rfl ?_
  intro X C N hR hN0 hX F
  subst hX
  have hN := hC.1
  obtain ⟨w0, hM⟩ := id hM0
  refine z_aload_n C rfl dX5_letter_0 ?_
  refine z_iconst 0 (by decide) C dX5_letter_1 ?_
  refine zp5_thrown C (fun w h => List.mem_cons_of_mem _ (um_wsX50 w h)) hM.1 (List.mem_cons_of_mem _ wm33) dX5_letter_2 ?_
  have hM := hM0.th h39
  refine z_aload_n C rfl dX5_letter_5 ?_
  refine z_aload_n C rfl dX5_letter_6 ?_
  refine z_iload_n C rfl dX5_letter_7 ?_
  refine z_callM 1 [zi x] C rfl (M_noTag hl0 hM hN x) rfl (zgoodV LWm_good wm80 wm81 wm82 wm37 wm83) rfl rfl rfl (by decide +kernel) rfl (by rw [hR]; exact ⟨Nat.le_of_ble_eq_true rfl, Nat.le_of_ble_eq_true rfl⟩) hM.1 (by rw [hR]; exact ⟨Nat.le_of_ble_eq_true rfl, Nat.le_of_ble_eq_true rfl⟩) (Nat.le_of_ble_eq_true rfl) dX5_letter_8 (fun v8 S8 h8 => ?_) (fun E8 S8 h8 => ?_)
  · obtain ⟨b8, rfl, hb8, q8⟩ := h8
    subst S8
    refine z_iconst 1 (by decide) C dX5_letter_11 ?_
    cases b8 with
    | false =>
      have y8 := hb8.mp rfl
      refine z_callM 2 [zi (bI false), zi 1] C rfl (M_fails0 hl0 hM h39 (bI false) 1 (by decide)) rfl (zgoodV LWm_good wm64 wm65 wm66 wm37 wm67) rfl rfl rfl (by decide +kernel) rfl (by rw [hR]; exact ⟨Nat.le_of_ble_eq_true rfl, Nat.le_of_ble_eq_true rfl⟩) hM.1 (by rw [hR]; exact ⟨Nat.le_of_ble_eq_true rfl, Nat.le_of_ble_eq_true rfl⟩) (Nat.le_of_ble_eq_true rfl) dX5_letter_12 (fun v12 S12 h12 => ?_) (fun E12 S12 h12 => ?_)
      · obtain ⟨rfl, q12⟩ := h12
        subst S12
        refine z_if_ne 66 C dX5_letter_15 (by decide) (fun c15 => absurd c15 (by decide)) (fun _ => ?_)
        refine z_aload_n C rfl dX5_letter_18 ?_
        refine z_iload_n C rfl dX5_letter_19 ?_
        refine z_bipush 97 (by decide) C dX5_letter_20 ?_
        refine z_bipush 122 (by decide) C dX5_letter_22 ?_
        refine z_callS 3 [zi y, zi 97, zi 122] C (M_in hl0 y 97 122) rfl (zgoodS LWm_good wm35 wm36 wm37 wm38) rfl rfl rfl (by decide +kernel) rfl (by rw [hR]; exact ⟨Nat.le_of_ble_eq_true rfl, Nat.le_of_ble_eq_true rfl⟩) (by rw [hR]; exact ⟨Nat.le_of_ble_eq_true rfl, Nat.le_of_ble_eq_true rfl⟩) (Nat.le_of_ble_eq_true rfl) dX5_letter_24 (fun v24 S24 h24 => ?_) (fun E24 S24 h24 => ?_)
        · obtain ⟨b24, rfl, hb24, q24⟩ := h24
          subst S24
          cases b24 with
          | false =>
            have y24 := b_ft hb24
            refine z_if_ne 34 C dX5_letter_27 (by decide) (fun c27 => absurd c27 (by decide)) (fun _ => ?_)
            refine z_iconst 1 (by decide) C dX5_letter_30 ?_
            refine z_goto 35 C dX5_letter_31 (by decide) ?_
            refine z_iconst 2 (by decide) C dX5_letter_35 ?_
            refine z_callM 2 [zi (1), zi 2] C rfl (M_fails1 hl0 hM h39 1 2 (by decide)) rfl (zgoodV LWm_good wm64 wm65 wm66 wm37 wm67) rfl rfl rfl (by decide +kernel) rfl (by rw [hR]; exact ⟨Nat.le_of_ble_eq_true rfl, Nat.le_of_ble_eq_true rfl⟩) hM.1 (by rw [hR]; exact ⟨Nat.le_of_ble_eq_true rfl, Nat.le_of_ble_eq_true rfl⟩) (Nat.le_of_ble_eq_true rfl) dX5_letter_36 (fun v36 S36 h36 => ?_) (fun E36 S36 h36 => ?_)
            · obtain ⟨rfl, hM⟩ := h36
              refine z_if_ne 66 C dX5_letter_39 (by decide) (fun _ => ?_) (fun c39 => absurd c39 (by decide))
              refine z_iconst 0 (by decide) C dX5_letter_66 ?_
              refine z_ireturn C F (Nat.le_of_ble_eq_true rfl) (Nat.le_of_ble_eq_true rfl) dX5_letter_67 ?_
              exact Or.inr (Or.inr (Or.inl ⟨y8, y24, rfl, hM⟩))
            · exact h36.elim
          | true =>
            have y24 := hb24.mp rfl
            refine z_if_ne 34 C dX5_letter_27 (by decide) (fun _ => ?_) (fun c27 => absurd c27 (by decide))
            refine z_iconst 0 (by decide) C dX5_letter_34 ?_
            refine z_iconst 2 (by decide) C dX5_letter_35 ?_
            refine z_callM 2 [zi (0), zi 2] C rfl (M_fails0 hl0 hM h39 0 2 (by decide)) rfl (zgoodV LWm_good wm64 wm65 wm66 wm37 wm67) rfl rfl rfl (by decide +kernel) rfl (by rw [hR]; exact ⟨Nat.le_of_ble_eq_true rfl, Nat.le_of_ble_eq_true rfl⟩) hM.1 (by rw [hR]; exact ⟨Nat.le_of_ble_eq_true rfl, Nat.le_of_ble_eq_true rfl⟩) (Nat.le_of_ble_eq_true rfl) dX5_letter_36 (fun v36 S36 h36 => ?_) (fun E36 S36 h36 => ?_)
            · obtain ⟨rfl, q36⟩ := h36
              subst S36
              refine z_if_ne 66 C dX5_letter_39 (by decide) (fun c39 => absurd c39 (by decide)) (fun _ => ?_)
              refine z_aload_n C rfl dX5_letter_42 ?_
              refine z_aload_n C rfl dX5_letter_43 ?_
              refine zg5_nameSize C (fun w h => List.mem_cons_of_mem _ (um_wsX50 w h)) hM.1 (List.mem_cons_of_mem _ wm11) dX5_letter_44 ?_
              refine z_ref (hM.q 49 rfl) ?_
              refine z_iload_n C rfl dX5_letter_47 ?_
              refine z_iaload C (hM.k 49 rfl) (hM.b' 49 rfl (y8.b) (by decide)) dX5_letter_48 ?_
              refine z_int (hM.t 49 rfl (by decide) _) ?_
              refine z_bipush 6 (by decide) C dX5_letter_49 ?_
              refine z_icmp_ne 58 C dX5_letter_51 (by decide) (fun c51 => ?_) (fun c51 => ?_)
              · refine z_iconst 0 (by decide) C dX5_letter_58 ?_
                refine z_iconst 3 (by decide) C dX5_letter_59 ?_
                refine z_callM 2 [zi (0), zi 3] C rfl (M_fails0 hl0 hM h39 0 3 (by decide)) rfl (zgoodV LWm_good wm64 wm65 wm66 wm37 wm67) rfl rfl rfl (by decide +kernel) rfl (by rw [hR]; exact ⟨Nat.le_of_ble_eq_true rfl, Nat.le_of_ble_eq_true rfl⟩) hM.1 (by rw [hR]; exact ⟨Nat.le_of_ble_eq_true rfl, Nat.le_of_ble_eq_true rfl⟩) (Nat.le_of_ble_eq_true rfl) dX5_letter_60 (fun v60 S60 h60 => ?_) (fun E60 S60 h60 => ?_)
                · obtain ⟨rfl, q60⟩ := h60
                  subst S60
                  refine z_if_eq 68 C dX5_letter_63 (by decide) (fun _ => ?_) (fun c63 => absurd c63 (by decide))
                  refine z_aload_n C rfl dX5_letter_68 ?_
                  refine zg5_names C (fun w h => List.mem_cons_of_mem _ (um_wsX50 w h)) hM.1 (List.mem_cons_of_mem _ wm13) dX5_letter_69 ?_
                  refine z_ref (hM.q 50 rfl) ?_
                  refine z_bipush 6 (by decide) C dX5_letter_72 ?_
                  refine z_iload_n C rfl dX5_letter_74 ?_
                  refine z_imul C dX5_letter_75 ?_
                  refine z_aload_n C rfl dX5_letter_76 ?_
                  refine zg5_nameSize C (fun w h => List.mem_cons_of_mem _ (um_wsX50 w h)) hM.1 (List.mem_cons_of_mem _ wm11) dX5_letter_77 ?_
                  refine z_ref (hM.q 49 rfl) ?_
                  refine z_iload_n C rfl dX5_letter_80 ?_
                  refine z_iaload C (hM.k 49 rfl) (hM.b' 49 rfl (y8.b) (by decide)) dX5_letter_81 ?_
                  refine z_int (hM.t 49 rfl (by decide) _) ?_
                  refine z_iadd C dX5_letter_82 ?_
                  refine z_iload_n C rfl dX5_letter_83 ?_
                  refine z_castore C (hM.k 50 rfl) (hM.b' 50 rfl ((by obtain ⟨n, e, h, -⟩ := sz_b hQ3 y8 c51; exact ⟨n, e, h⟩)) (by decide)) dX5_letter_84 ?_
                  refine z_memM (hM.eI 50 rfl (by decide) _ _) (fun S84 hM => ?_)
                  rw [nar_l y24, sz_ix hQ3 y8 c51] at hM
                  refine z_aload_n C rfl dX5_letter_85 ?_
                  refine zg5_nameSize C (fun w h => List.mem_cons_of_mem _ (um_wsX50 w h)) hM.1 (List.mem_cons_of_mem _ wm11) dX5_letter_86 ?_
                  refine z_ref (hM.q 49 rfl) ?_
                  refine z_iload_n C rfl dX5_letter_89 ?_
                  refine z_dup2 rfl rfl C dX5_letter_90 ?_
                  refine z_iaload C (hM.k 49 rfl) (hM.b' 49 rfl (y8.b) (by decide)) dX5_letter_91 ?_
                  refine z_int (hM.t 49 rfl (by decide) _) ?_
                  refine z_int (x' := D 49 (ix x)) (dS_no (by decide) _) ?_
                  refine z_iconst 1 (by decide) C dX5_letter_92 ?_
                  refine z_iadd C dX5_letter_93 ?_
                  refine z_iastore C (hM.k 49 rfl) (hM.b' 49 rfl (y8.b) (by decide)) dX5_letter_94 ?_
                  refine z_memM (hM.eI 49 rfl (by decide) _ _) (fun S94 hM => ?_)
                  rw [show dS D 50 (up1 (D 50) (6 * ix x + ix (D 49 (ix x))) y) 49 = D 49 from dS_ne (by decide)] at hM
                  refine z_aload_n C rfl dX5_letter_95 ?_
                  refine zg5_nameSize C (fun w h => List.mem_cons_of_mem _ (um_wsX50 w h)) hM.1 (List.mem_cons_of_mem _ wm11) dX5_letter_96 ?_
                  refine z_ref (hM.q 49 rfl) ?_
                  refine z_iload_n C rfl dX5_letter_99 ?_
                  refine z_iaload C (hM.k 49 rfl) (hM.b' 49 rfl (y8.b) (by decide)) dX5_letter_100 ?_
                  refine z_int (hM.t 49 rfl (by decide) _) ?_
                  refine z_int (x' := D 49 (ix x) + 1) ((congrFun dS_self _).trans up1_self) ?_
                  refine z_ireturn C F (Nat.le_of_ble_eq_true rfl) (Nat.le_of_ble_eq_true rfl) dX5_letter_101 ?_
                  exact Or.inl ⟨y8, y24, c51, rfl, hM⟩
                · exact h60.elim
              · refine z_iconst 1 (by decide) C dX5_letter_54 ?_
                refine z_goto 59 C dX5_letter_55 (by decide) ?_
                refine z_iconst 3 (by decide) C dX5_letter_59 ?_
                refine z_callM 2 [zi (1), zi 3] C rfl (M_fails1 hl0 hM h39 1 3 (by decide)) rfl (zgoodV LWm_good wm64 wm65 wm66 wm37 wm67) rfl rfl rfl (by decide +kernel) rfl (by rw [hR]; exact ⟨Nat.le_of_ble_eq_true rfl, Nat.le_of_ble_eq_true rfl⟩) hM.1 (by rw [hR]; exact ⟨Nat.le_of_ble_eq_true rfl, Nat.le_of_ble_eq_true rfl⟩) (Nat.le_of_ble_eq_true rfl) dX5_letter_60 (fun v60 S60 h60 => ?_) (fun E60 S60 h60 => ?_)
                · obtain ⟨rfl, hM⟩ := h60
                  refine z_if_eq 68 C dX5_letter_63 (by decide) (fun c63 => absurd c63 (by decide)) (fun _ => ?_)
                  refine z_iconst 0 (by decide) C dX5_letter_66 ?_
                  refine z_ireturn C F (Nat.le_of_ble_eq_true rfl) (Nat.le_of_ble_eq_true rfl) dX5_letter_67 ?_
                  exact Or.inr (Or.inr (Or.inr ⟨y8, y24, c51, rfl, hM⟩))
                · exact h60.elim
            · exact h36.elim
        · exact h24.elim
      · exact h12.elim
    | true =>
      have y8 := b_tf hb8
      refine z_callM 2 [zi (bI true), zi 1] C rfl (M_fails1 hl0 hM h39 (bI true) 1 (by decide)) rfl (zgoodV LWm_good wm64 wm65 wm66 wm37 wm67) rfl rfl rfl (by decide +kernel) rfl (by rw [hR]; exact ⟨Nat.le_of_ble_eq_true rfl, Nat.le_of_ble_eq_true rfl⟩) hM.1 (by rw [hR]; exact ⟨Nat.le_of_ble_eq_true rfl, Nat.le_of_ble_eq_true rfl⟩) (Nat.le_of_ble_eq_true rfl) dX5_letter_12 (fun v12 S12 h12 => ?_) (fun E12 S12 h12 => ?_)
      · obtain ⟨rfl, hM⟩ := h12
        refine z_if_ne 66 C dX5_letter_15 (by decide) (fun _ => ?_) (fun c15 => absurd c15 (by decide))
        refine z_iconst 0 (by decide) C dX5_letter_66 ?_
        refine z_ireturn C F (Nat.le_of_ble_eq_true rfl) (Nat.le_of_ble_eq_true rfl) dX5_letter_67 ?_
        exact Or.inr (Or.inl ⟨y8, rfl, hM⟩)
      · exact h12.elim
  · exact h8.elim
set_option maxRecDepth 100000 in
set_option maxHeartbeats 800000 in
theorem M_addTrack {l : Launch} (hl0 : l.stackTraces = false) {D : ZD} {J : Nat → Int64} {S : ZM} {M : Nat} {r : Nat → Nat} (hM0 : iM D J S M r) (h39 : D 39 0 = 0) (hC : wC D) (x y : Int32) : zMet l yX5_addTrack (Cond.code yX5_addTrack cX5_addTrack 3 (some .int) :: LWm) ({ frames := 347, cells := 0, slots := 0, locals := 8868 } : Room) 0 0 [zr (some M), zi x, zi y] S (zPo (fun v S' => ((1 ≤ x ∧ x ≤ 999) ∧ (0 ≤ y ∧ y ≤ 5) ∧ ¬ D 41 0 = 24 ∧ v = some (zi (D 41 0)) ∧ okM J S' M r (chgD (opTrk D x y))) ∨ (¬ ((1 ≤ x ∧ x ≤ 999) ∧ (0 ≤ y ∧ y ≤ 5)) ∧ v = some (zi 0) ∧ mR (s39 D 1) J S' M r) ∨ ((1 ≤ x ∧ x ≤ 999) ∧ (0 ≤ y ∧ y ≤ 5) ∧ D 41 0 = 24 ∧ v = some (zi 0) ∧ mR (s39 D 2) J S' M r)) (fun _ _ => False)) := by
  refine zMet.of' [some (zr (some M)), some (zi x), some (zi y)] hl0 (by decide) rfl (Nat.le_of_ble_eq_true rfl) rfl ?_
  intro X C N hR hN0 hX F
  subst hX
  have hN := hC.1
  obtain ⟨w0, hM⟩ := id hM0
  refine z_aload_n C rfl dX5_addTrack_0 ?_
  refine z_iconst 0 (by decide) C dX5_addTrack_1 ?_
  refine zp5_thrown C (fun w h => List.mem_cons_of_mem _ (um_wsX50 w h)) hM.1 (List.mem_cons_of_mem _ wm33) dX5_addTrack_2 ?_
  have hM := hM0.th h39
  refine z_aload_n C rfl dX5_addTrack_5 ?_
  refine z_iload_n C rfl dX5_addTrack_6 ?_
  refine z_iconst 1 (by decide) C dX5_addTrack_7 ?_
  refine z_sipush 999 (by decide) C dX5_addTrack_8 ?_
  refine z_callS 3 [zi x, zi 1, zi 999] C (M_in hl0 x 1 999) rfl (zgoodS LWm_good wm35 wm36 wm37 wm38) rfl rfl rfl (by decide +kernel) rfl (by rw [hR]; exact ⟨Nat.le_of_ble_eq_true rfl, Nat.le_of_ble_eq_true rfl⟩) (by rw [hR]; exact ⟨Nat.le_of_ble_eq_true rfl, Nat.le_of_ble_eq_true rfl⟩) (Nat.le_of_ble_eq_true rfl) dX5_addTrack_11 (fun v11 S11 h11 => ?_) (fun E11 S11 h11 => ?_)
  · obtain ⟨b11, rfl, hb11, q11⟩ := h11
    subst S11
    cases b11 with
    | false =>
      have y11 := b_ft hb11
      refine z_if_eq 26 C dX5_addTrack_14 (by decide) (fun _ => ?_) (fun c14 => absurd c14 (by decide))
      refine z_iconst 1 (by decide) C dX5_addTrack_26 ?_
      refine z_goto 31 C dX5_addTrack_27 (by decide) ?_
      refine z_iconst 1 (by decide) C dX5_addTrack_31 ?_
      refine z_callM 2 [zi (1), zi 1] C rfl (M_fails1 hl0 hM h39 1 1 (by decide)) rfl (zgoodV LWm_good wm64 wm65 wm66 wm37 wm67) rfl rfl rfl (by decide +kernel) rfl (by rw [hR]; exact ⟨Nat.le_of_ble_eq_true rfl, Nat.le_of_ble_eq_true rfl⟩) hM.1 (by rw [hR]; exact ⟨Nat.le_of_ble_eq_true rfl, Nat.le_of_ble_eq_true rfl⟩) (Nat.le_of_ble_eq_true rfl) dX5_addTrack_32 (fun v32 S32 h32 => ?_) (fun E32 S32 h32 => ?_)
      · obtain ⟨rfl, hM⟩ := h32
        refine z_if_ne 60 C dX5_addTrack_35 (by decide) (fun _ => ?_) (fun c35 => absurd c35 (by decide))
        refine z_iconst 0 (by decide) C dX5_addTrack_60 ?_
        refine z_ireturn C F (Nat.le_of_ble_eq_true rfl) (Nat.le_of_ble_eq_true rfl) dX5_addTrack_61 ?_
        first | exact Or.inr (Or.inl ⟨fun z => y11 z.1, rfl, hM⟩) | exact Or.inr (Or.inl ⟨fun z => y20 z.2, rfl, hM⟩)
      · exact h32.elim
    | true =>
      have y11 := hb11.mp rfl
      refine z_if_eq 26 C dX5_addTrack_14 (by decide) (fun c14 => absurd c14 (by decide)) (fun _ => ?_)
      refine z_iload_n C rfl dX5_addTrack_17 ?_
      refine z_iconst 0 (by decide) C dX5_addTrack_18 ?_
      refine z_iconst 5 (by decide) C dX5_addTrack_19 ?_
      refine z_callS 3 [zi y, zi 0, zi 5] C (M_in hl0 y 0 5) rfl (zgoodS LWm_good wm35 wm36 wm37 wm38) rfl rfl rfl (by decide +kernel) rfl (by rw [hR]; exact ⟨Nat.le_of_ble_eq_true rfl, Nat.le_of_ble_eq_true rfl⟩) (by rw [hR]; exact ⟨Nat.le_of_ble_eq_true rfl, Nat.le_of_ble_eq_true rfl⟩) (Nat.le_of_ble_eq_true rfl) dX5_addTrack_20 (fun v20 S20 h20 => ?_) (fun E20 S20 h20 => ?_)
      · obtain ⟨b20, rfl, hb20, q20⟩ := h20
        subst S20
        cases b20 with
        | false =>
          have y20 := b_ft hb20
          refine z_if_ne 30 C dX5_addTrack_23 (by decide) (fun c23 => absurd c23 (by decide)) (fun _ => ?_)
          refine z_iconst 1 (by decide) C dX5_addTrack_26 ?_
          refine z_goto 31 C dX5_addTrack_27 (by decide) ?_
          refine z_iconst 1 (by decide) C dX5_addTrack_31 ?_
          refine z_callM 2 [zi (1), zi 1] C rfl (M_fails1 hl0 hM h39 1 1 (by decide)) rfl (zgoodV LWm_good wm64 wm65 wm66 wm37 wm67) rfl rfl rfl (by decide +kernel) rfl (by rw [hR]; exact ⟨Nat.le_of_ble_eq_true rfl, Nat.le_of_ble_eq_true rfl⟩) hM.1 (by rw [hR]; exact ⟨Nat.le_of_ble_eq_true rfl, Nat.le_of_ble_eq_true rfl⟩) (Nat.le_of_ble_eq_true rfl) dX5_addTrack_32 (fun v32 S32 h32 => ?_) (fun E32 S32 h32 => ?_)
          · obtain ⟨rfl, hM⟩ := h32
            refine z_if_ne 60 C dX5_addTrack_35 (by decide) (fun _ => ?_) (fun c35 => absurd c35 (by decide))
            refine z_iconst 0 (by decide) C dX5_addTrack_60 ?_
            refine z_ireturn C F (Nat.le_of_ble_eq_true rfl) (Nat.le_of_ble_eq_true rfl) dX5_addTrack_61 ?_
            first | exact Or.inr (Or.inl ⟨fun z => y11 z.1, rfl, hM⟩) | exact Or.inr (Or.inl ⟨fun z => y20 z.2, rfl, hM⟩)
          · exact h32.elim
        | true =>
          have y20 := hb20.mp rfl
          refine z_if_ne 30 C dX5_addTrack_23 (by decide) (fun _ => ?_) (fun c23 => absurd c23 (by decide))
          refine z_iconst 0 (by decide) C dX5_addTrack_30 ?_
          refine z_iconst 1 (by decide) C dX5_addTrack_31 ?_
          refine z_callM 2 [zi (0), zi 1] C rfl (M_fails0 hl0 hM h39 0 1 (by decide)) rfl (zgoodV LWm_good wm64 wm65 wm66 wm37 wm67) rfl rfl rfl (by decide +kernel) rfl (by rw [hR]; exact ⟨Nat.le_of_ble_eq_true rfl, Nat.le_of_ble_eq_true rfl⟩) hM.1 (by rw [hR]; exact ⟨Nat.le_of_ble_eq_true rfl, Nat.le_of_ble_eq_true rfl⟩) (Nat.le_of_ble_eq_true rfl) dX5_addTrack_32 (fun v32 S32 h32 => ?_) (fun E32 S32 h32 => ?_)
          · obtain ⟨rfl, q32⟩ := h32
            subst S32
            refine z_if_ne 60 C dX5_addTrack_35 (by decide) (fun c35 => absurd c35 (by decide)) (fun _ => ?_)
            refine z_aload_n C rfl dX5_addTrack_38 ?_
            refine z_aload_n C rfl dX5_addTrack_39 ?_
            refine zg5_tracks C (fun w h => List.mem_cons_of_mem _ (um_wsX50 w h)) hM.1 (List.mem_cons_of_mem _ wm34) dX5_addTrack_40 ?_
            refine z_int (hM.i 41 rfl) ?_
            refine z_bipush 24 (by decide) C dX5_addTrack_43 ?_
            refine z_icmp_ne 52 C dX5_addTrack_45 (by decide) (fun c45 => ?_) (fun c45 => ?_)
            · refine z_iconst 0 (by decide) C dX5_addTrack_52 ?_
              refine z_iconst 2 (by decide) C dX5_addTrack_53 ?_
              refine z_callM 2 [zi (0), zi 2] C rfl (M_fails0 hl0 hM h39 0 2 (by decide)) rfl (zgoodV LWm_good wm64 wm65 wm66 wm37 wm67) rfl rfl rfl (by decide +kernel) rfl (by rw [hR]; exact ⟨Nat.le_of_ble_eq_true rfl, Nat.le_of_ble_eq_true rfl⟩) hM.1 (by rw [hR]; exact ⟨Nat.le_of_ble_eq_true rfl, Nat.le_of_ble_eq_true rfl⟩) (Nat.le_of_ble_eq_true rfl) dX5_addTrack_54 (fun v54 S54 h54 => ?_) (fun E54 S54 h54 => ?_)
              · obtain ⟨rfl, q54⟩ := h54
                subst S54
                refine z_if_eq 62 C dX5_addTrack_57 (by decide) (fun _ => ?_) (fun c57 => absurd c57 (by decide))
                refine z_aload_n C rfl dX5_addTrack_62 ?_
                refine zg5_length C (fun w h => List.mem_cons_of_mem _ (um_wsX50 w h)) hM.1 (List.mem_cons_of_mem _ wm4) dX5_addTrack_63 ?_
                refine z_ref (hM.q 42 rfl) ?_
                refine z_aload_n C rfl dX5_addTrack_66 ?_
                refine zg5_tracks C (fun w h => List.mem_cons_of_mem _ (um_wsX50 w h)) hM.1 (List.mem_cons_of_mem _ wm34) dX5_addTrack_67 ?_
                refine z_int ((hM.i 41 rfl).trans hN.1.1) ?_
                refine z_iload_n C rfl dX5_addTrack_70 ?_
                refine z_iastore C (hM.k 42 rfl) (hM.b' 42 rfl (⟨dT D, rfl, by show _ < 24; exact nT24 hN c45⟩) (by decide)) dX5_addTrack_71 ?_
                refine z_memM (hM.eI 42 rfl (by decide) _ _) (fun S71 hM => ?_)
                rw [show (nI (dT D)).toNatClampNeg = dT D from nI_clamp (by have := hN.1.2; omega)] at hM
                refine z_aload_n C rfl dX5_addTrack_72 ?_
                refine zg5_rating C (fun w h => List.mem_cons_of_mem _ (um_wsX50 w h)) hM.1 (List.mem_cons_of_mem _ wm5) dX5_addTrack_73 ?_
                refine z_ref (hM.q 43 rfl) ?_
                refine z_aload_n C rfl dX5_addTrack_76 ?_
                refine zg5_tracks C (fun w h => List.mem_cons_of_mem _ (um_wsX50 w h)) hM.1 (List.mem_cons_of_mem _ wm34) dX5_addTrack_77 ?_
                refine z_int ((hM.i 41 rfl).trans ((dS_no (by decide) 0).trans hN.1.1)) ?_
                refine z_iload_n C rfl dX5_addTrack_80 ?_
                refine z_iastore C (hM.k 43 rfl) (hM.b' 43 rfl (⟨dT D, rfl, by show _ < 24; exact nT24 hN c45⟩) (by decide)) dX5_addTrack_81 ?_
                refine z_memM (hM.eI 43 rfl (by decide) _ _) (fun S81 hM => ?_)
                rw [show (nI (dT D)).toNatClampNeg = dT D from nI_clamp (by have := hN.1.2; omega), show dS D 42 (up1 (D 42) (dT D) x) 43 = D 43 from dS_ne (by decide)] at hM
                refine z_aload_n C rfl dX5_addTrack_82 ?_
                refine z_dup rfl C dX5_addTrack_83 ?_
                refine zg5_tracks C (fun w h => List.mem_cons_of_mem _ (um_wsX50 w h)) hM.1 (List.mem_cons_of_mem _ wm34) dX5_addTrack_84 ?_
                refine z_int (x' := D 41 0) ((hM.i 41 rfl).trans ((dS_no (by decide) 0).trans (dS_no (by decide) 0))) ?_
                refine z_iconst 1 (by decide) C dX5_addTrack_87 ?_
                refine z_iadd C dX5_addTrack_88 ?_
                refine zp5_tracks C (fun w h => List.mem_cons_of_mem _ (um_wsX50 w h)) hM.1 (List.mem_cons_of_mem _ wm34) dX5_addTrack_89 ?_
                refine z_memM (hM.sI 41 rfl _) (fun S89 hM => ?_)
                rw [show dS (dS D 42 (up1 (D 42) (dT D) x)) 43 (up1 (D 43) (dT D) y) 41 = D 41 from (dS_ne (by decide)).trans (dS_ne (by decide))] at hM
                refine z_aload_n C rfl dX5_addTrack_92 ?_
                refine z_callM 0 [] C rfl (M_changes hl0 hM (hC.trk (nT24 hN c45))) rfl (zgoodV LWm_good wm68 wm69 wm70 wm37 wm71) rfl rfl rfl (by decide +kernel) rfl (by rw [hR]; exact ⟨Nat.le_of_ble_eq_true rfl, Nat.le_of_ble_eq_true rfl⟩) hM.1 (by rw [hR]; exact ⟨Nat.le_of_ble_eq_true rfl, Nat.le_of_ble_eq_true rfl⟩) (Nat.le_of_ble_eq_true rfl) dX5_addTrack_93 (fun v93 S93 h93 => ?_) (fun E93 S93 h93 => ?_)
                · obtain ⟨rfl, D2, hM, e39, eJ, eM⟩ := h93
                  refine z_aload_n C rfl dX5_addTrack_96 ?_
                  refine zg5_tracks C (fun w h => List.mem_cons_of_mem _ (um_wsX50 w h)) hM.1 (List.mem_cons_of_mem _ wm34) dX5_addTrack_97 ?_
                  refine z_int (x' := D 41 0 + 1) ((hM.i 41 rfl).trans ((congrFun (eJ 41 rfl) 0).trans ((congrFun (coreE (core_chg _) 41 rfl) 0).trans ((congrFun dS_self 0).trans up1_self)))) ?_
                  refine z_iconst 1 (by decide) C dX5_addTrack_100 ?_
                  refine z_isub C dX5_addTrack_101 ?_
                  refine z_int (x' := D 41 0) (by rw [hN.1.1, ← nI_succ, nI_pred]) ?_
                  refine z_ireturn C F (Nat.le_of_ble_eq_true rfl) (Nat.le_of_ble_eq_true rfl) dX5_addTrack_102 ?_
                  exact Or.inl ⟨y11, y20, c45, rfl, D2, hM, (congrFun e39 0).trans h39, eJ, eM⟩
                · exact h93.elim
              · exact h54.elim
            · refine z_iconst 1 (by decide) C dX5_addTrack_48 ?_
              refine z_goto 53 C dX5_addTrack_49 (by decide) ?_
              refine z_iconst 2 (by decide) C dX5_addTrack_53 ?_
              refine z_callM 2 [zi (1), zi 2] C rfl (M_fails1 hl0 hM h39 1 2 (by decide)) rfl (zgoodV LWm_good wm64 wm65 wm66 wm37 wm67) rfl rfl rfl (by decide +kernel) rfl (by rw [hR]; exact ⟨Nat.le_of_ble_eq_true rfl, Nat.le_of_ble_eq_true rfl⟩) hM.1 (by rw [hR]; exact ⟨Nat.le_of_ble_eq_true rfl, Nat.le_of_ble_eq_true rfl⟩) (Nat.le_of_ble_eq_true rfl) dX5_addTrack_54 (fun v54 S54 h54 => ?_) (fun E54 S54 h54 => ?_)
              · obtain ⟨rfl, hM⟩ := h54
                refine z_if_eq 62 C dX5_addTrack_57 (by decide) (fun c57 => absurd c57 (by decide)) (fun _ => ?_)
                refine z_iconst 0 (by decide) C dX5_addTrack_60 ?_
                refine z_ireturn C F (Nat.le_of_ble_eq_true rfl) (Nat.le_of_ble_eq_true rfl) dX5_addTrack_61 ?_
                exact Or.inr (Or.inr ⟨y11, y20, c45, rfl, hM⟩)
              · exact h54.elim
          · exact h32.elim
      · exact h20.elim
  · exact h11.elim
theorem fl_ok {X E2 : ZD} {J : Nat → Int64} {S : ZM} {M : Nat} {r : Nat → Nat} (hM : mR E2 J S M r) (h39 : X 39 0 = 0) (hE2 : eqF E2 X) (hg : ∀ l : Nat, l < dL X → good X E2 l) (h61 : ∀ l : Nat, dL X ≤ l → E2 61 l = X 61 l) : okM J S M r (fllD X) := by
  refine ⟨E2, hM, (congrFun (hE2 39 rfl) 0).trans h39, fun k hk => ?_, fun l hl => ?_⟩
  · obtain ⟨j1, j2, j3⟩ := jnk_no hk
    unfold fllD
    by_cases q1 : k = 61
    · subst q1
      rw [dS_self]
      funext l
      show _ = if l < dL X then fixD X l else X 61 l
      by_cases q : l < dL X
      · rw [if_pos q]; exact (hg l q).1
      · rw [if_neg q]; exact h61 l (by omega)
    · rw [dS_ne q1]; exact hE2 k (flr_no q1 (by omega))
  · rw [dL_of hE2.core] at hl
    rw [good_of hE2.core]
    exact hg l hl
set_option maxRecDepth 100000 in
set_option maxHeartbeats 800000 in
theorem M_addList {l : Launch} (hl0 : l.stackTraces = false) {D : ZD} {J : Nat → Int64} {S : ZM} {M : Nat} {r : Nat → Nat} (hM0 : iM D J S M r) (h39 : D 39 0 = 0) (hC : wC D) (x y z : Int32) (hC9 : hasRl D x → (y = 115 ∨ y = 114 ∨ y = 112 ∨ y = 110) → (0 ≤ z ∧ z ≤ 9999) → dL D < 8 → wC (opLst D x y z)) : zMet l yX5_addList (Cond.code yX5_addList cX5_addList 4 (some .int) :: LWm) ({ frames := 346, cells := 0, slots := 0, locals := 8847 } : Room) 0 0 [zr (some M), zi x, zi y, zi z] S (zPo (fun v S' => (hasRl D x ∧ (y = 115 ∨ y = 114 ∨ y = 112 ∨ y = 110) ∧ (0 ≤ z ∧ z ≤ 9999) ∧ ¬ D 57 0 = 8 ∧ v = some (zi (D 57 0)) ∧ okM J S' M r (fllD (opLst D x y z))) ∨ (¬ hasRl D x ∧ v = some (zi 0) ∧ mR (s39 D 1) J S' M r) ∨ (hasRl D x ∧ ¬ ((y = 115 ∨ y = 114 ∨ y = 112 ∨ y = 110) ∧ (0 ≤ z ∧ z ≤ 9999)) ∧ v = some (zi 0) ∧ mR (s39 D 2) J S' M r) ∨ (hasRl D x ∧ (y = 115 ∨ y = 114 ∨ y = 112 ∨ y = 110) ∧ (0 ≤ z ∧ z ≤ 9999) ∧ D 57 0 = 8 ∧ v = some (zi 0) ∧ mR (s39 D 3) J S' M r)) (fun _ _ => False)) := by
  refine zMet.of' [some (zr (some M)), some (zi x), some (zi y), some (zi z)] hl0 (by decide) rfl (Nat.le_of_ble_eq_true rfl) rfl ?_
  intro X C N hR hN0 hX F
  subst hX
  have hN := hC.1
  obtain ⟨w0, hM⟩ := id hM0
  refine z_aload_n C rfl dX5_addList_0 ?_
  refine z_iconst 0 (by decide) C dX5_addList_1 ?_
  refine zp5_thrown C (fun w h => List.mem_cons_of_mem _ (um_wsX50 w h)) hM.1 (List.mem_cons_of_mem _ wm33) dX5_addList_2 ?_
  have hM := hM0.th h39
  refine z_aload_n C rfl dX5_addList_5 ?_
  refine z_aload_n C rfl dX5_addList_6 ?_
  refine z_iload_n C rfl dX5_addList_7 ?_
  refine z_callM 1 [zi x] C rfl (M_noRule hl0 hM hN x) rfl (zgoodV LWm_good wm107 wm108 wm109 wm37 wm110) rfl rfl rfl (by decide +kernel) rfl (by rw [hR]; exact ⟨Nat.le_of_ble_eq_true rfl, Nat.le_of_ble_eq_true rfl⟩) hM.1 (by rw [hR]; exact ⟨Nat.le_of_ble_eq_true rfl, Nat.le_of_ble_eq_true rfl⟩) (Nat.le_of_ble_eq_true rfl) dX5_addList_8 (fun v8 S8 h8 => ?_) (fun E8 S8 h8 => ?_)
  · obtain ⟨b8, rfl, hb8, q8⟩ := h8
    subst S8
    refine z_iconst 1 (by decide) C dX5_addList_11 ?_
    cases b8 with
    | false =>
      have y8 := hb8.mp rfl
      refine z_callM 2 [zi (bI false), zi 1] C rfl (M_fails0 hl0 hM h39 (bI false) 1 (by decide)) rfl (zgoodV LWm_good wm64 wm65 wm66 wm37 wm67) rfl rfl rfl (by decide +kernel) rfl (by rw [hR]; exact ⟨Nat.le_of_ble_eq_true rfl, Nat.le_of_ble_eq_true rfl⟩) hM.1 (by rw [hR]; exact ⟨Nat.le_of_ble_eq_true rfl, Nat.le_of_ble_eq_true rfl⟩) (Nat.le_of_ble_eq_true rfl) dX5_addList_12 (fun v12 S12 h12 => ?_) (fun E12 S12 h12 => ?_)
      · obtain ⟨rfl, q12⟩ := h12
        subst S12
        refine z_if_ne 71 C dX5_addList_15 (by decide) (fun c15 => absurd c15 (by decide)) (fun _ => ?_)
        refine z_aload_n C rfl dX5_addList_18 ?_
        refine z_iload_n C rfl dX5_addList_19 ?_
        refine z_callS 1 [zi y] C (M_isOrder hl0 y) rfl (zgoodS LWm_good wm115 wm116 wm37 wm117) rfl rfl rfl (by decide +kernel) rfl (by rw [hR]; exact ⟨Nat.le_of_ble_eq_true rfl, Nat.le_of_ble_eq_true rfl⟩) (by rw [hR]; exact ⟨Nat.le_of_ble_eq_true rfl, Nat.le_of_ble_eq_true rfl⟩) (Nat.le_of_ble_eq_true rfl) dX5_addList_20 (fun v20 S20 h20 => ?_) (fun E20 S20 h20 => ?_)
        · obtain ⟨b20, rfl, hb20, q20⟩ := h20
          subst S20
          cases b20 with
          | false =>
            have y20 := b_ft hb20
            refine z_if_eq 37 C dX5_addList_23 (by decide) (fun _ => ?_) (fun c23 => absurd c23 (by decide))
            refine z_iconst 1 (by decide) C dX5_addList_37 ?_
            refine z_goto 42 C dX5_addList_38 (by decide) ?_
            refine z_iconst 2 (by decide) C dX5_addList_42 ?_
            refine z_callM 2 [zi (1), zi 2] C rfl (M_fails1 hl0 hM h39 1 2 (by decide)) rfl (zgoodV LWm_good wm64 wm65 wm66 wm37 wm67) rfl rfl rfl (by decide +kernel) rfl (by rw [hR]; exact ⟨Nat.le_of_ble_eq_true rfl, Nat.le_of_ble_eq_true rfl⟩) hM.1 (by rw [hR]; exact ⟨Nat.le_of_ble_eq_true rfl, Nat.le_of_ble_eq_true rfl⟩) (Nat.le_of_ble_eq_true rfl) dX5_addList_43 (fun v43 S43 h43 => ?_) (fun E43 S43 h43 => ?_)
            · obtain ⟨rfl, hM⟩ := h43
              refine z_if_ne 71 C dX5_addList_46 (by decide) (fun _ => ?_) (fun c46 => absurd c46 (by decide))
              refine z_iconst 0 (by decide) C dX5_addList_71 ?_
              refine z_ireturn C F (Nat.le_of_ble_eq_true rfl) (Nat.le_of_ble_eq_true rfl) dX5_addList_72 ?_
              first | exact Or.inr (Or.inr (Or.inl ⟨y8, fun q => y20 q.1, rfl, hM⟩)) | exact Or.inr (Or.inr (Or.inl ⟨y8, fun q => y31 q.2, rfl, hM⟩))
            · exact h43.elim
          | true =>
            have y20 := hb20.mp rfl
            refine z_if_eq 37 C dX5_addList_23 (by decide) (fun c23 => absurd c23 (by decide)) (fun _ => ?_)
            refine z_iload_n C rfl dX5_addList_26 ?_
            refine z_iconst 0 (by decide) C dX5_addList_27 ?_
            refine z_sipush 9999 (by decide) C dX5_addList_28 ?_
            refine z_callS 3 [zi z, zi 0, zi 9999] C (M_in hl0 z 0 9999) rfl (zgoodS LWm_good wm35 wm36 wm37 wm38) rfl rfl rfl (by decide +kernel) rfl (by rw [hR]; exact ⟨Nat.le_of_ble_eq_true rfl, Nat.le_of_ble_eq_true rfl⟩) (by rw [hR]; exact ⟨Nat.le_of_ble_eq_true rfl, Nat.le_of_ble_eq_true rfl⟩) (Nat.le_of_ble_eq_true rfl) dX5_addList_31 (fun v31 S31 h31 => ?_) (fun E31 S31 h31 => ?_)
            · obtain ⟨b31, rfl, hb31, q31⟩ := h31
              subst S31
              cases b31 with
              | false =>
                have y31 := b_ft hb31
                refine z_if_ne 41 C dX5_addList_34 (by decide) (fun c34 => absurd c34 (by decide)) (fun _ => ?_)
                refine z_iconst 1 (by decide) C dX5_addList_37 ?_
                refine z_goto 42 C dX5_addList_38 (by decide) ?_
                refine z_iconst 2 (by decide) C dX5_addList_42 ?_
                refine z_callM 2 [zi (1), zi 2] C rfl (M_fails1 hl0 hM h39 1 2 (by decide)) rfl (zgoodV LWm_good wm64 wm65 wm66 wm37 wm67) rfl rfl rfl (by decide +kernel) rfl (by rw [hR]; exact ⟨Nat.le_of_ble_eq_true rfl, Nat.le_of_ble_eq_true rfl⟩) hM.1 (by rw [hR]; exact ⟨Nat.le_of_ble_eq_true rfl, Nat.le_of_ble_eq_true rfl⟩) (Nat.le_of_ble_eq_true rfl) dX5_addList_43 (fun v43 S43 h43 => ?_) (fun E43 S43 h43 => ?_)
                · obtain ⟨rfl, hM⟩ := h43
                  refine z_if_ne 71 C dX5_addList_46 (by decide) (fun _ => ?_) (fun c46 => absurd c46 (by decide))
                  refine z_iconst 0 (by decide) C dX5_addList_71 ?_
                  refine z_ireturn C F (Nat.le_of_ble_eq_true rfl) (Nat.le_of_ble_eq_true rfl) dX5_addList_72 ?_
                  first | exact Or.inr (Or.inr (Or.inl ⟨y8, fun q => y20 q.1, rfl, hM⟩)) | exact Or.inr (Or.inr (Or.inl ⟨y8, fun q => y31 q.2, rfl, hM⟩))
                · exact h43.elim
              | true =>
                have y31 := hb31.mp rfl
                refine z_if_ne 41 C dX5_addList_34 (by decide) (fun _ => ?_) (fun c34 => absurd c34 (by decide))
                refine z_iconst 0 (by decide) C dX5_addList_41 ?_
                refine z_iconst 2 (by decide) C dX5_addList_42 ?_
                refine z_callM 2 [zi (0), zi 2] C rfl (M_fails0 hl0 hM h39 0 2 (by decide)) rfl (zgoodV LWm_good wm64 wm65 wm66 wm37 wm67) rfl rfl rfl (by decide +kernel) rfl (by rw [hR]; exact ⟨Nat.le_of_ble_eq_true rfl, Nat.le_of_ble_eq_true rfl⟩) hM.1 (by rw [hR]; exact ⟨Nat.le_of_ble_eq_true rfl, Nat.le_of_ble_eq_true rfl⟩) (Nat.le_of_ble_eq_true rfl) dX5_addList_43 (fun v43 S43 h43 => ?_) (fun E43 S43 h43 => ?_)
                · obtain ⟨rfl, q43⟩ := h43
                  subst S43
                  refine z_if_ne 71 C dX5_addList_46 (by decide) (fun c46 => absurd c46 (by decide)) (fun _ => ?_)
                  refine z_aload_n C rfl dX5_addList_49 ?_
                  refine z_aload_n C rfl dX5_addList_50 ?_
                  refine zg5_lists C (fun w h => List.mem_cons_of_mem _ (um_wsX50 w h)) hM.1 (List.mem_cons_of_mem _ wm41) dX5_addList_51 ?_
                  refine z_int (hM.i 57 rfl) ?_
                  refine z_bipush 8 (by decide) C dX5_addList_54 ?_
                  refine z_icmp_ne 63 C dX5_addList_56 (by decide) (fun c56 => ?_) (fun c56 => ?_)
                  · refine z_iconst 0 (by decide) C dX5_addList_63 ?_
                    refine z_iconst 3 (by decide) C dX5_addList_64 ?_
                    refine z_callM 2 [zi (0), zi 3] C rfl (M_fails0 hl0 hM h39 0 3 (by decide)) rfl (zgoodV LWm_good wm64 wm65 wm66 wm37 wm67) rfl rfl rfl (by decide +kernel) rfl (by rw [hR]; exact ⟨Nat.le_of_ble_eq_true rfl, Nat.le_of_ble_eq_true rfl⟩) hM.1 (by rw [hR]; exact ⟨Nat.le_of_ble_eq_true rfl, Nat.le_of_ble_eq_true rfl⟩) (Nat.le_of_ble_eq_true rfl) dX5_addList_65 (fun v65 S65 h65 => ?_) (fun E65 S65 h65 => ?_)
                    · obtain ⟨rfl, q65⟩ := h65
                      subst S65
                      refine z_if_eq 73 C dX5_addList_68 (by decide) (fun _ => ?_) (fun c68 => absurd c68 (by decide))
                      refine z_aload_n C rfl dX5_addList_73 ?_
                      refine zg5_rule C (fun w h => List.mem_cons_of_mem _ (um_wsX50 w h)) hM.1 (List.mem_cons_of_mem _ wm19) dX5_addList_74 ?_
                      refine z_ref (hM.q 58 rfl) ?_
                      refine z_aload_n C rfl dX5_addList_77 ?_
                      refine zg5_lists C (fun w h => List.mem_cons_of_mem _ (um_wsX50 w h)) hM.1 (List.mem_cons_of_mem _ wm41) dX5_addList_78 ?_
                      refine z_int ((hM.i 57 rfl).trans hN.2.2.2.1) ?_
                      refine z_iload_n C rfl dX5_addList_81 ?_
                      refine z_iastore C (hM.k 58 rfl) (hM.b' 58 rfl (⟨dL D, rfl, by show _ < 8; exact nL8 hN c56⟩) (by decide)) dX5_addList_82 ?_
                      refine z_memM (hM.eI 58 rfl (by decide) _ _) (fun S82 hM => ?_)
                      rw [show (nI (dL D)).toNatClampNeg = dL D from nI_clamp (by have := hN.2.2.2.2; omega)] at hM
                      refine z_aload_n C rfl dX5_addList_83 ?_
                      refine zg5_order C (fun w h => List.mem_cons_of_mem _ (um_wsX50 w h)) hM.1 (List.mem_cons_of_mem _ wm20) dX5_addList_84 ?_
                      refine z_ref (hM.q 59 rfl) ?_
                      refine z_aload_n C rfl dX5_addList_87 ?_
                      refine zg5_lists C (fun w h => List.mem_cons_of_mem _ (um_wsX50 w h)) hM.1 (List.mem_cons_of_mem _ wm41) dX5_addList_88 ?_
                      refine z_int ((hM.i 57 rfl).trans ((dS_no (by decide) 0).trans hN.2.2.2.1)) ?_
                      refine z_iload_n C rfl dX5_addList_91 ?_
                      refine z_castore C (hM.k 59 rfl) (hM.b' 59 rfl (⟨dL D, rfl, by show _ < 8; exact nL8 hN c56⟩) (by decide)) dX5_addList_92 ?_
                      refine z_memM (hM.eI 59 rfl (by decide) _ _) (fun S92 hM => ?_)
                      rw [show (nI (dL D)).toNatClampNeg = dL D from nI_clamp (by have := hN.2.2.2.2; omega), nar_o y20, show dS D 58 (up1 (D 58) (dL D) x) 59 = D 59 from dS_ne (by decide)] at hM
                      refine z_aload_n C rfl dX5_addList_93 ?_
                      refine zg5_limit C (fun w h => List.mem_cons_of_mem _ (um_wsX50 w h)) hM.1 (List.mem_cons_of_mem _ wm21) dX5_addList_94 ?_
                      refine z_ref (hM.q 60 rfl) ?_
                      refine z_aload_n C rfl dX5_addList_97 ?_
                      refine zg5_lists C (fun w h => List.mem_cons_of_mem _ (um_wsX50 w h)) hM.1 (List.mem_cons_of_mem _ wm41) dX5_addList_98 ?_
                      refine z_int ((hM.i 57 rfl).trans ((dS_no (by decide) 0).trans ((dS_no (by decide) 0).trans hN.2.2.2.1))) ?_
                      refine z_iload_n C rfl dX5_addList_101 ?_
                      refine z_iastore C (hM.k 60 rfl) (hM.b' 60 rfl (⟨dL D, rfl, by show _ < 8; exact nL8 hN c56⟩) (by decide)) dX5_addList_102 ?_
                      refine z_memM (hM.eI 60 rfl (by decide) _ _) (fun S102 hM => ?_)
                      rw [show (nI (dL D)).toNatClampNeg = dL D from nI_clamp (by have := hN.2.2.2.2; omega), show dS (dS D 58 (up1 (D 58) (dL D) x)) 59 (up1 (D 59) (dL D) y) 60 = D 60 from (dS_ne (by decide)).trans (dS_ne (by decide))] at hM
                      refine z_aload_n C rfl dX5_addList_103 ?_
                      refine z_dup rfl C dX5_addList_104 ?_
                      refine zg5_lists C (fun w h => List.mem_cons_of_mem _ (um_wsX50 w h)) hM.1 (List.mem_cons_of_mem _ wm41) dX5_addList_105 ?_
                      refine z_int (x' := D 57 0) ((hM.i 57 rfl).trans ((dS_no (by decide) 0).trans ((dS_no (by decide) 0).trans (dS_no (by decide) 0)))) ?_
                      refine z_iconst 1 (by decide) C dX5_addList_108 ?_
                      refine z_iadd C dX5_addList_109 ?_
                      refine zp5_lists C (fun w h => List.mem_cons_of_mem _ (um_wsX50 w h)) hM.1 (List.mem_cons_of_mem _ wm41) dX5_addList_110 ?_
                      refine z_memM (hM.sI 57 rfl _) (fun S110 hM => ?_)
                      rw [show dS (dS (dS D 58 (up1 (D 58) (dL D) x)) 59 (up1 (D 59) (dL D) y)) 60 (up1 (D 60) (dL D) z) 57 = D 57 from (dS_ne (by decide)).trans ((dS_ne (by decide)).trans (dS_ne (by decide)))] at hM
                      refine z_aload_n C rfl dX5_addList_113 ?_
                      refine z_callM 0 [] C rfl (M_fillAll hl0 hM (hC9 y8 y20 y31 (nL8 hN c56))) rfl (zgoodV LWm_good wm60 wm61 wm62 wm37 wm63) rfl rfl rfl (by decide +kernel) rfl (by rw [hR]; exact ⟨Nat.le_of_ble_eq_true rfl, Nat.le_of_ble_eq_true rfl⟩) hM.1 (by rw [hR]; exact ⟨Nat.le_of_ble_eq_true rfl, Nat.le_of_ble_eq_true rfl⟩) (Nat.le_of_ble_eq_true rfl) dX5_addList_114 (fun v114 S114 h114 => ?_) (fun E114 S114 h114 => ?_)
                      · obtain ⟨rfl, E2, hM, hE2, hg, h61⟩ := h114
                        refine z_aload_n C rfl dX5_addList_117 ?_
                        refine zg5_lists C (fun w h => List.mem_cons_of_mem _ (um_wsX50 w h)) hM.1 (List.mem_cons_of_mem _ wm41) dX5_addList_118 ?_
                        refine z_int (x' := D 57 0 + 1) ((hM.i 57 rfl).trans ((congrFun (hE2 57 rfl) 0).trans ((congrFun dS_self 0).trans up1_self))) ?_
                        refine z_iconst 1 (by decide) C dX5_addList_121 ?_
                        refine z_isub C dX5_addList_122 ?_
                        refine z_int (x' := D 57 0) (by rw [hN.2.2.2.1, ← nI_succ, nI_pred]) ?_
                        refine z_ireturn C F (Nat.le_of_ble_eq_true rfl) (Nat.le_of_ble_eq_true rfl) dX5_addList_123 ?_
                        exact Or.inl ⟨y8, y20, y31, c56, rfl, fl_ok hM h39 hE2 hg h61⟩
                      · exact h114.elim
                    · exact h65.elim
                  · refine z_iconst 1 (by decide) C dX5_addList_59 ?_
                    refine z_goto 64 C dX5_addList_60 (by decide) ?_
                    refine z_iconst 3 (by decide) C dX5_addList_64 ?_
                    refine z_callM 2 [zi (1), zi 3] C rfl (M_fails1 hl0 hM h39 1 3 (by decide)) rfl (zgoodV LWm_good wm64 wm65 wm66 wm37 wm67) rfl rfl rfl (by decide +kernel) rfl (by rw [hR]; exact ⟨Nat.le_of_ble_eq_true rfl, Nat.le_of_ble_eq_true rfl⟩) hM.1 (by rw [hR]; exact ⟨Nat.le_of_ble_eq_true rfl, Nat.le_of_ble_eq_true rfl⟩) (Nat.le_of_ble_eq_true rfl) dX5_addList_65 (fun v65 S65 h65 => ?_) (fun E65 S65 h65 => ?_)
                    · obtain ⟨rfl, hM⟩ := h65
                      refine z_if_eq 73 C dX5_addList_68 (by decide) (fun c68 => absurd c68 (by decide)) (fun _ => ?_)
                      refine z_iconst 0 (by decide) C dX5_addList_71 ?_
                      refine z_ireturn C F (Nat.le_of_ble_eq_true rfl) (Nat.le_of_ble_eq_true rfl) dX5_addList_72 ?_
                      exact Or.inr (Or.inr (Or.inr ⟨y8, y20, y31, c56, rfl, hM⟩))
                    · exact h65.elim
                · exact h43.elim
            · exact h31.elim
        · exact h20.elim
      · exact h12.elim
    | true =>
      have y8 := b_tf hb8
      refine z_callM 2 [zi (bI true), zi 1] C rfl (M_fails1 hl0 hM h39 (bI true) 1 (by decide)) rfl (zgoodV LWm_good wm64 wm65 wm66 wm37 wm67) rfl rfl rfl (by decide +kernel) rfl (by rw [hR]; exact ⟨Nat.le_of_ble_eq_true rfl, Nat.le_of_ble_eq_true rfl⟩) hM.1 (by rw [hR]; exact ⟨Nat.le_of_ble_eq_true rfl, Nat.le_of_ble_eq_true rfl⟩) (Nat.le_of_ble_eq_true rfl) dX5_addList_12 (fun v12 S12 h12 => ?_) (fun E12 S12 h12 => ?_)
      · obtain ⟨rfl, hM⟩ := h12
        refine z_if_ne 71 C dX5_addList_15 (by decide) (fun _ => ?_) (fun c15 => absurd c15 (by decide))
        refine z_iconst 0 (by decide) C dX5_addList_71 ?_
        refine z_ireturn C F (Nat.le_of_ble_eq_true rfl) (Nat.le_of_ble_eq_true rfl) dX5_addList_72 ?_
        exact Or.inr (Or.inl ⟨y8, rfl, hM⟩)
      · exact h12.elim
  · exact h8.elim
set_option maxRecDepth 100000 in
set_option maxHeartbeats 800000 in
theorem M_addRule {l : Launch} (hl0 : l.stackTraces = false) {D : ZD} {J : Nat → Int64} {S : ZM} {M : Nat} {r : Nat → Nat} (hM : mR D J S M r) (h52 : D 52 0 = nI (dR D)) (h40 : dR D < 40) (kd a b sz : Int32) : zMet l yX5_addRule (Cond.code yX5_addRule cX5_addRule 5 (some .int) :: LWm) ({ frames := 0, cells := 0, slots := 0, locals := 0 } : Room) 0 0 [zr (some M), zi kd, zi a, zi b, zi sz] S (zPo (fun v S' => v = some (zi (D 52 0)) ∧ mR (opRule D kd a b sz) J S' M r) (fun _ _ => False)) := by
  refine zMet.of' [some (zr (some M)), some (zi kd), some (zi a), some (zi b), some (zi sz)] hl0 (by decide) rfl (Nat.le_of_ble_eq_true rfl) rfl ?_
  intro X C N hR hN0 hX F
  subst hX
  refine z_aload_n C rfl dX5_addRule_0 ?_
  refine zg5_kind C (fun w h => List.mem_cons_of_mem _ (um_wsX50 w h)) hM.1 (List.mem_cons_of_mem _ wm15) dX5_addRule_1 ?_
  refine z_ref (hM.q 53 rfl) ?_
  refine z_aload_n C rfl dX5_addRule_4 ?_
  refine zg5_rules C (fun w h => List.mem_cons_of_mem _ (um_wsX50 w h)) hM.1 (List.mem_cons_of_mem _ wm40) dX5_addRule_5 ?_
  refine z_int ((hM.i 52 rfl).trans h52) ?_
  refine z_iload_n C rfl dX5_addRule_8 ?_
  refine z_iastore C (hM.k 53 rfl) (hM.b' 53 rfl (⟨dR D, rfl, by show _ < 40; omega⟩) (by decide)) dX5_addRule_9 ?_
  refine z_memM (hM.eI 53 rfl (by decide) _ _) (fun S9 hM => ?_)
  rw [show (nI (dR D)).toNatClampNeg = dR D from nI_clamp (by omega)] at hM
  refine z_aload_n C rfl dX5_addRule_10 ?_
  refine zg5_one C (fun w h => List.mem_cons_of_mem _ (um_wsX50 w h)) hM.1 (List.mem_cons_of_mem _ wm16) dX5_addRule_11 ?_
  refine z_ref (hM.q 54 rfl) ?_
  refine z_aload_n C rfl dX5_addRule_14 ?_
  refine zg5_rules C (fun w h => List.mem_cons_of_mem _ (um_wsX50 w h)) hM.1 (List.mem_cons_of_mem _ wm40) dX5_addRule_15 ?_
  refine z_int ((hM.i 52 rfl).trans ((dS_no (by decide) 0).trans (h52))) ?_
  refine z_iload_n C rfl dX5_addRule_18 ?_
  refine z_iastore C (hM.k 54 rfl) (hM.b' 54 rfl (⟨dR D, rfl, by show _ < 40; omega⟩) (by decide)) dX5_addRule_19 ?_
  refine z_memM (hM.eI 54 rfl (by decide) _ _) (fun S19 hM => ?_)
  rw [show (nI (dR D)).toNatClampNeg = dR D from nI_clamp (by omega), show dS D 53 (up1 (D 53) (dR D) kd) 54 = D 54 from dS_ne (by decide)] at hM
  refine z_aload_n C rfl dX5_addRule_20 ?_
  refine zg5_two C (fun w h => List.mem_cons_of_mem _ (um_wsX50 w h)) hM.1 (List.mem_cons_of_mem _ wm17) dX5_addRule_21 ?_
  refine z_ref (hM.q 55 rfl) ?_
  refine z_aload_n C rfl dX5_addRule_24 ?_
  refine zg5_rules C (fun w h => List.mem_cons_of_mem _ (um_wsX50 w h)) hM.1 (List.mem_cons_of_mem _ wm40) dX5_addRule_25 ?_
  refine z_int ((hM.i 52 rfl).trans ((dS_no (by decide) 0).trans ((dS_no (by decide) 0).trans (h52)))) ?_
  refine z_iload_n C rfl dX5_addRule_28 ?_
  refine z_iastore C (hM.k 55 rfl) (hM.b' 55 rfl (⟨dR D, rfl, by show _ < 40; omega⟩) (by decide)) dX5_addRule_29 ?_
  refine z_memM (hM.eI 55 rfl (by decide) _ _) (fun S29 hM => ?_)
  rw [show (nI (dR D)).toNatClampNeg = dR D from nI_clamp (by omega), show dS (dS D 53 (up1 (D 53) (dR D) kd)) 54 (up1 (D 54) (dR D) a) 55 = D 55 from (dS_ne (by decide)).trans (dS_ne (by decide))] at hM
  refine z_aload_n C rfl dX5_addRule_30 ?_
  refine zg5_sizes C (fun w h => List.mem_cons_of_mem _ (um_wsX50 w h)) hM.1 (List.mem_cons_of_mem _ wm18) dX5_addRule_31 ?_
  refine z_ref (hM.q 56 rfl) ?_
  refine z_aload_n C rfl dX5_addRule_34 ?_
  refine zg5_rules C (fun w h => List.mem_cons_of_mem _ (um_wsX50 w h)) hM.1 (List.mem_cons_of_mem _ wm40) dX5_addRule_35 ?_
  refine z_int ((hM.i 52 rfl).trans ((dS_no (by decide) 0).trans ((dS_no (by decide) 0).trans ((dS_no (by decide) 0).trans (h52))))) ?_
  refine z_iload C rfl dX5_addRule_38 ?_
  refine z_iastore C (hM.k 56 rfl) (hM.b' 56 rfl (⟨dR D, rfl, by show _ < 40; omega⟩) (by decide)) dX5_addRule_40 ?_
  refine z_memM (hM.eI 56 rfl (by decide) _ _) (fun S40 hM => ?_)
  rw [show (nI (dR D)).toNatClampNeg = dR D from nI_clamp (by omega), show dS (dS (dS D 53 (up1 (D 53) (dR D) kd)) 54 (up1 (D 54) (dR D) a)) 55 (up1 (D 55) (dR D) b) 56 = D 56 from (dS_ne (by decide)).trans ((dS_ne (by decide)).trans (dS_ne (by decide)))] at hM
  refine z_aload_n C rfl dX5_addRule_41 ?_
  refine z_dup rfl C dX5_addRule_42 ?_
  refine zg5_rules C (fun w h => List.mem_cons_of_mem _ (um_wsX50 w h)) hM.1 (List.mem_cons_of_mem _ wm40) dX5_addRule_43 ?_
  refine z_int (x' := D 52 0) ((hM.i 52 rfl).trans ((dS_no (by decide) 0).trans ((dS_no (by decide) 0).trans ((dS_no (by decide) 0).trans ((dS_no (by decide) 0).trans (rfl)))))) ?_
  refine z_iconst 1 (by decide) C dX5_addRule_46 ?_
  refine z_iadd C dX5_addRule_47 ?_
  refine zp5_rules C (fun w h => List.mem_cons_of_mem _ (um_wsX50 w h)) hM.1 (List.mem_cons_of_mem _ wm40) dX5_addRule_48 ?_
  refine z_memM (hM.sI 52 rfl _) (fun S48 hM => ?_)
  rw [show dS (dS (dS (dS D 53 (up1 (D 53) (dR D) kd)) 54 (up1 (D 54) (dR D) a)) 55 (up1 (D 55) (dR D) b)) 56 (up1 (D 56) (dR D) sz) 52 = D 52 from (dS_ne (by decide)).trans ((dS_ne (by decide)).trans ((dS_ne (by decide)).trans (dS_ne (by decide))))] at hM
  refine z_aload_n C rfl dX5_addRule_51 ?_
  refine zg5_rules C (fun w h => List.mem_cons_of_mem _ (um_wsX50 w h)) hM.1 (List.mem_cons_of_mem _ wm40) dX5_addRule_52 ?_
  refine z_int (x' := D 52 0 + 1) ((hM.i 52 rfl).trans ((congrFun dS_self 0).trans up1_self)) ?_
  refine z_iconst 1 (by decide) C dX5_addRule_55 ?_
  refine z_isub C dX5_addRule_56 ?_
  refine z_int (x' := D 52 0) (by rw [h52, ← nI_succ, nI_pred]) ?_
  refine z_ireturn C F (Nat.le_of_ble_eq_true rfl) (Nat.le_of_ble_eq_true rfl) dX5_addRule_57 ?_
  exact ⟨rfl, hM⟩
set_option maxRecDepth 100000 in
set_option maxHeartbeats 800000 in
theorem M_simple {l : Launch} (hl0 : l.stackTraces = false) {D : ZD} {J : Nat → Int64} {S : ZM} {M : Nat} {r : Nat → Nat} (hM0 : iM D J S M r) (h39 : D 39 0 = 0) (hC : wC D) (kd x : Int32) (b : Bool) : zMet l yX5_simple (Cond.code yX5_simple cX5_simple 4 (some .int) :: LWm) ({ frames := 1, cells := 0, slots := 0, locals := 24 } : Room) 0 0 [zr (some M), zi kd, zi x, zi (bI b)] S (zPo (fun v S' => (b = true ∧ ¬ D 52 0 = 40 ∧ v = some (zi (D 52 0)) ∧ mR (opRule D kd x 0 1) J S' M r) ∨ (b = false ∧ v = some (zi 0) ∧ mR (s39 D 1) J S' M r) ∨ (b = true ∧ D 52 0 = 40 ∧ v = some (zi 0) ∧ mR (s39 D 2) J S' M r)) (fun _ _ => False)) := by
  refine zMet.of' [some (zr (some M)), some (zi kd), some (zi x), some (zi (bI b))] hl0 (by decide) rfl (Nat.le_of_ble_eq_true rfl) rfl ?_
  intro X C N hR hN0 hX F
  subst hX
  have hN := hC.1
  obtain ⟨w0, hM⟩ := id hM0
  refine z_aload_n C rfl dX5_simple_0 ?_
  refine z_iconst 0 (by decide) C dX5_simple_1 ?_
  refine zp5_thrown C (fun w h => List.mem_cons_of_mem _ (um_wsX50 w h)) hM.1 (List.mem_cons_of_mem _ wm33) dX5_simple_2 ?_
  have hM := hM0.th h39
  refine z_aload_n C rfl dX5_simple_5 ?_
  refine z_iload_n C rfl dX5_simple_6 ?_
  cases b with
  | false =>
    refine z_if_ne 14 C dX5_simple_7 (by decide) (fun c7 => absurd c7 (by decide)) (fun _ => ?_)
    refine z_iconst 1 (by decide) C dX5_simple_10 ?_
    refine z_goto 15 C dX5_simple_11 (by decide) ?_
    refine z_iconst 1 (by decide) C dX5_simple_15 ?_
    refine z_callM 2 [zi (1), zi 1] C rfl (M_fails1 hl0 hM h39 1 1 (by decide)) rfl (zgoodV LWm_good wm64 wm65 wm66 wm37 wm67) rfl rfl rfl (by decide +kernel) rfl (by rw [hR]; exact ⟨Nat.le_of_ble_eq_true rfl, Nat.le_of_ble_eq_true rfl⟩) hM.1 (by rw [hR]; exact ⟨Nat.le_of_ble_eq_true rfl, Nat.le_of_ble_eq_true rfl⟩) (Nat.le_of_ble_eq_true rfl) dX5_simple_16 (fun v16 S16 h16 => ?_) (fun E16 S16 h16 => ?_)
    · obtain ⟨rfl, hM⟩ := h16
      refine z_if_ne 44 C dX5_simple_19 (by decide) (fun _ => ?_) (fun c19 => absurd c19 (by decide))
      refine z_iconst 0 (by decide) C dX5_simple_44 ?_
      refine z_goto 56 C dX5_simple_45 (by decide) ?_
      refine z_ireturn C F (Nat.le_of_ble_eq_true rfl) (Nat.le_of_ble_eq_true rfl) dX5_simple_56 ?_
      exact Or.inr (Or.inl ⟨rfl, rfl, hM⟩)
    · exact h16.elim
  | true =>
    refine z_if_ne 14 C dX5_simple_7 (by decide) (fun _ => ?_) (fun c7 => absurd c7 (by decide))
    refine z_iconst 0 (by decide) C dX5_simple_14 ?_
    refine z_iconst 1 (by decide) C dX5_simple_15 ?_
    refine z_callM 2 [zi (0), zi 1] C rfl (M_fails0 hl0 hM h39 0 1 (by decide)) rfl (zgoodV LWm_good wm64 wm65 wm66 wm37 wm67) rfl rfl rfl (by decide +kernel) rfl (by rw [hR]; exact ⟨Nat.le_of_ble_eq_true rfl, Nat.le_of_ble_eq_true rfl⟩) hM.1 (by rw [hR]; exact ⟨Nat.le_of_ble_eq_true rfl, Nat.le_of_ble_eq_true rfl⟩) (Nat.le_of_ble_eq_true rfl) dX5_simple_16 (fun v16 S16 h16 => ?_) (fun E16 S16 h16 => ?_)
    · obtain ⟨rfl, q16⟩ := h16
      subst S16
      refine z_if_ne 44 C dX5_simple_19 (by decide) (fun c19 => absurd c19 (by decide)) (fun _ => ?_)
      refine z_aload_n C rfl dX5_simple_22 ?_
      refine z_aload_n C rfl dX5_simple_23 ?_
      refine zg5_rules C (fun w h => List.mem_cons_of_mem _ (um_wsX50 w h)) hM.1 (List.mem_cons_of_mem _ wm40) dX5_simple_24 ?_
      refine z_int (hM.i 52 rfl) ?_
      refine z_bipush 40 (by decide) C dX5_simple_27 ?_
      refine z_icmp_ne 36 C dX5_simple_29 (by decide) (fun c29 => ?_) (fun c29 => ?_)
      · refine z_iconst 0 (by decide) C dX5_simple_36 ?_
        refine z_iconst 2 (by decide) C dX5_simple_37 ?_
        refine z_callM 2 [zi (0), zi 2] C rfl (M_fails0 hl0 hM h39 0 2 (by decide)) rfl (zgoodV LWm_good wm64 wm65 wm66 wm37 wm67) rfl rfl rfl (by decide +kernel) rfl (by rw [hR]; exact ⟨Nat.le_of_ble_eq_true rfl, Nat.le_of_ble_eq_true rfl⟩) hM.1 (by rw [hR]; exact ⟨Nat.le_of_ble_eq_true rfl, Nat.le_of_ble_eq_true rfl⟩) (Nat.le_of_ble_eq_true rfl) dX5_simple_38 (fun v38 S38 h38 => ?_) (fun E38 S38 h38 => ?_)
        · obtain ⟨rfl, q38⟩ := h38
          subst S38
          refine z_if_eq 48 C dX5_simple_41 (by decide) (fun _ => ?_) (fun c41 => absurd c41 (by decide))
          refine z_aload_n C rfl dX5_simple_48 ?_
          refine z_iload_n C rfl dX5_simple_49 ?_
          refine z_iload_n C rfl dX5_simple_50 ?_
          refine z_iconst 0 (by decide) C dX5_simple_51 ?_
          refine z_iconst 1 (by decide) C dX5_simple_52 ?_
          refine z_callM 4 [zi kd, zi x, zi 0, zi (1)] C rfl (M_addRule hl0 hM hN.2.2.1.1 (n40 hN c29) kd x 0 (1)) rfl (zgoodV LWm_good wm95 wm96 wm97 wm37 wm98) rfl rfl rfl (by decide +kernel) rfl (by rw [hR]; exact ⟨Nat.le_of_ble_eq_true rfl, Nat.le_of_ble_eq_true rfl⟩) hM.1 (by rw [hR]; exact ⟨Nat.le_of_ble_eq_true rfl, Nat.le_of_ble_eq_true rfl⟩) (Nat.le_of_ble_eq_true rfl) dX5_simple_53 (fun v53 S53 h53 => ?_) (fun E53 S53 h53 => ?_)
          · obtain ⟨rfl, hM⟩ := h53
            refine z_ireturn C F (Nat.le_of_ble_eq_true rfl) (Nat.le_of_ble_eq_true rfl) dX5_simple_56 ?_
            exact Or.inl ⟨rfl, c29, rfl, hM⟩
          · exact h53.elim
        · exact h38.elim
      · refine z_iconst 1 (by decide) C dX5_simple_32 ?_
        refine z_goto 37 C dX5_simple_33 (by decide) ?_
        refine z_iconst 2 (by decide) C dX5_simple_37 ?_
        refine z_callM 2 [zi (1), zi 2] C rfl (M_fails1 hl0 hM h39 1 2 (by decide)) rfl (zgoodV LWm_good wm64 wm65 wm66 wm37 wm67) rfl rfl rfl (by decide +kernel) rfl (by rw [hR]; exact ⟨Nat.le_of_ble_eq_true rfl, Nat.le_of_ble_eq_true rfl⟩) hM.1 (by rw [hR]; exact ⟨Nat.le_of_ble_eq_true rfl, Nat.le_of_ble_eq_true rfl⟩) (Nat.le_of_ble_eq_true rfl) dX5_simple_38 (fun v38 S38 h38 => ?_) (fun E38 S38 h38 => ?_)
        · obtain ⟨rfl, hM⟩ := h38
          refine z_if_eq 48 C dX5_simple_41 (by decide) (fun c41 => absurd c41 (by decide)) (fun _ => ?_)
          refine z_iconst 0 (by decide) C dX5_simple_44 ?_
          refine z_goto 56 C dX5_simple_45 (by decide) ?_
          refine z_ireturn C F (Nat.le_of_ble_eq_true rfl) (Nat.le_of_ble_eq_true rfl) dX5_simple_56 ?_
          exact Or.inr (Or.inr ⟨rfl, c29, rfl, hM⟩)
        · exact h38.elim
    · exact h16.elim
set_option maxRecDepth 100000 in
set_option maxHeartbeats 800000 in
theorem M_made {l : Launch} (hl0 : l.stackTraces = false) {D : ZD} {J : Nat → Int64} {S : ZM} {M : Nat} {r : Nat → Nat} (hM0 : iM D J S M r) (h39 : D 39 0 = 0) (hC : wC D) (kd x y : Int32) : zMet l yX5_made (Cond.code yX5_made cX5_made 6 (some .int) :: LWm) ({ frames := 2, cells := 0, slots := 0, locals := 43 } : Room) 0 0 [zr (some M), zi kd, zi x, zi y] S (zPo (fun v S' => (hasRl D x ∧ hasRl D y ∧ ¬ 15 < (if kd = 8 then 1 + D 56 (ix x) else 1 + D 56 (ix x) + D 56 (ix y)) ∧ ¬ D 52 0 = 40 ∧ v = some (zi (D 52 0)) ∧ mR (opRule D kd x y (if kd = 8 then 1 + D 56 (ix x) else 1 + D 56 (ix x) + D 56 (ix y))) J S' M r) ∨ (¬ (hasRl D x ∧ hasRl D y) ∧ v = some (zi 0) ∧ mR (s39 D 1) J S' M r) ∨ (hasRl D x ∧ hasRl D y ∧ 15 < (if kd = 8 then 1 + D 56 (ix x) else 1 + D 56 (ix x) + D 56 (ix y)) ∧ v = some (zi 0) ∧ mR (s39 D 2) J S' M r) ∨ (hasRl D x ∧ hasRl D y ∧ ¬ 15 < (if kd = 8 then 1 + D 56 (ix x) else 1 + D 56 (ix x) + D 56 (ix y)) ∧ D 52 0 = 40 ∧ v = some (zi 0) ∧ mR (s39 D 3) J S' M r)) (fun _ _ => False)) := by
  refine zMet.of' [some (zr (some M)), some (zi kd), some (zi x), some (zi y), none, none] hl0 (by decide) rfl (Nat.le_of_ble_eq_true rfl) rfl ?_
  intro X C N hR hN0 hX F
  subst hX
  have hN := hC.1
  obtain ⟨w0, hM⟩ := id hM0
  refine z_aload_n C rfl dX5_made_0 ?_
  refine z_iconst 0 (by decide) C dX5_made_1 ?_
  refine zp5_thrown C (fun w h => List.mem_cons_of_mem _ (um_wsX50 w h)) hM.1 (List.mem_cons_of_mem _ wm33) dX5_made_2 ?_
  have hM := hM0.th h39
  refine z_aload_n C rfl dX5_made_5 ?_
  refine z_iload_n C rfl dX5_made_6 ?_
  refine z_callM 1 [zi x] C rfl (M_noRule hl0 hM hN x) rfl (zgoodV LWm_good wm107 wm108 wm109 wm37 wm110) rfl rfl rfl (by decide +kernel) rfl (by rw [hR]; exact ⟨Nat.le_of_ble_eq_true rfl, Nat.le_of_ble_eq_true rfl⟩) hM.1 (by rw [hR]; exact ⟨Nat.le_of_ble_eq_true rfl, Nat.le_of_ble_eq_true rfl⟩) (Nat.le_of_ble_eq_true rfl) dX5_made_7 (fun v7 S7 h7 => ?_) (fun E7 S7 h7 => ?_)
  · obtain ⟨b7, rfl, hb7, q7⟩ := h7
    subst S7
    cases b7 with
    | false =>
      have y7 := hb7.mp rfl
      refine z_if_ne 21 C dX5_made_10 (by decide) (fun c10 => absurd c10 (by decide)) (fun _ => ?_)
      refine z_aload_n C rfl dX5_made_13 ?_
      refine z_iload_n C rfl dX5_made_14 ?_
      refine z_callM 1 [zi y] C rfl (M_noRule hl0 hM hN y) rfl (zgoodV LWm_good wm107 wm108 wm109 wm37 wm110) rfl rfl rfl (by decide +kernel) rfl (by rw [hR]; exact ⟨Nat.le_of_ble_eq_true rfl, Nat.le_of_ble_eq_true rfl⟩) hM.1 (by rw [hR]; exact ⟨Nat.le_of_ble_eq_true rfl, Nat.le_of_ble_eq_true rfl⟩) (Nat.le_of_ble_eq_true rfl) dX5_made_15 (fun v15 S15 h15 => ?_) (fun E15 S15 h15 => ?_)
      · obtain ⟨b15, rfl, hb15, q15⟩ := h15
        subst S15
        cases b15 with
        | false =>
          have y15 := hb15.mp rfl
          refine z_if_eq 25 C dX5_made_18 (by decide) (fun _ => ?_) (fun c18 => absurd c18 (by decide))
          refine z_iconst 0 (by decide) C dX5_made_25 ?_
          refine z_istore [_, _, _, _, _, _] C (by decide) rfl dX5_made_26 ?_
          refine z_iload C rfl dX5_made_28 ?_
          refine z_if_eq 37 C dX5_made_30 (by decide) (fun _ => ?_) (fun c30 => absurd c30 (by decide))
          refine z_iload_n C rfl dX5_made_37 ?_
          refine z_bipush 8 (by decide) C dX5_made_38 ?_
          refine z_icmp_ne 54 C dX5_made_40 (by decide) (fun c40 => ?_) (fun c40 => ?_)
          · have hsz : 1 + D 56 (ix x) + D 56 (ix y) = (if kd = 8 then 1 + D 56 (ix x) else 1 + D 56 (ix x) + D 56 (ix y)) := (if_neg c40).symm
            refine z_iconst 1 (by decide) C dX5_made_54 ?_
            refine z_aload_n C rfl dX5_made_55 ?_
            refine zg5_sizes C (fun w h => List.mem_cons_of_mem _ (um_wsX50 w h)) hM.1 (List.mem_cons_of_mem _ wm18) dX5_made_56 ?_
            refine z_ref (hM.q 56 rfl) ?_
            refine z_iload_n C rfl dX5_made_59 ?_
            refine z_iaload C (hM.k 56 rfl) (hM.b' 56 rfl (y7.b) (by decide)) dX5_made_60 ?_
            refine z_int (hM.t 56 rfl (by decide) _) ?_
            refine z_iadd C dX5_made_61 ?_
            refine z_aload_n C rfl dX5_made_62 ?_
            refine zg5_sizes C (fun w h => List.mem_cons_of_mem _ (um_wsX50 w h)) hM.1 (List.mem_cons_of_mem _ wm18) dX5_made_63 ?_
            refine z_ref (hM.q 56 rfl) ?_
            refine z_iload_n C rfl dX5_made_66 ?_
            refine z_iaload C (hM.k 56 rfl) (hM.b' 56 rfl (y15.b) (by decide)) dX5_made_67 ?_
            refine z_int (hM.t 56 rfl (by decide) _) ?_
            refine z_iadd C dX5_made_68 ?_
            refine z_istore [_, _, _, _, _, _] C (by decide) rfl dX5_made_69 ?_
            refine z_aload_n C rfl dX5_made_71 ?_
            refine z_iload C rfl dX5_made_72 ?_
            refine z_iconst 1 (by decide) C dX5_made_74 ?_
            refine z_callM 2 [zi (0), zi 1] C rfl (M_fails0 hl0 hM h39 0 1 (by decide)) rfl (zgoodV LWm_good wm64 wm65 wm66 wm37 wm67) rfl rfl rfl (by decide +kernel) rfl (by rw [hR]; exact ⟨Nat.le_of_ble_eq_true rfl, Nat.le_of_ble_eq_true rfl⟩) hM.1 (by rw [hR]; exact ⟨Nat.le_of_ble_eq_true rfl, Nat.le_of_ble_eq_true rfl⟩) (Nat.le_of_ble_eq_true rfl) dX5_made_75 (fun v75 S75 h75 => ?_) (fun E75 S75 h75 => ?_)
            · obtain ⟨rfl, q75⟩ := h75
              subst S75
              refine z_if_ne 123 C dX5_made_78 (by decide) (fun c78 => absurd c78 (by decide)) (fun _ => ?_)
              refine z_aload_n C rfl dX5_made_81 ?_
              refine z_iload C rfl dX5_made_82 ?_
              refine z_bipush 15 (by decide) C dX5_made_84 ?_
              refine z_icmp_le 93 C dX5_made_86 (by decide) (fun c86 => ?_) (fun c86 => ?_)
              · refine z_iconst 0 (by decide) C dX5_made_93 ?_
                refine z_iconst 2 (by decide) C dX5_made_94 ?_
                refine z_callM 2 [zi (0), zi 2] C rfl (M_fails0 hl0 hM h39 0 2 (by decide)) rfl (zgoodV LWm_good wm64 wm65 wm66 wm37 wm67) rfl rfl rfl (by decide +kernel) rfl (by rw [hR]; exact ⟨Nat.le_of_ble_eq_true rfl, Nat.le_of_ble_eq_true rfl⟩) hM.1 (by rw [hR]; exact ⟨Nat.le_of_ble_eq_true rfl, Nat.le_of_ble_eq_true rfl⟩) (Nat.le_of_ble_eq_true rfl) dX5_made_95 (fun v95 S95 h95 => ?_) (fun E95 S95 h95 => ?_)
                · obtain ⟨rfl, q95⟩ := h95
                  subst S95
                  refine z_if_ne 123 C dX5_made_98 (by decide) (fun c98 => absurd c98 (by decide)) (fun _ => ?_)
                  refine z_aload_n C rfl dX5_made_101 ?_
                  refine z_aload_n C rfl dX5_made_102 ?_
                  refine zg5_rules C (fun w h => List.mem_cons_of_mem _ (um_wsX50 w h)) hM.1 (List.mem_cons_of_mem _ wm40) dX5_made_103 ?_
                  refine z_int (hM.i 52 rfl) ?_
                  refine z_bipush 40 (by decide) C dX5_made_106 ?_
                  refine z_icmp_ne 115 C dX5_made_108 (by decide) (fun c108 => ?_) (fun c108 => ?_)
                  · refine z_iconst 0 (by decide) C dX5_made_115 ?_
                    refine z_iconst 3 (by decide) C dX5_made_116 ?_
                    refine z_callM 2 [zi (0), zi 3] C rfl (M_fails0 hl0 hM h39 0 3 (by decide)) rfl (zgoodV LWm_good wm64 wm65 wm66 wm37 wm67) rfl rfl rfl (by decide +kernel) rfl (by rw [hR]; exact ⟨Nat.le_of_ble_eq_true rfl, Nat.le_of_ble_eq_true rfl⟩) hM.1 (by rw [hR]; exact ⟨Nat.le_of_ble_eq_true rfl, Nat.le_of_ble_eq_true rfl⟩) (Nat.le_of_ble_eq_true rfl) dX5_made_117 (fun v117 S117 h117 => ?_) (fun E117 S117 h117 => ?_)
                    · obtain ⟨rfl, q117⟩ := h117
                      subst S117
                      refine z_if_eq 127 C dX5_made_120 (by decide) (fun _ => ?_) (fun c120 => absurd c120 (by decide))
                      refine z_aload_n C rfl dX5_made_127 ?_
                      refine z_iload_n C rfl dX5_made_128 ?_
                      refine z_iload_n C rfl dX5_made_129 ?_
                      refine z_iload_n C rfl dX5_made_130 ?_
                      refine z_iload C rfl dX5_made_131 ?_
                      refine z_callM 4 [zi kd, zi x, zi y, zi (1 + D 56 (ix x) + D 56 (ix y))] C rfl (M_addRule hl0 hM hN.2.2.1.1 (n40 hN c108) kd x y (1 + D 56 (ix x) + D 56 (ix y))) rfl (zgoodV LWm_good wm95 wm96 wm97 wm37 wm98) rfl rfl rfl (by decide +kernel) rfl (by rw [hR]; exact ⟨Nat.le_of_ble_eq_true rfl, Nat.le_of_ble_eq_true rfl⟩) hM.1 (by rw [hR]; exact ⟨Nat.le_of_ble_eq_true rfl, Nat.le_of_ble_eq_true rfl⟩) (Nat.le_of_ble_eq_true rfl) dX5_made_133 (fun v133 S133 h133 => ?_) (fun E133 S133 h133 => ?_)
                      · obtain ⟨rfl, hM⟩ := h133
                        refine z_ireturn C F (Nat.le_of_ble_eq_true rfl) (Nat.le_of_ble_eq_true rfl) dX5_made_136 ?_
                        rw [hsz] at hM; exact Or.inl ⟨y7, y15, by rw [← hsz]; exact Int32.not_lt.mpr c86, c108, rfl, hM⟩
                      · exact h133.elim
                    · exact h117.elim
                  · refine z_iconst 1 (by decide) C dX5_made_111 ?_
                    refine z_goto 116 C dX5_made_112 (by decide) ?_
                    refine z_iconst 3 (by decide) C dX5_made_116 ?_
                    refine z_callM 2 [zi (1), zi 3] C rfl (M_fails1 hl0 hM h39 1 3 (by decide)) rfl (zgoodV LWm_good wm64 wm65 wm66 wm37 wm67) rfl rfl rfl (by decide +kernel) rfl (by rw [hR]; exact ⟨Nat.le_of_ble_eq_true rfl, Nat.le_of_ble_eq_true rfl⟩) hM.1 (by rw [hR]; exact ⟨Nat.le_of_ble_eq_true rfl, Nat.le_of_ble_eq_true rfl⟩) (Nat.le_of_ble_eq_true rfl) dX5_made_117 (fun v117 S117 h117 => ?_) (fun E117 S117 h117 => ?_)
                    · obtain ⟨rfl, hM⟩ := h117
                      refine z_if_eq 127 C dX5_made_120 (by decide) (fun c120 => absurd c120 (by decide)) (fun _ => ?_)
                      refine z_iconst 0 (by decide) C dX5_made_123 ?_
                      refine z_goto 136 C dX5_made_124 (by decide) ?_
                      refine z_ireturn C F (Nat.le_of_ble_eq_true rfl) (Nat.le_of_ble_eq_true rfl) dX5_made_136 ?_
                      exact Or.inr (Or.inr (Or.inr ⟨y7, y15, by rw [← hsz]; exact Int32.not_lt.mpr c86, c108, rfl, hM⟩))
                    · exact h117.elim
                · exact h95.elim
              · refine z_iconst 1 (by decide) C dX5_made_89 ?_
                refine z_goto 94 C dX5_made_90 (by decide) ?_
                refine z_iconst 2 (by decide) C dX5_made_94 ?_
                refine z_callM 2 [zi (1), zi 2] C rfl (M_fails1 hl0 hM h39 1 2 (by decide)) rfl (zgoodV LWm_good wm64 wm65 wm66 wm37 wm67) rfl rfl rfl (by decide +kernel) rfl (by rw [hR]; exact ⟨Nat.le_of_ble_eq_true rfl, Nat.le_of_ble_eq_true rfl⟩) hM.1 (by rw [hR]; exact ⟨Nat.le_of_ble_eq_true rfl, Nat.le_of_ble_eq_true rfl⟩) (Nat.le_of_ble_eq_true rfl) dX5_made_95 (fun v95 S95 h95 => ?_) (fun E95 S95 h95 => ?_)
                · obtain ⟨rfl, hM⟩ := h95
                  refine z_if_ne 123 C dX5_made_98 (by decide) (fun _ => ?_) (fun c98 => absurd c98 (by decide))
                  refine z_iconst 0 (by decide) C dX5_made_123 ?_
                  refine z_goto 136 C dX5_made_124 (by decide) ?_
                  refine z_ireturn C F (Nat.le_of_ble_eq_true rfl) (Nat.le_of_ble_eq_true rfl) dX5_made_136 ?_
                  exact Or.inr (Or.inr (Or.inl ⟨y7, y15, by rw [← hsz]; exact Int32.not_le.mp c86, rfl, hM⟩))
                · exact h95.elim
            · exact h75.elim
          · have hsz : 1 + D 56 (ix x) = (if kd = 8 then 1 + D 56 (ix x) else 1 + D 56 (ix x) + D 56 (ix y)) := (if_pos c40).symm
            refine z_iconst 1 (by decide) C dX5_made_43 ?_
            refine z_aload_n C rfl dX5_made_44 ?_
            refine zg5_sizes C (fun w h => List.mem_cons_of_mem _ (um_wsX50 w h)) hM.1 (List.mem_cons_of_mem _ wm18) dX5_made_45 ?_
            refine z_ref (hM.q 56 rfl) ?_
            refine z_iload_n C rfl dX5_made_48 ?_
            refine z_iaload C (hM.k 56 rfl) (hM.b' 56 rfl (y7.b) (by decide)) dX5_made_49 ?_
            refine z_int (hM.t 56 rfl (by decide) _) ?_
            refine z_iadd C dX5_made_50 ?_
            refine z_goto 69 C dX5_made_51 (by decide) ?_
            refine z_istore [_, _, _, _, _, _] C (by decide) rfl dX5_made_69 ?_
            refine z_aload_n C rfl dX5_made_71 ?_
            refine z_iload C rfl dX5_made_72 ?_
            refine z_iconst 1 (by decide) C dX5_made_74 ?_
            refine z_callM 2 [zi (0), zi 1] C rfl (M_fails0 hl0 hM h39 0 1 (by decide)) rfl (zgoodV LWm_good wm64 wm65 wm66 wm37 wm67) rfl rfl rfl (by decide +kernel) rfl (by rw [hR]; exact ⟨Nat.le_of_ble_eq_true rfl, Nat.le_of_ble_eq_true rfl⟩) hM.1 (by rw [hR]; exact ⟨Nat.le_of_ble_eq_true rfl, Nat.le_of_ble_eq_true rfl⟩) (Nat.le_of_ble_eq_true rfl) dX5_made_75 (fun v75 S75 h75 => ?_) (fun E75 S75 h75 => ?_)
            · obtain ⟨rfl, q75⟩ := h75
              subst S75
              refine z_if_ne 123 C dX5_made_78 (by decide) (fun c78 => absurd c78 (by decide)) (fun _ => ?_)
              refine z_aload_n C rfl dX5_made_81 ?_
              refine z_iload C rfl dX5_made_82 ?_
              refine z_bipush 15 (by decide) C dX5_made_84 ?_
              refine z_icmp_le 93 C dX5_made_86 (by decide) (fun c86 => ?_) (fun c86 => ?_)
              · refine z_iconst 0 (by decide) C dX5_made_93 ?_
                refine z_iconst 2 (by decide) C dX5_made_94 ?_
                refine z_callM 2 [zi (0), zi 2] C rfl (M_fails0 hl0 hM h39 0 2 (by decide)) rfl (zgoodV LWm_good wm64 wm65 wm66 wm37 wm67) rfl rfl rfl (by decide +kernel) rfl (by rw [hR]; exact ⟨Nat.le_of_ble_eq_true rfl, Nat.le_of_ble_eq_true rfl⟩) hM.1 (by rw [hR]; exact ⟨Nat.le_of_ble_eq_true rfl, Nat.le_of_ble_eq_true rfl⟩) (Nat.le_of_ble_eq_true rfl) dX5_made_95 (fun v95 S95 h95 => ?_) (fun E95 S95 h95 => ?_)
                · obtain ⟨rfl, q95⟩ := h95
                  subst S95
                  refine z_if_ne 123 C dX5_made_98 (by decide) (fun c98 => absurd c98 (by decide)) (fun _ => ?_)
                  refine z_aload_n C rfl dX5_made_101 ?_
                  refine z_aload_n C rfl dX5_made_102 ?_
                  refine zg5_rules C (fun w h => List.mem_cons_of_mem _ (um_wsX50 w h)) hM.1 (List.mem_cons_of_mem _ wm40) dX5_made_103 ?_
                  refine z_int (hM.i 52 rfl) ?_
                  refine z_bipush 40 (by decide) C dX5_made_106 ?_
                  refine z_icmp_ne 115 C dX5_made_108 (by decide) (fun c108 => ?_) (fun c108 => ?_)
                  · refine z_iconst 0 (by decide) C dX5_made_115 ?_
                    refine z_iconst 3 (by decide) C dX5_made_116 ?_
                    refine z_callM 2 [zi (0), zi 3] C rfl (M_fails0 hl0 hM h39 0 3 (by decide)) rfl (zgoodV LWm_good wm64 wm65 wm66 wm37 wm67) rfl rfl rfl (by decide +kernel) rfl (by rw [hR]; exact ⟨Nat.le_of_ble_eq_true rfl, Nat.le_of_ble_eq_true rfl⟩) hM.1 (by rw [hR]; exact ⟨Nat.le_of_ble_eq_true rfl, Nat.le_of_ble_eq_true rfl⟩) (Nat.le_of_ble_eq_true rfl) dX5_made_117 (fun v117 S117 h117 => ?_) (fun E117 S117 h117 => ?_)
                    · obtain ⟨rfl, q117⟩ := h117
                      subst S117
                      refine z_if_eq 127 C dX5_made_120 (by decide) (fun _ => ?_) (fun c120 => absurd c120 (by decide))
                      refine z_aload_n C rfl dX5_made_127 ?_
                      refine z_iload_n C rfl dX5_made_128 ?_
                      refine z_iload_n C rfl dX5_made_129 ?_
                      refine z_iload_n C rfl dX5_made_130 ?_
                      refine z_iload C rfl dX5_made_131 ?_
                      refine z_callM 4 [zi kd, zi x, zi y, zi (1 + D 56 (ix x))] C rfl (M_addRule hl0 hM hN.2.2.1.1 (n40 hN c108) kd x y (1 + D 56 (ix x))) rfl (zgoodV LWm_good wm95 wm96 wm97 wm37 wm98) rfl rfl rfl (by decide +kernel) rfl (by rw [hR]; exact ⟨Nat.le_of_ble_eq_true rfl, Nat.le_of_ble_eq_true rfl⟩) hM.1 (by rw [hR]; exact ⟨Nat.le_of_ble_eq_true rfl, Nat.le_of_ble_eq_true rfl⟩) (Nat.le_of_ble_eq_true rfl) dX5_made_133 (fun v133 S133 h133 => ?_) (fun E133 S133 h133 => ?_)
                      · obtain ⟨rfl, hM⟩ := h133
                        refine z_ireturn C F (Nat.le_of_ble_eq_true rfl) (Nat.le_of_ble_eq_true rfl) dX5_made_136 ?_
                        rw [hsz] at hM; exact Or.inl ⟨y7, y15, by rw [← hsz]; exact Int32.not_lt.mpr c86, c108, rfl, hM⟩
                      · exact h133.elim
                    · exact h117.elim
                  · refine z_iconst 1 (by decide) C dX5_made_111 ?_
                    refine z_goto 116 C dX5_made_112 (by decide) ?_
                    refine z_iconst 3 (by decide) C dX5_made_116 ?_
                    refine z_callM 2 [zi (1), zi 3] C rfl (M_fails1 hl0 hM h39 1 3 (by decide)) rfl (zgoodV LWm_good wm64 wm65 wm66 wm37 wm67) rfl rfl rfl (by decide +kernel) rfl (by rw [hR]; exact ⟨Nat.le_of_ble_eq_true rfl, Nat.le_of_ble_eq_true rfl⟩) hM.1 (by rw [hR]; exact ⟨Nat.le_of_ble_eq_true rfl, Nat.le_of_ble_eq_true rfl⟩) (Nat.le_of_ble_eq_true rfl) dX5_made_117 (fun v117 S117 h117 => ?_) (fun E117 S117 h117 => ?_)
                    · obtain ⟨rfl, hM⟩ := h117
                      refine z_if_eq 127 C dX5_made_120 (by decide) (fun c120 => absurd c120 (by decide)) (fun _ => ?_)
                      refine z_iconst 0 (by decide) C dX5_made_123 ?_
                      refine z_goto 136 C dX5_made_124 (by decide) ?_
                      refine z_ireturn C F (Nat.le_of_ble_eq_true rfl) (Nat.le_of_ble_eq_true rfl) dX5_made_136 ?_
                      exact Or.inr (Or.inr (Or.inr ⟨y7, y15, by rw [← hsz]; exact Int32.not_lt.mpr c86, c108, rfl, hM⟩))
                    · exact h117.elim
                · exact h95.elim
              · refine z_iconst 1 (by decide) C dX5_made_89 ?_
                refine z_goto 94 C dX5_made_90 (by decide) ?_
                refine z_iconst 2 (by decide) C dX5_made_94 ?_
                refine z_callM 2 [zi (1), zi 2] C rfl (M_fails1 hl0 hM h39 1 2 (by decide)) rfl (zgoodV LWm_good wm64 wm65 wm66 wm37 wm67) rfl rfl rfl (by decide +kernel) rfl (by rw [hR]; exact ⟨Nat.le_of_ble_eq_true rfl, Nat.le_of_ble_eq_true rfl⟩) hM.1 (by rw [hR]; exact ⟨Nat.le_of_ble_eq_true rfl, Nat.le_of_ble_eq_true rfl⟩) (Nat.le_of_ble_eq_true rfl) dX5_made_95 (fun v95 S95 h95 => ?_) (fun E95 S95 h95 => ?_)
                · obtain ⟨rfl, hM⟩ := h95
                  refine z_if_ne 123 C dX5_made_98 (by decide) (fun _ => ?_) (fun c98 => absurd c98 (by decide))
                  refine z_iconst 0 (by decide) C dX5_made_123 ?_
                  refine z_goto 136 C dX5_made_124 (by decide) ?_
                  refine z_ireturn C F (Nat.le_of_ble_eq_true rfl) (Nat.le_of_ble_eq_true rfl) dX5_made_136 ?_
                  exact Or.inr (Or.inr (Or.inl ⟨y7, y15, by rw [← hsz]; exact Int32.not_le.mp c86, rfl, hM⟩))
                · exact h95.elim
            · exact h75.elim
        | true =>
          have y15 := b_tf hb15
          refine z_if_eq 25 C dX5_made_18 (by decide) (fun c18 => absurd c18 (by decide)) (fun _ => ?_)
          refine z_iconst 1 (by decide) C dX5_made_21 ?_
          refine z_goto 26 C dX5_made_22 (by decide) ?_
          refine z_istore [_, _, _, _, _, _] C (by decide) rfl dX5_made_26 ?_
          refine z_iload C rfl dX5_made_28 ?_
          refine z_if_eq 37 C dX5_made_30 (by decide) (fun c30 => absurd c30 (by decide)) (fun _ => ?_)
          refine z_iconst 0 (by decide) C dX5_made_33 ?_
          refine z_goto 69 C dX5_made_34 (by decide) ?_
          refine z_istore [_, _, _, _, _, _] C (by decide) rfl dX5_made_69 ?_
          refine z_aload_n C rfl dX5_made_71 ?_
          refine z_iload C rfl dX5_made_72 ?_
          refine z_iconst 1 (by decide) C dX5_made_74 ?_
          refine z_callM 2 [zi (1), zi 1] C rfl (M_fails1 hl0 hM h39 1 1 (by decide)) rfl (zgoodV LWm_good wm64 wm65 wm66 wm37 wm67) rfl rfl rfl (by decide +kernel) rfl (by rw [hR]; exact ⟨Nat.le_of_ble_eq_true rfl, Nat.le_of_ble_eq_true rfl⟩) hM.1 (by rw [hR]; exact ⟨Nat.le_of_ble_eq_true rfl, Nat.le_of_ble_eq_true rfl⟩) (Nat.le_of_ble_eq_true rfl) dX5_made_75 (fun v75 S75 h75 => ?_) (fun E75 S75 h75 => ?_)
          · obtain ⟨rfl, hM⟩ := h75
            refine z_if_ne 123 C dX5_made_78 (by decide) (fun _ => ?_) (fun c78 => absurd c78 (by decide))
            refine z_iconst 0 (by decide) C dX5_made_123 ?_
            refine z_goto 136 C dX5_made_124 (by decide) ?_
            refine z_ireturn C F (Nat.le_of_ble_eq_true rfl) (Nat.le_of_ble_eq_true rfl) dX5_made_136 ?_
            first | exact Or.inr (Or.inl ⟨fun z => y7 z.1, rfl, hM⟩) | exact Or.inr (Or.inl ⟨fun z => y15 z.2, rfl, hM⟩)
          · exact h75.elim
      · exact h15.elim
    | true =>
      have y7 := b_tf hb7
      refine z_if_ne 21 C dX5_made_10 (by decide) (fun _ => ?_) (fun c10 => absurd c10 (by decide))
      refine z_iconst 1 (by decide) C dX5_made_21 ?_
      refine z_goto 26 C dX5_made_22 (by decide) ?_
      refine z_istore [_, _, _, _, _, _] C (by decide) rfl dX5_made_26 ?_
      refine z_iload C rfl dX5_made_28 ?_
      refine z_if_eq 37 C dX5_made_30 (by decide) (fun c30 => absurd c30 (by decide)) (fun _ => ?_)
      refine z_iconst 0 (by decide) C dX5_made_33 ?_
      refine z_goto 69 C dX5_made_34 (by decide) ?_
      refine z_istore [_, _, _, _, _, _] C (by decide) rfl dX5_made_69 ?_
      refine z_aload_n C rfl dX5_made_71 ?_
      refine z_iload C rfl dX5_made_72 ?_
      refine z_iconst 1 (by decide) C dX5_made_74 ?_
      refine z_callM 2 [zi (1), zi 1] C rfl (M_fails1 hl0 hM h39 1 1 (by decide)) rfl (zgoodV LWm_good wm64 wm65 wm66 wm37 wm67) rfl rfl rfl (by decide +kernel) rfl (by rw [hR]; exact ⟨Nat.le_of_ble_eq_true rfl, Nat.le_of_ble_eq_true rfl⟩) hM.1 (by rw [hR]; exact ⟨Nat.le_of_ble_eq_true rfl, Nat.le_of_ble_eq_true rfl⟩) (Nat.le_of_ble_eq_true rfl) dX5_made_75 (fun v75 S75 h75 => ?_) (fun E75 S75 h75 => ?_)
      · obtain ⟨rfl, hM⟩ := h75
        refine z_if_ne 123 C dX5_made_78 (by decide) (fun _ => ?_) (fun c78 => absurd c78 (by decide))
        refine z_iconst 0 (by decide) C dX5_made_123 ?_
        refine z_goto 136 C dX5_made_124 (by decide) ?_
        refine z_ireturn C F (Nat.le_of_ble_eq_true rfl) (Nat.le_of_ble_eq_true rfl) dX5_made_136 ?_
        first | exact Or.inr (Or.inl ⟨fun z => y7 z.1, rfl, hM⟩) | exact Or.inr (Or.inl ⟨fun z => y15 z.2, rfl, hM⟩)
      · exact h75.elim
  · exact h7.elim
theorem iM_noTag {l : Launch} (hl0 : l.stackTraces = false) {D : ZD} {J : Nat → Int64} {S : ZM} {M : Nat} {r : Nat → Nat} (hM : iM D J S M r) (hN : wfN D) (x : Int32) : zMet l yX5_noTag (Cond.code yX5_noTag cX5_noTag 2 (some .boolean) :: LWm) ({ frames := 1, cells := 0, slots := 0, locals := 22 } : Room) 0 0 [zr (some M), zi x] S (zPo (fun v S' => ∃ b : Bool, v = some (zi (bI b)) ∧ (b = false ↔ hasTg D x) ∧ S' = S) (fun _ _ => False)) := by
  obtain ⟨w, hM⟩ := hM
  have q := M_noTag hl0 hM (D := s39 D w) hN x
  exact q
theorem iM_noList {l : Launch} (hl0 : l.stackTraces = false) {D : ZD} {J : Nat → Int64} {S : ZM} {M : Nat} {r : Nat → Nat} (hM : iM D J S M r) (hN : wfN D) (x : Int32) : zMet l yX5_noList (Cond.code yX5_noList cX5_noList 2 (some .boolean) :: LWm) ({ frames := 1, cells := 0, slots := 0, locals := 22 } : Room) 0 0 [zr (some M), zi x] S (zPo (fun v S' => ∃ b : Bool, v = some (zi (bI b)) ∧ (b = false ↔ hasLs D x) ∧ S' = S) (fun _ _ => False)) := by
  obtain ⟨w, hM⟩ := hM
  have q := M_noList hl0 hM (D := s39 D w) hN x
  exact q
set_option maxRecDepth 100000 in
set_option maxHeartbeats 800000 in
theorem M_hasTag {l : Launch} (hl0 : l.stackTraces = false) {D : ZD} {J : Nat → Int64} {S : ZM} {M : Nat} {r : Nat → Nat} (hM0 : iM D J S M r) (h39 : D 39 0 = 0) (hC : wC D) (x : Int32) : zMet l yX5_hasTag (Cond.code yX5_hasTag cX5_hasTag 2 (some .int) :: LWm) ({ frames := 2, cells := 0, slots := 0, locals := 47 } : Room) 0 0 [zr (some M), zi x] S (zPo (fun v S' => (hasTg D x ∧ ¬ D 52 0 = 40 ∧ v = some (zi (D 52 0)) ∧ mR (opRule D 0 x 0 1) J S' M r) ∨ (¬ hasTg D x ∧ v = some (zi 0) ∧ mR (s39 D 1) J S' M r) ∨ (hasTg D x ∧ D 52 0 = 40 ∧ v = some (zi 0) ∧ mR (s39 D 2) J S' M r)) (fun _ _ => False)) := by
  refine zMet.of' [some (zr (some M)), some (zi x)] hl0 (by decide) rfl (Nat.le_of_ble_eq_true rfl) rfl ?_
  intro X C N hR hN0 hX F
  subst hX
  have hN := hC.1
  refine z_aload_n C rfl dX5_hasTag_0 ?_
  refine z_iconst 0 (by decide) C dX5_hasTag_1 ?_
  refine z_iload_n C rfl dX5_hasTag_2 ?_
  refine z_aload_n C rfl dX5_hasTag_3 ?_
  refine z_iload_n C rfl dX5_hasTag_4 ?_
  refine z_callM 1 [zi x] C rfl ((iM_noTag hl0 hM0 hN x)) rfl (zgoodV LWm_good wm80 wm81 wm82 wm37 wm83) rfl rfl rfl (by decide +kernel) rfl (by rw [hR]; exact ⟨Nat.le_of_ble_eq_true rfl, Nat.le_of_ble_eq_true rfl⟩) hM0.k (by rw [hR]; exact ⟨Nat.le_of_ble_eq_true rfl, Nat.le_of_ble_eq_true rfl⟩) (Nat.le_of_ble_eq_true rfl) dX5_hasTag_5 (fun v5 S5 h5 => ?_) (fun E5 S5 h5 => ?_)
  · obtain ⟨b5, rfl, hb5, q5⟩ := h5
    subst S5
    cases b5 with
    | false =>
      have y5 := hb5.mp rfl
      refine z_if_ne 15 C dX5_hasTag_8 (by decide) (fun c8 => absurd c8 (by decide)) (fun _ => ?_)
      refine z_iconst 1 (by decide) C dX5_hasTag_11 ?_
      refine z_goto 16 C dX5_hasTag_12 (by decide) ?_
      refine z_callM 3 [zi 0, zi x, zi 1] C rfl (M_simple hl0 hM0 h39 hC 0 x true) rfl (zgoodV LWm_good wm99 wm100 wm101 wm37 wm102) rfl rfl rfl (by decide +kernel) rfl (by rw [hR]; exact ⟨Nat.le_of_ble_eq_true rfl, Nat.le_of_ble_eq_true rfl⟩) hM0.k (by rw [hR]; exact ⟨Nat.le_of_ble_eq_true rfl, Nat.le_of_ble_eq_true rfl⟩) (Nat.le_of_ble_eq_true rfl) dX5_hasTag_16 (fun v16 S16 h16 => ?_) (fun E16 S16 h16 => ?_)
      · obtain ⟨w9, rfl⟩ : ∃ w9 : Int32, v16 = some (zi w9) := by
          rcases h16 with ⟨-, -, e, -⟩ | ⟨-, e, -⟩ | ⟨-, -, e, -⟩
          · exact ⟨_, e⟩
          · exact ⟨_, e⟩
          · exact ⟨_, e⟩
        refine z_ireturn C F (Nat.le_of_ble_eq_true rfl) (Nat.le_of_ble_eq_true rfl) dX5_hasTag_19 ?_
        rcases h16 with ⟨e1, e2, e3⟩ | ⟨e1, e3⟩ | ⟨e1, e2, e3⟩
        · first | exact Or.inl ⟨y5, e2, e3⟩ | cases e1
        · first | exact Or.inr (Or.inl ⟨y5, e3⟩) | cases e1
        · first | exact Or.inr (Or.inr ⟨y5, e2, e3⟩) | cases e1
      · exact h16.elim
    | true =>
      have y5 := b_tf hb5
      refine z_if_ne 15 C dX5_hasTag_8 (by decide) (fun _ => ?_) (fun c8 => absurd c8 (by decide))
      refine z_iconst 0 (by decide) C dX5_hasTag_15 ?_
      refine z_callM 3 [zi 0, zi x, zi 0] C rfl (M_simple hl0 hM0 h39 hC 0 x false) rfl (zgoodV LWm_good wm99 wm100 wm101 wm37 wm102) rfl rfl rfl (by decide +kernel) rfl (by rw [hR]; exact ⟨Nat.le_of_ble_eq_true rfl, Nat.le_of_ble_eq_true rfl⟩) hM0.k (by rw [hR]; exact ⟨Nat.le_of_ble_eq_true rfl, Nat.le_of_ble_eq_true rfl⟩) (Nat.le_of_ble_eq_true rfl) dX5_hasTag_16 (fun v16 S16 h16 => ?_) (fun E16 S16 h16 => ?_)
      · obtain ⟨w9, rfl⟩ : ∃ w9 : Int32, v16 = some (zi w9) := by
          rcases h16 with ⟨-, -, e, -⟩ | ⟨-, e, -⟩ | ⟨-, -, e, -⟩
          · exact ⟨_, e⟩
          · exact ⟨_, e⟩
          · exact ⟨_, e⟩
        refine z_ireturn C F (Nat.le_of_ble_eq_true rfl) (Nat.le_of_ble_eq_true rfl) dX5_hasTag_19 ?_
        rcases h16 with ⟨e1, e2, e3⟩ | ⟨e1, e3⟩ | ⟨e1, e2, e3⟩
        · first | exact Or.inl ⟨y5, e2, e3⟩ | cases e1
        · first | exact Or.inr (Or.inl ⟨y5, e3⟩) | cases e1
        · first | exact Or.inr (Or.inr ⟨y5, e2, e3⟩) | cases e1
      · exact h16.elim
  · exact h5.elim
set_option maxRecDepth 100000 in
set_option maxHeartbeats 800000 in
theorem M_rated {l : Launch} (hl0 : l.stackTraces = false) {D : ZD} {J : Nat → Int64} {S : ZM} {M : Nat} {r : Nat → Nat} (hM0 : iM D J S M r) (h39 : D 39 0 = 0) (hC : wC D) (x : Int32) : zMet l yX5_rated (Cond.code yX5_rated cX5_rated 2 (some .int) :: LWm) ({ frames := 2, cells := 0, slots := 0, locals := 47 } : Room) 0 0 [zr (some M), zi x] S (zPo (fun v S' => ((0 ≤ x ∧ x ≤ 5) ∧ ¬ D 52 0 = 40 ∧ v = some (zi (D 52 0)) ∧ mR (opRule D 1 x 0 1) J S' M r) ∨ (¬ (0 ≤ x ∧ x ≤ 5) ∧ v = some (zi 0) ∧ mR (s39 D 1) J S' M r) ∨ ((0 ≤ x ∧ x ≤ 5) ∧ D 52 0 = 40 ∧ v = some (zi 0) ∧ mR (s39 D 2) J S' M r)) (fun _ _ => False)) := by
  refine zMet.of' [some (zr (some M)), some (zi x)] hl0 (by decide) rfl (Nat.le_of_ble_eq_true rfl) rfl ?_
  intro X C N hR hN0 hX F
  subst hX
  have hN := hC.1
  refine z_aload_n C rfl dX5_rated_0 ?_
  refine z_iconst 1 (by decide) C dX5_rated_1 ?_
  refine z_iload_n C rfl dX5_rated_2 ?_
  refine z_iload_n C rfl dX5_rated_3 ?_
  refine z_iconst 0 (by decide) C dX5_rated_4 ?_
  refine z_iconst 5 (by decide) C dX5_rated_5 ?_
  refine z_callS 3 [zi x, zi 0, zi 5] C (M_in hl0 x 0 5) rfl (zgoodS LWm_good wm35 wm36 wm37 wm38) rfl rfl rfl (by decide +kernel) rfl (by rw [hR]; exact ⟨Nat.le_of_ble_eq_true rfl, Nat.le_of_ble_eq_true rfl⟩) (by rw [hR]; exact ⟨Nat.le_of_ble_eq_true rfl, Nat.le_of_ble_eq_true rfl⟩) (Nat.le_of_ble_eq_true rfl) dX5_rated_6 (fun v6 S6 h6 => ?_) (fun E6 S6 h6 => ?_)
  · obtain ⟨b9, rfl, hb9, q9⟩ := h6
    subst S6
    refine z_callM 3 [zi 1, zi x, zi (bI b9)] C rfl (M_simple hl0 hM0 h39 hC 1 x b9) rfl (zgoodV LWm_good wm99 wm100 wm101 wm37 wm102) rfl rfl rfl (by decide +kernel) rfl (by rw [hR]; exact ⟨Nat.le_of_ble_eq_true rfl, Nat.le_of_ble_eq_true rfl⟩) hM0.k (by rw [hR]; exact ⟨Nat.le_of_ble_eq_true rfl, Nat.le_of_ble_eq_true rfl⟩) (Nat.le_of_ble_eq_true rfl) dX5_rated_9 (fun v9 S9 h9 => ?_) (fun E9 S9 h9 => ?_)
    · obtain ⟨w9, rfl⟩ : ∃ w9 : Int32, v9 = some (zi w9) := by
        rcases h9 with ⟨-, -, e, -⟩ | ⟨-, e, -⟩ | ⟨-, -, e, -⟩
        · exact ⟨_, e⟩
        · exact ⟨_, e⟩
        · exact ⟨_, e⟩
      refine z_ireturn C F (Nat.le_of_ble_eq_true rfl) (Nat.le_of_ble_eq_true rfl) dX5_rated_12 ?_
      rcases h9 with ⟨e1, e2, e3⟩ | ⟨e1, e3⟩ | ⟨e1, e2, e3⟩
      · exact Or.inl ⟨hb9.mp e1, e2, e3⟩
      · exact Or.inr (Or.inl ⟨fun z => (by rw [hb9.mpr z] at e1; cases e1), e3⟩)
      · exact Or.inr (Or.inr ⟨hb9.mp e1, e2, e3⟩)
    · exact h9.elim
  · exact h6.elim
set_option maxRecDepth 100000 in
set_option maxHeartbeats 800000 in
theorem M_playedAtMost {l : Launch} (hl0 : l.stackTraces = false) {D : ZD} {J : Nat → Int64} {S : ZM} {M : Nat} {r : Nat → Nat} (hM0 : iM D J S M r) (h39 : D 39 0 = 0) (hC : wC D) (x : Int32) : zMet l yX5_playedAtMost (Cond.code yX5_playedAtMost cX5_playedAtMost 2 (some .int) :: LWm) ({ frames := 2, cells := 0, slots := 0, locals := 47 } : Room) 0 0 [zr (some M), zi x] S (zPo (fun v S' => ((0 ≤ x ∧ x ≤ 999) ∧ ¬ D 52 0 = 40 ∧ v = some (zi (D 52 0)) ∧ mR (opRule D 2 x 0 1) J S' M r) ∨ (¬ (0 ≤ x ∧ x ≤ 999) ∧ v = some (zi 0) ∧ mR (s39 D 1) J S' M r) ∨ ((0 ≤ x ∧ x ≤ 999) ∧ D 52 0 = 40 ∧ v = some (zi 0) ∧ mR (s39 D 2) J S' M r)) (fun _ _ => False)) := by
  refine zMet.of' [some (zr (some M)), some (zi x)] hl0 (by decide) rfl (Nat.le_of_ble_eq_true rfl) rfl ?_
  intro X C N hR hN0 hX F
  subst hX
  have hN := hC.1
  refine z_aload_n C rfl dX5_playedAtMost_0 ?_
  refine z_iconst 2 (by decide) C dX5_playedAtMost_1 ?_
  refine z_iload_n C rfl dX5_playedAtMost_2 ?_
  refine z_iload_n C rfl dX5_playedAtMost_3 ?_
  refine z_iconst 0 (by decide) C dX5_playedAtMost_4 ?_
  refine z_sipush 999 (by decide) C dX5_playedAtMost_5 ?_
  refine z_callS 3 [zi x, zi 0, zi 999] C (M_in hl0 x 0 999) rfl (zgoodS LWm_good wm35 wm36 wm37 wm38) rfl rfl rfl (by decide +kernel) rfl (by rw [hR]; exact ⟨Nat.le_of_ble_eq_true rfl, Nat.le_of_ble_eq_true rfl⟩) (by rw [hR]; exact ⟨Nat.le_of_ble_eq_true rfl, Nat.le_of_ble_eq_true rfl⟩) (Nat.le_of_ble_eq_true rfl) dX5_playedAtMost_8 (fun v8 S8 h8 => ?_) (fun E8 S8 h8 => ?_)
  · obtain ⟨b9, rfl, hb9, q9⟩ := h8
    subst S8
    refine z_callM 3 [zi 2, zi x, zi (bI b9)] C rfl (M_simple hl0 hM0 h39 hC 2 x b9) rfl (zgoodV LWm_good wm99 wm100 wm101 wm37 wm102) rfl rfl rfl (by decide +kernel) rfl (by rw [hR]; exact ⟨Nat.le_of_ble_eq_true rfl, Nat.le_of_ble_eq_true rfl⟩) hM0.k (by rw [hR]; exact ⟨Nat.le_of_ble_eq_true rfl, Nat.le_of_ble_eq_true rfl⟩) (Nat.le_of_ble_eq_true rfl) dX5_playedAtMost_11 (fun v11 S11 h11 => ?_) (fun E11 S11 h11 => ?_)
    · obtain ⟨w9, rfl⟩ : ∃ w9 : Int32, v11 = some (zi w9) := by
        rcases h11 with ⟨-, -, e, -⟩ | ⟨-, e, -⟩ | ⟨-, -, e, -⟩
        · exact ⟨_, e⟩
        · exact ⟨_, e⟩
        · exact ⟨_, e⟩
      refine z_ireturn C F (Nat.le_of_ble_eq_true rfl) (Nat.le_of_ble_eq_true rfl) dX5_playedAtMost_14 ?_
      rcases h11 with ⟨e1, e2, e3⟩ | ⟨e1, e3⟩ | ⟨e1, e2, e3⟩
      · exact Or.inl ⟨hb9.mp e1, e2, e3⟩
      · exact Or.inr (Or.inl ⟨fun z => (by rw [hb9.mpr z] at e1; cases e1), e3⟩)
      · exact Or.inr (Or.inr ⟨hb9.mp e1, e2, e3⟩)
    · exact h11.elim
  · exact h8.elim
set_option maxRecDepth 100000 in
set_option maxHeartbeats 800000 in
theorem M_asLongAs {l : Launch} (hl0 : l.stackTraces = false) {D : ZD} {J : Nat → Int64} {S : ZM} {M : Nat} {r : Nat → Nat} (hM0 : iM D J S M r) (h39 : D 39 0 = 0) (hC : wC D) (x : Int32) : zMet l yX5_asLongAs (Cond.code yX5_asLongAs cX5_asLongAs 2 (some .int) :: LWm) ({ frames := 2, cells := 0, slots := 0, locals := 47 } : Room) 0 0 [zr (some M), zi x] S (zPo (fun v S' => ((1 ≤ x ∧ x ≤ 999) ∧ ¬ D 52 0 = 40 ∧ v = some (zi (D 52 0)) ∧ mR (opRule D 3 x 0 1) J S' M r) ∨ (¬ (1 ≤ x ∧ x ≤ 999) ∧ v = some (zi 0) ∧ mR (s39 D 1) J S' M r) ∨ ((1 ≤ x ∧ x ≤ 999) ∧ D 52 0 = 40 ∧ v = some (zi 0) ∧ mR (s39 D 2) J S' M r)) (fun _ _ => False)) := by
  refine zMet.of' [some (zr (some M)), some (zi x)] hl0 (by decide) rfl (Nat.le_of_ble_eq_true rfl) rfl ?_
  intro X C N hR hN0 hX F
  subst hX
  have hN := hC.1
  refine z_aload_n C rfl dX5_asLongAs_0 ?_
  refine z_iconst 3 (by decide) C dX5_asLongAs_1 ?_
  refine z_iload_n C rfl dX5_asLongAs_2 ?_
  refine z_iload_n C rfl dX5_asLongAs_3 ?_
  refine z_iconst 1 (by decide) C dX5_asLongAs_4 ?_
  refine z_sipush 999 (by decide) C dX5_asLongAs_5 ?_
  refine z_callS 3 [zi x, zi 1, zi 999] C (M_in hl0 x 1 999) rfl (zgoodS LWm_good wm35 wm36 wm37 wm38) rfl rfl rfl (by decide +kernel) rfl (by rw [hR]; exact ⟨Nat.le_of_ble_eq_true rfl, Nat.le_of_ble_eq_true rfl⟩) (by rw [hR]; exact ⟨Nat.le_of_ble_eq_true rfl, Nat.le_of_ble_eq_true rfl⟩) (Nat.le_of_ble_eq_true rfl) dX5_asLongAs_8 (fun v8 S8 h8 => ?_) (fun E8 S8 h8 => ?_)
  · obtain ⟨b9, rfl, hb9, q9⟩ := h8
    subst S8
    refine z_callM 3 [zi 3, zi x, zi (bI b9)] C rfl (M_simple hl0 hM0 h39 hC 3 x b9) rfl (zgoodV LWm_good wm99 wm100 wm101 wm37 wm102) rfl rfl rfl (by decide +kernel) rfl (by rw [hR]; exact ⟨Nat.le_of_ble_eq_true rfl, Nat.le_of_ble_eq_true rfl⟩) hM0.k (by rw [hR]; exact ⟨Nat.le_of_ble_eq_true rfl, Nat.le_of_ble_eq_true rfl⟩) (Nat.le_of_ble_eq_true rfl) dX5_asLongAs_11 (fun v11 S11 h11 => ?_) (fun E11 S11 h11 => ?_)
    · obtain ⟨w9, rfl⟩ : ∃ w9 : Int32, v11 = some (zi w9) := by
        rcases h11 with ⟨-, -, e, -⟩ | ⟨-, e, -⟩ | ⟨-, -, e, -⟩
        · exact ⟨_, e⟩
        · exact ⟨_, e⟩
        · exact ⟨_, e⟩
      refine z_ireturn C F (Nat.le_of_ble_eq_true rfl) (Nat.le_of_ble_eq_true rfl) dX5_asLongAs_14 ?_
      rcases h11 with ⟨e1, e2, e3⟩ | ⟨e1, e3⟩ | ⟨e1, e2, e3⟩
      · exact Or.inl ⟨hb9.mp e1, e2, e3⟩
      · exact Or.inr (Or.inl ⟨fun z => (by rw [hb9.mpr z] at e1; cases e1), e3⟩)
      · exact Or.inr (Or.inr ⟨hb9.mp e1, e2, e3⟩)
    · exact h11.elim
  · exact h8.elim
set_option maxRecDepth 100000 in
set_option maxHeartbeats 800000 in
theorem M_playedWithin {l : Launch} (hl0 : l.stackTraces = false) {D : ZD} {J : Nat → Int64} {S : ZM} {M : Nat} {r : Nat → Nat} (hM0 : iM D J S M r) (h39 : D 39 0 = 0) (hC : wC D) (x : Int32) : zMet l yX5_playedWithin (Cond.code yX5_playedWithin cX5_playedWithin 2 (some .int) :: LWm) ({ frames := 2, cells := 0, slots := 0, locals := 47 } : Room) 0 0 [zr (some M), zi x] S (zPo (fun v S' => ((0 ≤ x ∧ x ≤ 999) ∧ ¬ D 52 0 = 40 ∧ v = some (zi (D 52 0)) ∧ mR (opRule D 4 x 0 1) J S' M r) ∨ (¬ (0 ≤ x ∧ x ≤ 999) ∧ v = some (zi 0) ∧ mR (s39 D 1) J S' M r) ∨ ((0 ≤ x ∧ x ≤ 999) ∧ D 52 0 = 40 ∧ v = some (zi 0) ∧ mR (s39 D 2) J S' M r)) (fun _ _ => False)) := by
  refine zMet.of' [some (zr (some M)), some (zi x)] hl0 (by decide) rfl (Nat.le_of_ble_eq_true rfl) rfl ?_
  intro X C N hR hN0 hX F
  subst hX
  have hN := hC.1
  refine z_aload_n C rfl dX5_playedWithin_0 ?_
  refine z_iconst 4 (by decide) C dX5_playedWithin_1 ?_
  refine z_iload_n C rfl dX5_playedWithin_2 ?_
  refine z_iload_n C rfl dX5_playedWithin_3 ?_
  refine z_iconst 0 (by decide) C dX5_playedWithin_4 ?_
  refine z_sipush 999 (by decide) C dX5_playedWithin_5 ?_
  refine z_callS 3 [zi x, zi 0, zi 999] C (M_in hl0 x 0 999) rfl (zgoodS LWm_good wm35 wm36 wm37 wm38) rfl rfl rfl (by decide +kernel) rfl (by rw [hR]; exact ⟨Nat.le_of_ble_eq_true rfl, Nat.le_of_ble_eq_true rfl⟩) (by rw [hR]; exact ⟨Nat.le_of_ble_eq_true rfl, Nat.le_of_ble_eq_true rfl⟩) (Nat.le_of_ble_eq_true rfl) dX5_playedWithin_8 (fun v8 S8 h8 => ?_) (fun E8 S8 h8 => ?_)
  · obtain ⟨b9, rfl, hb9, q9⟩ := h8
    subst S8
    refine z_callM 3 [zi 4, zi x, zi (bI b9)] C rfl (M_simple hl0 hM0 h39 hC 4 x b9) rfl (zgoodV LWm_good wm99 wm100 wm101 wm37 wm102) rfl rfl rfl (by decide +kernel) rfl (by rw [hR]; exact ⟨Nat.le_of_ble_eq_true rfl, Nat.le_of_ble_eq_true rfl⟩) hM0.k (by rw [hR]; exact ⟨Nat.le_of_ble_eq_true rfl, Nat.le_of_ble_eq_true rfl⟩) (Nat.le_of_ble_eq_true rfl) dX5_playedWithin_11 (fun v11 S11 h11 => ?_) (fun E11 S11 h11 => ?_)
    · obtain ⟨w9, rfl⟩ : ∃ w9 : Int32, v11 = some (zi w9) := by
        rcases h11 with ⟨-, -, e, -⟩ | ⟨-, e, -⟩ | ⟨-, -, e, -⟩
        · exact ⟨_, e⟩
        · exact ⟨_, e⟩
        · exact ⟨_, e⟩
      refine z_ireturn C F (Nat.le_of_ble_eq_true rfl) (Nat.le_of_ble_eq_true rfl) dX5_playedWithin_14 ?_
      rcases h11 with ⟨e1, e2, e3⟩ | ⟨e1, e3⟩ | ⟨e1, e2, e3⟩
      · exact Or.inl ⟨hb9.mp e1, e2, e3⟩
      · exact Or.inr (Or.inl ⟨fun z => (by rw [hb9.mpr z] at e1; cases e1), e3⟩)
      · exact Or.inr (Or.inr ⟨hb9.mp e1, e2, e3⟩)
    · exact h11.elim
  · exact h8.elim
set_option maxRecDepth 100000 in
set_option maxHeartbeats 800000 in
theorem M_inList {l : Launch} (hl0 : l.stackTraces = false) {D : ZD} {J : Nat → Int64} {S : ZM} {M : Nat} {r : Nat → Nat} (hM0 : iM D J S M r) (h39 : D 39 0 = 0) (hC : wC D) (x : Int32) : zMet l yX5_inList (Cond.code yX5_inList cX5_inList 2 (some .int) :: LWm) ({ frames := 2, cells := 0, slots := 0, locals := 47 } : Room) 0 0 [zr (some M), zi x] S (zPo (fun v S' => (hasLs D x ∧ ¬ D 52 0 = 40 ∧ v = some (zi (D 52 0)) ∧ mR (opRule D 5 x 0 1) J S' M r) ∨ (¬ hasLs D x ∧ v = some (zi 0) ∧ mR (s39 D 1) J S' M r) ∨ (hasLs D x ∧ D 52 0 = 40 ∧ v = some (zi 0) ∧ mR (s39 D 2) J S' M r)) (fun _ _ => False)) := by
  refine zMet.of' [some (zr (some M)), some (zi x)] hl0 (by decide) rfl (Nat.le_of_ble_eq_true rfl) rfl ?_
  intro X C N hR hN0 hX F
  subst hX
  have hN := hC.1
  refine z_aload_n C rfl dX5_inList_0 ?_
  refine z_iconst 5 (by decide) C dX5_inList_1 ?_
  refine z_iload_n C rfl dX5_inList_2 ?_
  refine z_aload_n C rfl dX5_inList_3 ?_
  refine z_iload_n C rfl dX5_inList_4 ?_
  refine z_callM 1 [zi x] C rfl ((iM_noList hl0 hM0 hN x)) rfl (zgoodV LWm_good wm103 wm104 wm105 wm37 wm106) rfl rfl rfl (by decide +kernel) rfl (by rw [hR]; exact ⟨Nat.le_of_ble_eq_true rfl, Nat.le_of_ble_eq_true rfl⟩) hM0.k (by rw [hR]; exact ⟨Nat.le_of_ble_eq_true rfl, Nat.le_of_ble_eq_true rfl⟩) (Nat.le_of_ble_eq_true rfl) dX5_inList_5 (fun v5 S5 h5 => ?_) (fun E5 S5 h5 => ?_)
  · obtain ⟨b5, rfl, hb5, q5⟩ := h5
    subst S5
    cases b5 with
    | false =>
      have y5 := hb5.mp rfl
      refine z_if_ne 15 C dX5_inList_8 (by decide) (fun c8 => absurd c8 (by decide)) (fun _ => ?_)
      refine z_iconst 1 (by decide) C dX5_inList_11 ?_
      refine z_goto 16 C dX5_inList_12 (by decide) ?_
      refine z_callM 3 [zi 5, zi x, zi 1] C rfl (M_simple hl0 hM0 h39 hC 5 x true) rfl (zgoodV LWm_good wm99 wm100 wm101 wm37 wm102) rfl rfl rfl (by decide +kernel) rfl (by rw [hR]; exact ⟨Nat.le_of_ble_eq_true rfl, Nat.le_of_ble_eq_true rfl⟩) hM0.k (by rw [hR]; exact ⟨Nat.le_of_ble_eq_true rfl, Nat.le_of_ble_eq_true rfl⟩) (Nat.le_of_ble_eq_true rfl) dX5_inList_16 (fun v16 S16 h16 => ?_) (fun E16 S16 h16 => ?_)
      · obtain ⟨w9, rfl⟩ : ∃ w9 : Int32, v16 = some (zi w9) := by
          rcases h16 with ⟨-, -, e, -⟩ | ⟨-, e, -⟩ | ⟨-, -, e, -⟩
          · exact ⟨_, e⟩
          · exact ⟨_, e⟩
          · exact ⟨_, e⟩
        refine z_ireturn C F (Nat.le_of_ble_eq_true rfl) (Nat.le_of_ble_eq_true rfl) dX5_inList_19 ?_
        rcases h16 with ⟨e1, e2, e3⟩ | ⟨e1, e3⟩ | ⟨e1, e2, e3⟩
        · first | exact Or.inl ⟨y5, e2, e3⟩ | cases e1
        · first | exact Or.inr (Or.inl ⟨y5, e3⟩) | cases e1
        · first | exact Or.inr (Or.inr ⟨y5, e2, e3⟩) | cases e1
      · exact h16.elim
    | true =>
      have y5 := b_tf hb5
      refine z_if_ne 15 C dX5_inList_8 (by decide) (fun _ => ?_) (fun c8 => absurd c8 (by decide))
      refine z_iconst 0 (by decide) C dX5_inList_15 ?_
      refine z_callM 3 [zi 5, zi x, zi 0] C rfl (M_simple hl0 hM0 h39 hC 5 x false) rfl (zgoodV LWm_good wm99 wm100 wm101 wm37 wm102) rfl rfl rfl (by decide +kernel) rfl (by rw [hR]; exact ⟨Nat.le_of_ble_eq_true rfl, Nat.le_of_ble_eq_true rfl⟩) hM0.k (by rw [hR]; exact ⟨Nat.le_of_ble_eq_true rfl, Nat.le_of_ble_eq_true rfl⟩) (Nat.le_of_ble_eq_true rfl) dX5_inList_16 (fun v16 S16 h16 => ?_) (fun E16 S16 h16 => ?_)
      · obtain ⟨w9, rfl⟩ : ∃ w9 : Int32, v16 = some (zi w9) := by
          rcases h16 with ⟨-, -, e, -⟩ | ⟨-, e, -⟩ | ⟨-, -, e, -⟩
          · exact ⟨_, e⟩
          · exact ⟨_, e⟩
          · exact ⟨_, e⟩
        refine z_ireturn C F (Nat.le_of_ble_eq_true rfl) (Nat.le_of_ble_eq_true rfl) dX5_inList_19 ?_
        rcases h16 with ⟨e1, e2, e3⟩ | ⟨e1, e3⟩ | ⟨e1, e2, e3⟩
        · first | exact Or.inl ⟨y5, e2, e3⟩ | cases e1
        · first | exact Or.inr (Or.inl ⟨y5, e3⟩) | cases e1
        · first | exact Or.inr (Or.inr ⟨y5, e2, e3⟩) | cases e1
      · exact h16.elim
  · exact h5.elim
set_option maxRecDepth 100000 in
set_option maxHeartbeats 800000 in
theorem M_both {l : Launch} (hl0 : l.stackTraces = false) {D : ZD} {J : Nat → Int64} {S : ZM} {M : Nat} {r : Nat → Nat} (hM0 : iM D J S M r) (h39 : D 39 0 = 0) (hC : wC D) (x y : Int32) : zMet l yX5_both (Cond.code yX5_both cX5_both 3 (some .int) :: LWm) ({ frames := 3, cells := 0, slots := 0, locals := 68 } : Room) 0 0 [zr (some M), zi x, zi y] S (zPo (fun v S' => (hasRl D x ∧ hasRl D y ∧ ¬ 15 < (1 + D 56 (ix x) + D 56 (ix y)) ∧ ¬ D 52 0 = 40 ∧ v = some (zi (D 52 0)) ∧ mR (opRule D 6 x y (1 + D 56 (ix x) + D 56 (ix y))) J S' M r) ∨ (¬ (hasRl D x ∧ hasRl D y) ∧ v = some (zi 0) ∧ mR (s39 D 1) J S' M r) ∨ (hasRl D x ∧ hasRl D y ∧ 15 < (1 + D 56 (ix x) + D 56 (ix y)) ∧ v = some (zi 0) ∧ mR (s39 D 2) J S' M r) ∨ (hasRl D x ∧ hasRl D y ∧ ¬ 15 < (1 + D 56 (ix x) + D 56 (ix y)) ∧ D 52 0 = 40 ∧ v = some (zi 0) ∧ mR (s39 D 3) J S' M r)) (fun _ _ => False)) := by
  refine zMet.of' [some (zr (some M)), some (zi x), some (zi y)] hl0 (by decide) rfl (Nat.le_of_ble_eq_true rfl) rfl ?_
  intro X C N hR hN0 hX F
  subst hX
  have hN := hC.1
  refine z_aload_n C rfl dX5_both_0 ?_
  refine z_bipush 6 (by decide) C dX5_both_1 ?_
  refine z_iload_n C rfl dX5_both_3 ?_
  refine z_iload_n C rfl dX5_both_4 ?_
  refine z_callM 3 [zi 6, zi x, zi y] C rfl (M_made hl0 hM0 h39 hC 6 x y) rfl (zgoodV LWm_good wm111 wm112 wm113 wm37 wm114) rfl rfl rfl (by decide +kernel) rfl (by rw [hR]; exact ⟨Nat.le_of_ble_eq_true rfl, Nat.le_of_ble_eq_true rfl⟩) hM0.k (by rw [hR]; exact ⟨Nat.le_of_ble_eq_true rfl, Nat.le_of_ble_eq_true rfl⟩) (Nat.le_of_ble_eq_true rfl) dX5_both_5 (fun v5 S5 h5 => ?_) (fun E5 S5 h5 => ?_)
  · obtain ⟨w9, rfl⟩ : ∃ w9 : Int32, v5 = some (zi w9) := by
      rcases h5 with ⟨-, -, -, -, e, -⟩ | ⟨-, e, -⟩ | ⟨-, -, -, e, -⟩ | ⟨-, -, -, -, e, -⟩
      · exact ⟨_, e⟩
      · exact ⟨_, e⟩
      · exact ⟨_, e⟩
      · exact ⟨_, e⟩
    simp only [if_neg (show ¬ (6 : Int32) = 8 from by decide)] at h5
    refine z_ireturn C F (Nat.le_of_ble_eq_true rfl) (Nat.le_of_ble_eq_true rfl) dX5_both_8 ?_
    exact h5
  · exact h5.elim
set_option maxRecDepth 100000 in
set_option maxHeartbeats 800000 in
theorem M_either {l : Launch} (hl0 : l.stackTraces = false) {D : ZD} {J : Nat → Int64} {S : ZM} {M : Nat} {r : Nat → Nat} (hM0 : iM D J S M r) (h39 : D 39 0 = 0) (hC : wC D) (x y : Int32) : zMet l yX5_either (Cond.code yX5_either cX5_either 3 (some .int) :: LWm) ({ frames := 3, cells := 0, slots := 0, locals := 68 } : Room) 0 0 [zr (some M), zi x, zi y] S (zPo (fun v S' => (hasRl D x ∧ hasRl D y ∧ ¬ 15 < (1 + D 56 (ix x) + D 56 (ix y)) ∧ ¬ D 52 0 = 40 ∧ v = some (zi (D 52 0)) ∧ mR (opRule D 7 x y (1 + D 56 (ix x) + D 56 (ix y))) J S' M r) ∨ (¬ (hasRl D x ∧ hasRl D y) ∧ v = some (zi 0) ∧ mR (s39 D 1) J S' M r) ∨ (hasRl D x ∧ hasRl D y ∧ 15 < (1 + D 56 (ix x) + D 56 (ix y)) ∧ v = some (zi 0) ∧ mR (s39 D 2) J S' M r) ∨ (hasRl D x ∧ hasRl D y ∧ ¬ 15 < (1 + D 56 (ix x) + D 56 (ix y)) ∧ D 52 0 = 40 ∧ v = some (zi 0) ∧ mR (s39 D 3) J S' M r)) (fun _ _ => False)) := by
  refine zMet.of' [some (zr (some M)), some (zi x), some (zi y)] hl0 (by decide) rfl (Nat.le_of_ble_eq_true rfl) rfl ?_
  intro X C N hR hN0 hX F
  subst hX
  have hN := hC.1
  refine z_aload_n C rfl dX5_either_0 ?_
  refine z_bipush 7 (by decide) C dX5_either_1 ?_
  refine z_iload_n C rfl dX5_either_3 ?_
  refine z_iload_n C rfl dX5_either_4 ?_
  refine z_callM 3 [zi 7, zi x, zi y] C rfl (M_made hl0 hM0 h39 hC 7 x y) rfl (zgoodV LWm_good wm111 wm112 wm113 wm37 wm114) rfl rfl rfl (by decide +kernel) rfl (by rw [hR]; exact ⟨Nat.le_of_ble_eq_true rfl, Nat.le_of_ble_eq_true rfl⟩) hM0.k (by rw [hR]; exact ⟨Nat.le_of_ble_eq_true rfl, Nat.le_of_ble_eq_true rfl⟩) (Nat.le_of_ble_eq_true rfl) dX5_either_5 (fun v5 S5 h5 => ?_) (fun E5 S5 h5 => ?_)
  · obtain ⟨w9, rfl⟩ : ∃ w9 : Int32, v5 = some (zi w9) := by
      rcases h5 with ⟨-, -, -, -, e, -⟩ | ⟨-, e, -⟩ | ⟨-, -, -, e, -⟩ | ⟨-, -, -, -, e, -⟩
      · exact ⟨_, e⟩
      · exact ⟨_, e⟩
      · exact ⟨_, e⟩
      · exact ⟨_, e⟩
    simp only [if_neg (show ¬ (7 : Int32) = 8 from by decide)] at h5
    refine z_ireturn C F (Nat.le_of_ble_eq_true rfl) (Nat.le_of_ble_eq_true rfl) dX5_either_8 ?_
    exact h5
  · exact h5.elim
set_option maxRecDepth 100000 in
set_option maxHeartbeats 800000 in
theorem M_not {l : Launch} (hl0 : l.stackTraces = false) {D : ZD} {J : Nat → Int64} {S : ZM} {M : Nat} {r : Nat → Nat} (hM0 : iM D J S M r) (h39 : D 39 0 = 0) (hC : wC D) (x : Int32) : zMet l yX5_not (Cond.code yX5_not cX5_not 2 (some .int) :: LWm) ({ frames := 3, cells := 0, slots := 0, locals := 68 } : Room) 0 0 [zr (some M), zi x] S (zPo (fun v S' => (hasRl D x ∧ hasRl D x ∧ ¬ 15 < (1 + D 56 (ix x)) ∧ ¬ D 52 0 = 40 ∧ v = some (zi (D 52 0)) ∧ mR (opRule D 8 x x (1 + D 56 (ix x))) J S' M r) ∨ (¬ (hasRl D x ∧ hasRl D x) ∧ v = some (zi 0) ∧ mR (s39 D 1) J S' M r) ∨ (hasRl D x ∧ hasRl D x ∧ 15 < (1 + D 56 (ix x)) ∧ v = some (zi 0) ∧ mR (s39 D 2) J S' M r) ∨ (hasRl D x ∧ hasRl D x ∧ ¬ 15 < (1 + D 56 (ix x)) ∧ D 52 0 = 40 ∧ v = some (zi 0) ∧ mR (s39 D 3) J S' M r)) (fun _ _ => False)) := by
  refine zMet.of' [some (zr (some M)), some (zi x)] hl0 (by decide) rfl (Nat.le_of_ble_eq_true rfl) rfl ?_
  intro X C N hR hN0 hX F
  subst hX
  have hN := hC.1
  refine z_aload_n C rfl dX5_not_0 ?_
  refine z_bipush 8 (by decide) C dX5_not_1 ?_
  refine z_iload_n C rfl dX5_not_3 ?_
  refine z_iload_n C rfl dX5_not_4 ?_
  refine z_callM 3 [zi 8, zi x, zi x] C rfl (M_made hl0 hM0 h39 hC 8 x x) rfl (zgoodV LWm_good wm111 wm112 wm113 wm37 wm114) rfl rfl rfl (by decide +kernel) rfl (by rw [hR]; exact ⟨Nat.le_of_ble_eq_true rfl, Nat.le_of_ble_eq_true rfl⟩) hM0.k (by rw [hR]; exact ⟨Nat.le_of_ble_eq_true rfl, Nat.le_of_ble_eq_true rfl⟩) (Nat.le_of_ble_eq_true rfl) dX5_not_5 (fun v5 S5 h5 => ?_) (fun E5 S5 h5 => ?_)
  · obtain ⟨w9, rfl⟩ : ∃ w9 : Int32, v5 = some (zi w9) := by
      rcases h5 with ⟨-, -, -, -, e, -⟩ | ⟨-, e, -⟩ | ⟨-, -, -, e, -⟩ | ⟨-, -, -, -, e, -⟩
      · exact ⟨_, e⟩
      · exact ⟨_, e⟩
      · exact ⟨_, e⟩
      · exact ⟨_, e⟩
    simp only [if_pos True.intro, ite_true] at h5
    refine z_ireturn C F (Nat.le_of_ble_eq_true rfl) (Nat.le_of_ble_eq_true rfl) dX5_not_8 ?_
    exact h5
  · exact h5.elim
