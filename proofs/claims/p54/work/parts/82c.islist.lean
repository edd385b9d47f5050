/-! a list is as it is told -/
theorem aT_1 {D : ZD} {t : Nat} {b : Bool} : aT D t (bI b) = 1 ↔ prD D t = true ∧ b = true := by
  unfold aT
  by_cases h : prD D t = true
  · rw [if_pos h, bI_1]
    exact ⟨fun q => ⟨h, q⟩, fun q => q.2⟩
  · rw [if_neg h]
    exact ⟨fun q => absurd q (by decide), fun q => absurd q.1 h⟩
theorem gr_step {len : Nat → Int32} {lim : Int32} {l : List Nat} {k : Nat} (hk : k < l.length) : ((lim = 0 ∨ grS len lim (l.take k) 0 + len (l.getD k 0) ≤ lim) → grL len lim (l.take (k + 1)) 0 = grL len lim (l.take k) 0 ++ [l.getD k 0] ∧ grS len lim (l.take (k + 1)) 0 = grS len lim (l.take k) 0 + len (l.getD k 0)) ∧ (¬ (lim = 0 ∨ grS len lim (l.take k) 0 + len (l.getD k 0) ≤ lim) → grL len lim (l.take (k + 1)) 0 = grL len lim (l.take k) 0 ∧ grS len lim (l.take (k + 1)) 0 = grS len lim (l.take k) 0) := by
  rw [take_more hk, grL_app, grS_app]
  constructor
  · intro h
    simp only [grL, grS]
    rw [if_pos h, if_pos h]
    exact ⟨rfl, rfl⟩
  · intro h
    simp only [grL, grS]
    rw [if_neg h, if_neg h, List.append_nil]
    exact ⟨rfl, rfl⟩
/-- what is behind the first k of a row -/
theorem gr_rest (len : Nat → Int32) (lim : Int32) (l : List Nat) (k : Nat) : grL len lim l 0 = grL len lim (l.take k) 0 ++ grL len lim (l.drop k) (grS len lim (l.take k) 0) := by
  rw [← grL_app, List.take_append_drop]
theorem gr_in {len : Nat → Int32} {lim : Int32} {l : List Nat} {k : Nat} (hk : k < l.length) (h : lim = 0 ∨ grS len lim (l.take k) 0 + len (l.getD k 0) ≤ lim) : l.getD k 0 ∈ grL len lim l 0 ∧ (grL len lim (l.take k) 0).length < (grL len lim l 0).length ∧ (grL len lim l 0).getD (grL len lim (l.take k) 0).length 0 = l.getD k 0 := by
  have e := gr_rest len lim l (k + 1)
  rw [((gr_step hk).1 h).1, List.append_assoc] at e
  rw [e]
  refine ⟨List.mem_append.mpr (Or.inr List.mem_cons_self), ?_, ?_⟩
  · rw [List.length_append, List.length_append, List.length_singleton]; omega
  · rw [List.getD_eq_getElem?_getD, List.getElem?_append_right (Nat.le_refl _), Nat.sub_self]; rfl
theorem gr_out {pl : Nat → Int32} {len : Nat → Int32} {lim : Int32} {l : List Nat} {k : Nat} (hs : l.Pairwise (ltP pl)) (hk : k < l.length) (h : ¬ (lim = 0 ∨ grS len lim (l.take k) 0 + len (l.getD k 0) ≤ lim)) : ¬ l.getD k 0 ∈ grL len lim l 0 := by
  have e := gr_rest len lim l (k + 1)
  rw [((gr_step hk).2 h).1] at e
  rw [e]
  intro hm
  rcases List.mem_append.mp hm with q | q
  · have q := (grL_sub len lim _ _).subset q
    obtain ⟨j, hj, ej⟩ := List.getElem_of_mem q
    rw [List.length_take] at hj
    rw [List.getElem_take] at ej
    have := srt_get hs (show j < k by omega) hk
    rw [List.getD_eq_getElem?_getD, List.getElem?_eq_getElem (show j < l.length by omega)] at this
    rw [Option.getD_some, ej] at this
    exact ltP_irr pl _ this
  · have q := (grL_sub len lim _ _).subset q
    obtain ⟨j, hj, ej⟩ := List.getElem_of_mem q
    rw [List.length_drop] at hj
    rw [List.getElem_drop] at ej
    have := srt_get hs (show k < k + 1 + j by omega) (by omega)
    rw [List.getD_eq_getElem?_getD (i := k + 1 + j), List.getElem?_eq_getElem (show k + 1 + j < l.length by omega), Option.getD_some, ej] at this
    exact ltP_irr pl _ this
set_option maxRecDepth 100000 in
set_option maxHeartbeats 4000000 in
theorem L_isList {l : Launch} {sc : zSQ} (hl0 : l.stackTraces = false) {n : Nat} {D : ZD} {x m : Nat} {Fw : Nat → Bool} {f : Nat → Int32} {S : ZM} (hS : mS D x m Fw f S) (hM : rM D f) (hV : LV n D) (i : Nat) (hi : i < dL D) : zMetL l sc yL_isList (Cond.code yL_isList cL_isList 16 (some .boolean) :: LWl) ({ frames := 49, cells := 2751, slots := 16524, locals := 1140 } : Room) 2751 16524 [zr (some x), zr (some m), zi (nI i)] S (zPo (fun v S' => v = some (zi 1) ∧ mS D x m Fw f S') (fun _ _ => False)) := by
  refine zMetL.of [some (zr (some x)), some (zr (some m)), some (zi (nI i)), none, none, none, none, none, none, none, none, none, none, none, none, none] hl0 (by decide) rfl (Nat.le_of_ble_eq_true rfl) rfl ?_
  intro X C N Nc Sc hR hX F
  subst hX
  have hRc : (xR X).cells = 2751 := by rw [hR]
  have hRs : (xR X).slots = 16524 := by rw [hR]
  have ho := hS.1.ok
  obtain ⟨hm0, hm2, hm3, ⟨j1, hj1, hm1⟩, hmr, hml⟩ := id hM
  have hT24 := ho.t
  have hR40 := ho.r
  have hL8 := ho.l
  have hF := hS.2.1.1
  obtain ⟨r9, hr9, er⟩ := ho.2.2.1 i hi
  have ir : ix (D 58 i) = r9 := by rw [er]; exact nI_clamp (by omega)
  have hby := ho.2.2.2.2.2.2.2.2 i hi
  refine z_aload_n C rfl dL_isList_0 ?_
  refine z_sipush 140 (by decide) C dL_isList_1 ?_
  refine z_iconst 3 (by decide) C dL_isList_4 ?_
  refine z_iload_n C rfl dL_isList_5 ?_
  refine z_imul C dL_isList_6 ?_
  refine z_iadd C dL_isList_7 ?_
  refine z_mld C hS (ix3 (c' := 140) rfl _) (by omega) ((hml i hi).1.trans er) dL_isList_8 ?_
  refine z_istore_n [_, _, _, _, _, _, _, _, _, _, _, _, _, _, _, _] C (by decide) rfl dL_isList_9 ?_
  refine z_aload_n C rfl dL_isList_10 ?_
  refine z_sipush 141 (by decide) C dL_isList_11 ?_
  refine z_iconst 3 (by decide) C dL_isList_14 ?_
  refine z_iload_n C rfl dL_isList_15 ?_
  refine z_imul C dL_isList_16 ?_
  refine z_iadd C dL_isList_17 ?_
  refine z_mld C hS (ix3 (c' := 141) rfl _) (by omega) (hml i hi).2.1 dL_isList_18 ?_
  refine z_istore [_, _, _, _, _, _, _, _, _, _, _, _, _, _, _, _] C (by decide) rfl dL_isList_19 ?_
  refine z_aload_n C rfl dL_isList_21 ?_
  refine z_sipush 142 (by decide) C dL_isList_22 ?_
  refine z_iconst 3 (by decide) C dL_isList_25 ?_
  refine z_iload_n C rfl dL_isList_26 ?_
  refine z_imul C dL_isList_27 ?_
  refine z_iadd C dL_isList_28 ?_
  refine z_mld C hS (ix3 (c' := 142) rfl _) (by omega) (hml i hi).2.2 dL_isList_29 ?_
  refine z_istore [_, _, _, _, _, _, _, _, _, _, _, _, _, _, _, _] C (by decide) rfl dL_isList_30 ?_
  refine z_iconst 0 (by decide) C dL_isList_32 ?_
  refine z_istore [_, _, _, _, _, _, _, _, _, _, _, _, _, _, _, _] C (by decide) rfl dL_isList_33 ?_
  refine z_bipush 24 (by decide) C dL_isList_35 ?_
  refine z_newarr_int 24 C (List.mem_cons_of_mem _ (ul_c wc19)) (by decide) rfl (by decide) (by rw [hR]; exact Nat.le_of_ble_eq_true rfl) (by rw [hR]; exact Nat.le_of_ble_eq_true rfl) dL_isList_37 (fun a37 f37 => ?_)
  refine z_astore [_, _, _, _, _, _, _, _, _, _, _, _, _, _, _, _] C (by decide) rfl dL_isList_39 ?_
  have hW := hS.row f37
  have R126 : ∀ (l : List Nat) (g : Nat → Int32) (S1 : ZM) (w8 w9 : Option ZV), l.Pairwise (ltP (plD D (D 59 i))) → (∀ u, u ∈ l ↔ u < dT D ∧ prD D u = true ∧ ev D (D 61) r9 u = true) → (∀ j, j < l.length → g j = nI (l.getD j 0)) → l.length ≤ dT D → wS D x m a37 (Fa Fw a37) f g S1 → zW X 16 2353 14136 S1 126 [some (zr (some x)), some (zr (some m)), some (zi (nI i)), some (zi (nI r9)), some (zi (D 59 i)), some (zi (D 60 i)), some (zi (nI l.length)), some (zr (some a37)), w8, w9, none, none, none, none, none, none] [] := by
    intro l g S1 w8 w9 hs hm hg hlen hW
    have hm24 : ∀ t, t ∈ l ↔ t < 24 ∧ prD D t = true ∧ ev D (D 61) (ix (D 58 i)) t = true := fun t => by
      rw [ir, hm t]
      exact ⟨fun q => ⟨ho.pr q.2.1, q.2⟩, fun q => ⟨prD_lt q.2.1, q.2⟩⟩
    obtain ⟨e1, e2, e3, e4, e5, e6, e7⟩ := ho.list hi hs hm24
    have hGl : (grL (D 42) (D 60 i) l 0).length ≤ l.length := (grL_sub _ _ l 0).length_le
    have hGk : ∀ k : Nat, (grL (D 42) (D 60 i) (l.take k) 0).length ≤ l.length := fun k => Nat.le_trans (grL_sub _ _ _ 0).length_le (by rw [List.length_take]; omega)
    have L3 : ∀ (jt t : Nat) (P : Int64) (S1 : ZM) (w15 : Option ZV), t + jt = dT D → wS D x m a37 (Fa Fw a37) f g S1 → zW X 16 (2603 + 6 * t) (15636 + 36 * t) S1 436 [some (zr (some x)), some (zr (some m)), some (zi (nI i)), some (zi (nI r9)), some (zi (D 59 i)), some (zi (D 60 i)), some (zi (nI l.length)), some (zr (some a37)), some (zi (nI (grL (D 42) (D 60 i) l 0).length)), some (zi (grS (D 42) (D 60 i) l 0)), some (zj P), none, some (zi 1), some (zi (nI (cnF (fun t => prD D t && hasB (D 61 i) (nI t)) t))), some (zi (nI t)), w15] [] := by
      intro jt
      induction jt with
      | zero =>
        intro t P S1 w15 ht hW
        have hcn : cnF (fun t => prD D t && hasB (D 61 i) (nI t)) t = (grL (D 42) (D 60 i) l 0).length := by
          rw [← e7]
          exact (cn_more (fun u hu => by show (prD D u && _) = false; rw [show prD D u = false from by cases hq : prD D u with | false => rfl | true => exact absurd (prD_lt hq) (by omega)]; rfl) (by omega)).symm
        refine z_iload C rfl dL_isList_436 ?_
        refine z_aload_n C rfl dL_isList_438 ?_
        refine z_iconst 0 (by decide) C dL_isList_439 ?_
        refine z_mld C hW.1 (show (0 : Int32) = nI 0 from rfl) (by decide) hm0 dL_isList_440 ?_
        refine z_icmp_ge 538 C dL_isList_441 (by decide) (fun c441 => ?_) (fun c441 => absurd (nI_le (by omega) (by omega)) c441)
        refine z_iload C rfl dL_isList_538 ?_
        refine z_if_eq 588 C dL_isList_540 (by decide) (fun c540 => absurd c540 (by decide)) (fun c540 => ?_)
        refine z_iload C rfl dL_isList_543 ?_
        refine z_iload C rfl dL_isList_545 ?_
        refine z_icmp_ne 588 C dL_isList_547 (by decide) (fun c547 => absurd (congrArg nI hcn) c547) (fun c547 => ?_)
        refine z_iload C rfl dL_isList_550 ?_
        refine z_if_eq 571 C dL_isList_552 (by decide) (fun c552 => ?_) (fun c552 => ?_)
        · refine z_aload_n C rfl dL_isList_571 ?_
          refine z_bipush 18 (by decide) C dL_isList_572 ?_
          refine z_iload_n C rfl dL_isList_574 ?_
          refine z_iload_n C rfl dL_isList_575 ?_
          refine z_callLH 4 [zr (some x), zi 18, zi (nI i), zi (nI i)] C Nc Sc (Q_18 hl0 hW.1.1 i (by omega)) rfl (zgoodS LWl_good wq222 wq223 wq4 wq224) rfl rfl rfl (by decide +kernel) rfl (by rw [hR]; exact ⟨Nat.le_of_ble_eq_true rfl, Nat.le_of_ble_eq_true rfl⟩) (by rw [hRc, hRs]; exact ⟨by omega, by omega⟩) (Nat.le_of_ble_eq_true rfl) dL_isList_576 (fun v576 S576 h576 => ?_) (fun E576 S576 h576 => ?_)
          · obtain ⟨rfl, hY, hkp⟩ := h576
            replace hW := hW.kp hY hkp
            refine z_int ((if_pos hi).trans (congrArg nI e3)) ?_
            refine z_iload C rfl dL_isList_579 ?_
            refine z_icmp_ne 588 C dL_isList_581 (by decide) (fun c581 => absurd rfl c581) (fun c581 => ?_)
            refine z_iconst 1 (by decide) C dL_isList_584 ?_
            refine z_goto 589 C dL_isList_585 (by decide) ?_
            refine z_zreturn C F (by omega) (by omega) (by decide) dL_isList_589 ?_
            exact ⟨rfl, hW.drop hF⟩
          · exact h576.elim
        · refine z_aload_n C rfl dL_isList_555 ?_
          refine z_iload_n C rfl dL_isList_556 ?_
          refine z_callC 1 [zi (nI i)] C rfl (T_mean hl0 hW.1.1 hi (by rw [e3]; exact c552)) rfl (zgoodV2 LWl_good (fun w h => ul_c h) wq236 wq237 wq238 (ul_c wc58) wq239) rfl rfl rfl (by decide +kernel) rfl (by rw [hR]; exact ⟨Nat.le_of_ble_eq_true rfl, Nat.le_of_ble_eq_true rfl⟩) hW.1.1.k.1 (by rw [hRc, hRs]; exact ⟨by omega, by omega⟩) (Nat.le_of_ble_eq_true rfl) dL_isList_557 (fun v557 S557 h557 => ?_) (fun E557 S557 h557 => ?_)
          · obtain ⟨ev9, hY, hkp⟩ := h557
            replace hW := hW.kp hY hkp
            rw [e5, e3] at ev9
            subst ev9
            refine z_iload C rfl dL_isList_560 ?_
            refine z_i2d C dL_isList_562 ?_
            refine z_iload C rfl dL_isList_563 ?_
            refine z_i2d C dL_isList_565 ?_
            refine z_ddiv (ddiv_ok c552) C dL_isList_566 ?_
            refine z_dcmp C dL_isList_567 ?_
            refine z_if_ne 588 C dL_isList_568 (by decide) (fun c568 => absurd (dd_self c552 _) c568) (fun c568 => ?_)
            refine z_aload_n C rfl dL_isList_571 ?_
            refine z_bipush 18 (by decide) C dL_isList_572 ?_
            refine z_iload_n C rfl dL_isList_574 ?_
            refine z_iload_n C rfl dL_isList_575 ?_
            refine z_callLH 4 [zr (some x), zi 18, zi (nI i), zi (nI i)] C Nc Sc (Q_18 hl0 hW.1.1 i (by omega)) rfl (zgoodS LWl_good wq222 wq223 wq4 wq224) rfl rfl rfl (by decide +kernel) rfl (by rw [hR]; exact ⟨Nat.le_of_ble_eq_true rfl, Nat.le_of_ble_eq_true rfl⟩) (by rw [hRc, hRs]; exact ⟨by omega, by omega⟩) (Nat.le_of_ble_eq_true rfl) dL_isList_576 (fun v576 S576 h576 => ?_) (fun E576 S576 h576 => ?_)
            · obtain ⟨rfl, hY, hkp⟩ := h576
              replace hW := hW.kp hY hkp
              refine z_int ((if_pos hi).trans (congrArg nI e3)) ?_
              refine z_iload C rfl dL_isList_579 ?_
              refine z_icmp_ne 588 C dL_isList_581 (by decide) (fun c581 => absurd rfl c581) (fun c581 => ?_)
              refine z_iconst 1 (by decide) C dL_isList_584 ?_
              refine z_goto 589 C dL_isList_585 (by decide) ?_
              refine z_zreturn C F (by omega) (by omega) (by decide) dL_isList_589 ?_
              exact ⟨rfl, hW.drop hF⟩
            · exact h576.elim
          · exact h557.elim
      | succ jt ih =>
        intro t P S1 w15 ht hW
        rcases Bool.eq_false_or_eq_true (prD D t) with hp | hp
        · have hlen : ¬ D 42 t = -2005 := by
            obtain ⟨w, ew, -, hw⟩ := ((ho.2.2.2.2.2.1 t (ho.pr hp)).1 (prD_lt hp)).1
            rw [ew]
            exact fun q => absurd (q ▸ nI_pos' (show w < 2 ^ 31 by omega)) (by decide)
          rcases Bool.eq_false_or_eq_true (hasB (D 61 i) (nI t)) with hb | hb
          · refine z_iload C rfl dL_isList_436 ?_
            refine z_aload_n C rfl dL_isList_438 ?_
            refine z_iconst 0 (by decide) C dL_isList_439 ?_
            refine z_mld C hW.1 (show (0 : Int32) = nI 0 from rfl) (by decide) hm0 dL_isList_440 ?_
            refine z_icmp_ge 538 C dL_isList_441 (by decide) (fun c441 => absurd c441 (nI_ge (by omega) (by omega))) (fun c441 => ?_)
            refine z_iload C rfl dL_isList_444 ?_
            refine z_if_eq 538 C dL_isList_446 (by decide) (fun c446 => absurd c446 (by decide)) (fun c446 => ?_)
            refine z_aload_n C rfl dL_isList_449 ?_
            refine z_bipush 15 (by decide) C dL_isList_450 ?_
            refine z_iload_n C rfl dL_isList_452 ?_
            refine z_iload C rfl dL_isList_453 ?_
            refine z_callLH 4 [zr (some x), zi 15, zi (nI i), zi (nI t)] C Nc Sc (Q_15 hl0 hW.1.1 i t (by omega) (by omega)) rfl (zgoodS LWl_good wq222 wq223 wq4 wq224) rfl rfl rfl (by decide +kernel) rfl (by rw [hR]; exact ⟨Nat.le_of_ble_eq_true rfl, Nat.le_of_ble_eq_true rfl⟩) (by rw [hRc, hRs]; exact ⟨by omega, by omega⟩) (Nat.le_of_ble_eq_true rfl) dL_isList_455 (fun v455 S455 h455 => ?_) (fun E455 S455 h455 => ?_)
            · obtain ⟨rfl, hY, hkp⟩ := h455
              replace hW := hW.kp hY hkp
              refine z_int (show aL D i (aT D t (bI (hasB (D 61 i) (nI t)))) = 1 from (if_pos hi).trans ((if_pos hp).trans (by rw [hb]; rfl))) ?_
              refine z_istore [_, _, _, _, _, _, _, _, _, _, _, _, _, _, _, _] C (by decide) rfl dL_isList_458 ?_
              refine z_iload C rfl dL_isList_460 ?_
              refine z_aload_n C rfl dL_isList_462 ?_
              refine z_bipush 16 (by decide) C dL_isList_463 ?_
              refine z_iload_n C rfl dL_isList_465 ?_
              refine z_iload C rfl dL_isList_466 ?_
              refine z_callLH 4 [zr (some x), zi 16, zi (nI i), zi (nI t)] C Nc Sc (Q_16 hl0 hW.1.1 i t (by omega) (by omega)) rfl (zgoodS LWl_good wq222 wq223 wq4 wq224) rfl rfl rfl (by decide +kernel) rfl (by rw [hR]; exact ⟨Nat.le_of_ble_eq_true rfl, Nat.le_of_ble_eq_true rfl⟩) (by rw [hRc, hRs]; exact ⟨by omega, by omega⟩) (Nat.le_of_ble_eq_true rfl) dL_isList_468 (fun v468 S468 h468 => ?_) (fun E468 S468 h468 => ?_)
              · obtain ⟨rfl, hY, hkp⟩ := h468
                replace hW := hW.kp hY hkp
                refine z_int (show aL D i (aT D t (bI (hasB (D 61 i) (nI t)))) = 1 from (if_pos hi).trans ((if_pos hp).trans (by rw [hb]; rfl))) ?_
                refine z_icmp_ne 513 C dL_isList_471 (by decide) (fun c471 => absurd rfl c471) (fun c471 => ?_)
                refine z_iload C rfl dL_isList_474 ?_
                refine z_sipush (-2005) (by decide) C dL_isList_476 ?_
                refine z_icmp_ne 486 C dL_isList_479 (by decide) (fun c479 => ?_) (fun c479 => absurd c479 (by decide))
                refine z_iconst 0 (by decide) C dL_isList_486 ?_
                refine z_aload_n C rfl dL_isList_487 ?_
                refine z_iconst 0 (by decide) C dL_isList_488 ?_
                refine z_iload C rfl dL_isList_489 ?_
                refine z_iconst 0 (by decide) C dL_isList_491 ?_
                refine z_callLH 4 [zr (some x), zi 0, zi (nI t), zi 0] C Nc Sc (Q_0 hl0 hW.1.1 t (by omega) 0) rfl (zgoodS LWl_good wq222 wq223 wq4 wq224) rfl rfl rfl (by decide +kernel) rfl (by rw [hR]; exact ⟨Nat.le_of_ble_eq_true rfl, Nat.le_of_ble_eq_true rfl⟩) (by rw [hRc, hRs]; exact ⟨by omega, by omega⟩) (Nat.le_of_ble_eq_true rfl) dL_isList_492 (fun v492 S492 h492 => ?_) (fun E492 S492 h492 => ?_)
                · obtain ⟨rfl, hY, hkp⟩ := h492
                  replace hW := hW.kp hY hkp
                  refine z_int (if_pos hp) ?_
                  refine z_sipush (-2005) (by decide) C dL_isList_495 ?_
                  refine z_icmp_ne 505 C dL_isList_498 (by decide) (fun c498 => ?_) (fun c498 => absurd c498 hlen)
                  refine z_iconst 0 (by decide) C dL_isList_505 ?_
                  refine z_icmp_ne 513 C dL_isList_506 (by decide) (fun c506 => absurd rfl c506) (fun c506 => ?_)
                  refine z_iconst 1 (by decide) C dL_isList_509 ?_
                  refine z_goto 514 C dL_isList_510 (by decide) ?_
                  refine z_istore [_, _, _, _, _, _, _, _, _, _, _, _, _, _, _, _] C (by decide) rfl dL_isList_514 ?_
                  refine z_iload C rfl dL_isList_516 ?_
                  refine z_iload C rfl dL_isList_518 ?_
                  refine z_iconst 1 (by decide) C dL_isList_520 ?_
                  refine z_icmp_ne 528 C dL_isList_521 (by decide) (fun c521 => absurd rfl c521) (fun c521 => ?_)
                  refine z_iconst 1 (by decide) C dL_isList_524 ?_
                  refine z_goto 529 C dL_isList_525 (by decide) ?_
                  refine z_iadd C dL_isList_529 ?_
                  refine z_istore [_, _, _, _, _, _, _, _, _, _, _, _, _, _, _, _] C (by decide) rfl dL_isList_530 ?_
                  refine z_inc (1) [_, _, _, _, _, _, _, _, _, _, _, _, _, _, _, _] C rfl (by decide) (by decide) rfl dL_isList_532 ?_
                  refine z_goto 436 C dL_isList_535 (by decide) ?_
                  refine zW.widen (k' := 2603 + 6 * (t + 1)) (n' := 15636 + 36 * (t + 1)) (by omega) (by omega) ?_
                  have z := ih (t + 1) P _ (some (zi 1)) (by omega) hW
                  rw [cnF_s1 (p := (fun t => prD D t && hasB (D 61 i) (nI t))) (i := t) (by show (prD D t && hasB (D 61 i) (nI t)) = true; rw [hp, hb]; rfl), nI_succ (cnF _ t), nI_succ t] at z
                  exact z
                · exact h492.elim
              · exact h468.elim
            · exact h455.elim
          · refine z_iload C rfl dL_isList_436 ?_
            refine z_aload_n C rfl dL_isList_438 ?_
            refine z_iconst 0 (by decide) C dL_isList_439 ?_
            refine z_mld C hW.1 (show (0 : Int32) = nI 0 from rfl) (by decide) hm0 dL_isList_440 ?_
            refine z_icmp_ge 538 C dL_isList_441 (by decide) (fun c441 => absurd c441 (nI_ge (by omega) (by omega))) (fun c441 => ?_)
            refine z_iload C rfl dL_isList_444 ?_
            refine z_if_eq 538 C dL_isList_446 (by decide) (fun c446 => absurd c446 (by decide)) (fun c446 => ?_)
            refine z_aload_n C rfl dL_isList_449 ?_
            refine z_bipush 15 (by decide) C dL_isList_450 ?_
            refine z_iload_n C rfl dL_isList_452 ?_
            refine z_iload C rfl dL_isList_453 ?_
            refine z_callLH 4 [zr (some x), zi 15, zi (nI i), zi (nI t)] C Nc Sc (Q_15 hl0 hW.1.1 i t (by omega) (by omega)) rfl (zgoodS LWl_good wq222 wq223 wq4 wq224) rfl rfl rfl (by decide +kernel) rfl (by rw [hR]; exact ⟨Nat.le_of_ble_eq_true rfl, Nat.le_of_ble_eq_true rfl⟩) (by rw [hRc, hRs]; exact ⟨by omega, by omega⟩) (Nat.le_of_ble_eq_true rfl) dL_isList_455 (fun v455 S455 h455 => ?_) (fun E455 S455 h455 => ?_)
            · obtain ⟨rfl, hY, hkp⟩ := h455
              replace hW := hW.kp hY hkp
              refine z_int (show aL D i (aT D t (bI (hasB (D 61 i) (nI t)))) = 0 from (if_pos hi).trans ((if_pos hp).trans (by rw [hb]; rfl))) ?_
              refine z_istore [_, _, _, _, _, _, _, _, _, _, _, _, _, _, _, _] C (by decide) rfl dL_isList_458 ?_
              refine z_iload C rfl dL_isList_460 ?_
              refine z_aload_n C rfl dL_isList_462 ?_
              refine z_bipush 16 (by decide) C dL_isList_463 ?_
              refine z_iload_n C rfl dL_isList_465 ?_
              refine z_iload C rfl dL_isList_466 ?_
              refine z_callLH 4 [zr (some x), zi 16, zi (nI i), zi (nI t)] C Nc Sc (Q_16 hl0 hW.1.1 i t (by omega) (by omega)) rfl (zgoodS LWl_good wq222 wq223 wq4 wq224) rfl rfl rfl (by decide +kernel) rfl (by rw [hR]; exact ⟨Nat.le_of_ble_eq_true rfl, Nat.le_of_ble_eq_true rfl⟩) (by rw [hRc, hRs]; exact ⟨by omega, by omega⟩) (Nat.le_of_ble_eq_true rfl) dL_isList_468 (fun v468 S468 h468 => ?_) (fun E468 S468 h468 => ?_)
              · obtain ⟨rfl, hY, hkp⟩ := h468
                replace hW := hW.kp hY hkp
                refine z_int (show aL D i (aT D t (bI (hasB (D 61 i) (nI t)))) = 0 from (if_pos hi).trans ((if_pos hp).trans (by rw [hb]; rfl))) ?_
                refine z_icmp_ne 513 C dL_isList_471 (by decide) (fun c471 => absurd rfl c471) (fun c471 => ?_)
                refine z_iload C rfl dL_isList_474 ?_
                refine z_sipush (-2005) (by decide) C dL_isList_476 ?_
                refine z_icmp_ne 486 C dL_isList_479 (by decide) (fun c479 => ?_) (fun c479 => absurd c479 (by decide))
                refine z_iconst 0 (by decide) C dL_isList_486 ?_
                refine z_aload_n C rfl dL_isList_487 ?_
                refine z_iconst 0 (by decide) C dL_isList_488 ?_
                refine z_iload C rfl dL_isList_489 ?_
                refine z_iconst 0 (by decide) C dL_isList_491 ?_
                refine z_callLH 4 [zr (some x), zi 0, zi (nI t), zi 0] C Nc Sc (Q_0 hl0 hW.1.1 t (by omega) 0) rfl (zgoodS LWl_good wq222 wq223 wq4 wq224) rfl rfl rfl (by decide +kernel) rfl (by rw [hR]; exact ⟨Nat.le_of_ble_eq_true rfl, Nat.le_of_ble_eq_true rfl⟩) (by rw [hRc, hRs]; exact ⟨by omega, by omega⟩) (Nat.le_of_ble_eq_true rfl) dL_isList_492 (fun v492 S492 h492 => ?_) (fun E492 S492 h492 => ?_)
                · obtain ⟨rfl, hY, hkp⟩ := h492
                  replace hW := hW.kp hY hkp
                  refine z_int (if_pos hp) ?_
                  refine z_sipush (-2005) (by decide) C dL_isList_495 ?_
                  refine z_icmp_ne 505 C dL_isList_498 (by decide) (fun c498 => ?_) (fun c498 => absurd c498 hlen)
                  refine z_iconst 0 (by decide) C dL_isList_505 ?_
                  refine z_icmp_ne 513 C dL_isList_506 (by decide) (fun c506 => absurd rfl c506) (fun c506 => ?_)
                  refine z_iconst 1 (by decide) C dL_isList_509 ?_
                  refine z_goto 514 C dL_isList_510 (by decide) ?_
                  refine z_istore [_, _, _, _, _, _, _, _, _, _, _, _, _, _, _, _] C (by decide) rfl dL_isList_514 ?_
                  refine z_iload C rfl dL_isList_516 ?_
                  refine z_iload C rfl dL_isList_518 ?_
                  refine z_iconst 1 (by decide) C dL_isList_520 ?_
                  refine z_icmp_ne 528 C dL_isList_521 (by decide) (fun c521 => ?_) (fun c521 => absurd c521 (by decide))
                  refine z_iconst 0 (by decide) C dL_isList_528 ?_
                  refine z_iadd C dL_isList_529 ?_
                  refine z_int (Int32.add_zero _) ?_
                  refine z_istore [_, _, _, _, _, _, _, _, _, _, _, _, _, _, _, _] C (by decide) rfl dL_isList_530 ?_
                  refine z_inc (1) [_, _, _, _, _, _, _, _, _, _, _, _, _, _, _, _] C rfl (by decide) (by decide) rfl dL_isList_532 ?_
                  refine z_goto 436 C dL_isList_535 (by decide) ?_
                  refine zW.widen (k' := 2603 + 6 * (t + 1)) (n' := 15636 + 36 * (t + 1)) (by omega) (by omega) ?_
                  have z := ih (t + 1) P _ (some (zi 0)) (by omega) hW
                  rw [cnF_s0 (p := (fun t => prD D t && hasB (D 61 i) (nI t))) (i := t) (by show (prD D t && hasB (D 61 i) (nI t)) = false; rw [hp, hb]; rfl), nI_succ t] at z
                  exact z
                · exact h492.elim
              · exact h468.elim
            · exact h455.elim
        · refine z_iload C rfl dL_isList_436 ?_
          refine z_aload_n C rfl dL_isList_438 ?_
          refine z_iconst 0 (by decide) C dL_isList_439 ?_
          refine z_mld C hW.1 (show (0 : Int32) = nI 0 from rfl) (by decide) hm0 dL_isList_440 ?_
          refine z_icmp_ge 538 C dL_isList_441 (by decide) (fun c441 => absurd c441 (nI_ge (by omega) (by omega))) (fun c441 => ?_)
          refine z_iload C rfl dL_isList_444 ?_
          refine z_if_eq 538 C dL_isList_446 (by decide) (fun c446 => absurd c446 (by decide)) (fun c446 => ?_)
          refine z_aload_n C rfl dL_isList_449 ?_
          refine z_bipush 15 (by decide) C dL_isList_450 ?_
          refine z_iload_n C rfl dL_isList_452 ?_
          refine z_iload C rfl dL_isList_453 ?_
          refine z_callLH 4 [zr (some x), zi 15, zi (nI i), zi (nI t)] C Nc Sc (Q_15 hl0 hW.1.1 i t (by omega) (by omega)) rfl (zgoodS LWl_good wq222 wq223 wq4 wq224) rfl rfl rfl (by decide +kernel) rfl (by rw [hR]; exact ⟨Nat.le_of_ble_eq_true rfl, Nat.le_of_ble_eq_true rfl⟩) (by rw [hRc, hRs]; exact ⟨by omega, by omega⟩) (Nat.le_of_ble_eq_true rfl) dL_isList_455 (fun v455 S455 h455 => ?_) (fun E455 S455 h455 => ?_)
          · obtain ⟨rfl, hY, hkp⟩ := h455
            replace hW := hW.kp hY hkp
            refine z_int (show aL D i (aT D t (bI (hasB (D 61 i) (nI t)))) = (-2005) from (if_pos hi).trans (if_neg (by rw [hp]; decide))) ?_
            refine z_istore [_, _, _, _, _, _, _, _, _, _, _, _, _, _, _, _] C (by decide) rfl dL_isList_458 ?_
            refine z_iload C rfl dL_isList_460 ?_
            refine z_aload_n C rfl dL_isList_462 ?_
            refine z_bipush 16 (by decide) C dL_isList_463 ?_
            refine z_iload_n C rfl dL_isList_465 ?_
            refine z_iload C rfl dL_isList_466 ?_
            refine z_callLH 4 [zr (some x), zi 16, zi (nI i), zi (nI t)] C Nc Sc (Q_16 hl0 hW.1.1 i t (by omega) (by omega)) rfl (zgoodS LWl_good wq222 wq223 wq4 wq224) rfl rfl rfl (by decide +kernel) rfl (by rw [hR]; exact ⟨Nat.le_of_ble_eq_true rfl, Nat.le_of_ble_eq_true rfl⟩) (by rw [hRc, hRs]; exact ⟨by omega, by omega⟩) (Nat.le_of_ble_eq_true rfl) dL_isList_468 (fun v468 S468 h468 => ?_) (fun E468 S468 h468 => ?_)
            · obtain ⟨rfl, hY, hkp⟩ := h468
              replace hW := hW.kp hY hkp
              refine z_int (show aL D i (aT D t (bI (hasB (D 61 i) (nI t)))) = (-2005) from (if_pos hi).trans (if_neg (by rw [hp]; decide))) ?_
              refine z_icmp_ne 513 C dL_isList_471 (by decide) (fun c471 => absurd rfl c471) (fun c471 => ?_)
              refine z_iload C rfl dL_isList_474 ?_
              refine z_sipush (-2005) (by decide) C dL_isList_476 ?_
              refine z_icmp_ne 486 C dL_isList_479 (by decide) (fun c479 => absurd rfl c479) (fun c479 => ?_)
              refine z_iconst 1 (by decide) C dL_isList_482 ?_
              refine z_goto 487 C dL_isList_483 (by decide) ?_
              refine z_aload_n C rfl dL_isList_487 ?_
              refine z_iconst 0 (by decide) C dL_isList_488 ?_
              refine z_iload C rfl dL_isList_489 ?_
              refine z_iconst 0 (by decide) C dL_isList_491 ?_
              refine z_callLH 4 [zr (some x), zi 0, zi (nI t), zi 0] C Nc Sc (Q_0 hl0 hW.1.1 t (by omega) 0) rfl (zgoodS LWl_good wq222 wq223 wq4 wq224) rfl rfl rfl (by decide +kernel) rfl (by rw [hR]; exact ⟨Nat.le_of_ble_eq_true rfl, Nat.le_of_ble_eq_true rfl⟩) (by rw [hRc, hRs]; exact ⟨by omega, by omega⟩) (Nat.le_of_ble_eq_true rfl) dL_isList_492 (fun v492 S492 h492 => ?_) (fun E492 S492 h492 => ?_)
              · obtain ⟨rfl, hY, hkp⟩ := h492
                replace hW := hW.kp hY hkp
                refine z_int (if_neg (by rw [hp]; decide)) ?_
                refine z_sipush (-2005) (by decide) C dL_isList_495 ?_
                refine z_icmp_ne 505 C dL_isList_498 (by decide) (fun c498 => absurd rfl c498) (fun c498 => ?_)
                refine z_iconst 1 (by decide) C dL_isList_501 ?_
                refine z_goto 506 C dL_isList_502 (by decide) ?_
                refine z_icmp_ne 513 C dL_isList_506 (by decide) (fun c506 => absurd rfl c506) (fun c506 => ?_)
                refine z_iconst 1 (by decide) C dL_isList_509 ?_
                refine z_goto 514 C dL_isList_510 (by decide) ?_
                refine z_istore [_, _, _, _, _, _, _, _, _, _, _, _, _, _, _, _] C (by decide) rfl dL_isList_514 ?_
                refine z_iload C rfl dL_isList_516 ?_
                refine z_iload C rfl dL_isList_518 ?_
                refine z_iconst 1 (by decide) C dL_isList_520 ?_
                refine z_icmp_ne 528 C dL_isList_521 (by decide) (fun c521 => ?_) (fun c521 => absurd c521 (by decide))
                refine z_iconst 0 (by decide) C dL_isList_528 ?_
                refine z_iadd C dL_isList_529 ?_
                refine z_int (Int32.add_zero _) ?_
                refine z_istore [_, _, _, _, _, _, _, _, _, _, _, _, _, _, _, _] C (by decide) rfl dL_isList_530 ?_
                refine z_inc (1) [_, _, _, _, _, _, _, _, _, _, _, _, _, _, _, _] C rfl (by decide) (by decide) rfl dL_isList_532 ?_
                refine z_goto 436 C dL_isList_535 (by decide) ?_
                refine zW.widen (k' := 2603 + 6 * (t + 1)) (n' := 15636 + 36 * (t + 1)) (by omega) (by omega) ?_
                have z := ih (t + 1) P _ (some (zi (-2005))) (by omega) hW
                rw [cnF_s0 (p := (fun t => prD D t && hasB (D 61 i) (nI t))) (i := t) (by show (prD D t && _) = false; rw [hp]; rfl), nI_succ t] at z
                exact z
              · exact h492.elim
            · exact h468.elim
          · exact h455.elim
    have L2 : ∀ (jk k : Nat) (P : Int64) (S1 : ZM) (w14 w15 : Option ZV), k + jk = l.length → prR D (grL (D 42) (D 60 i) (l.take k) 0) P → wS D x m a37 (Fa Fw a37) f g S1 → zW X 16 (2355 + 10 * k) (14148 + 60 * k) S1 158 [some (zr (some x)), some (zr (some m)), some (zi (nI i)), some (zi (nI r9)), some (zi (D 59 i)), some (zi (D 60 i)), some (zi (nI l.length)), some (zr (some a37)), some (zi (nI (grL (D 42) (D 60 i) (l.take k) 0).length)), some (zi (grS (D 42) (D 60 i) (l.take k) 0)), some (zj P), none, some (zi 1), some (zi (nI k)), w14, w15] [] := by
      intro jk
      induction jk with
      | zero =>
        intro k P S1 w14 w15 hk hP hW
        obtain rfl : k = l.length := by omega
        rw [List.take_length] at hP ⊢
        refine z_iload C rfl dL_isList_158 ?_
        refine z_iload C rfl dL_isList_160 ?_
        refine z_icmp_ge 348 C dL_isList_162 (by decide) (fun c162 => ?_) (fun c162 => absurd (nI_le (by omega) (by omega)) c162)
        refine z_iload C rfl dL_isList_348 ?_
        refine z_if_eq 427 C dL_isList_350 (by decide) (fun c350 => absurd c350 (by decide)) (fun c350 => ?_)
        refine z_aload_n C rfl dL_isList_353 ?_
        refine z_bipush 13 (by decide) C dL_isList_354 ?_
        refine z_iload_n C rfl dL_isList_356 ?_
        refine z_iconst 0 (by decide) C dL_isList_357 ?_
        refine z_callLH 4 [zr (some x), zi 13, zi (nI i), zi 0] C Nc Sc (Q_13 hl0 hW.1.1 i (by omega) 0) rfl (zgoodS LWl_good wq222 wq223 wq4 wq224) rfl rfl rfl (by decide +kernel) rfl (by rw [hR]; exact ⟨Nat.le_of_ble_eq_true rfl, Nat.le_of_ble_eq_true rfl⟩) (by rw [hRc, hRs]; exact ⟨by omega, by omega⟩) (Nat.le_of_ble_eq_true rfl) dL_isList_358 (fun v358 S358 h358 => ?_) (fun E358 S358 h358 => ?_)
        · obtain ⟨rfl, hY, hkp⟩ := h358
          replace hW := hW.kp hY hkp
          refine z_int ((if_pos hi).trans (congrArg nI e3)) ?_
          refine z_iload C rfl dL_isList_361 ?_
          refine z_icmp_ne 427 C dL_isList_363 (by decide) (fun c363 => absurd rfl c363) (fun c363 => ?_)
          refine z_aload_n C rfl dL_isList_366 ?_
          refine z_bipush 14 (by decide) C dL_isList_367 ?_
          refine z_iload_n C rfl dL_isList_369 ?_
          refine z_iload C rfl dL_isList_370 ?_
          refine z_callLH 4 [zr (some x), zi 14, zi (nI i), zi (nI (grL (D 42) (D 60 i) l 0).length)] C Nc Sc (Q_14 hl0 hW.1.1 i (grL (D 42) (D 60 i) l 0).length (by omega) (by omega)) rfl (zgoodS LWl_good wq222 wq223 wq4 wq224) rfl rfl rfl (by decide +kernel) rfl (by rw [hR]; exact ⟨Nat.le_of_ble_eq_true rfl, Nat.le_of_ble_eq_true rfl⟩) (by rw [hRc, hRs]; exact ⟨by omega, by omega⟩) (Nat.le_of_ble_eq_true rfl) dL_isList_372 (fun v372 S372 h372 => ?_) (fun E372 S372 h372 => ?_)
          · obtain ⟨rfl, hY, hkp⟩ := h372
            replace hW := hW.kp hY hkp
            refine z_int ((if_pos hi).trans (if_neg (by rw [e3]; exact Nat.lt_irrefl _))) ?_
            refine z_sipush (-2001) (by decide) C dL_isList_375 ?_
            refine z_icmp_ne 427 C dL_isList_378 (by decide) (fun c378 => absurd rfl c378) (fun c378 => ?_)
            refine z_aload_n C rfl dL_isList_381 ?_
            refine z_bipush 17 (by decide) C dL_isList_382 ?_
            refine z_iload_n C rfl dL_isList_384 ?_
            refine z_iconst 0 (by decide) C dL_isList_385 ?_
            refine z_callLH 4 [zr (some x), zi 17, zi (nI i), zi 0] C Nc Sc (Q_17 hl0 hW.1.1 i (by omega) 0) rfl (zgoodS LWl_good wq222 wq223 wq4 wq224) rfl rfl rfl (by decide +kernel) rfl (by rw [hR]; exact ⟨Nat.le_of_ble_eq_true rfl, Nat.le_of_ble_eq_true rfl⟩) (by rw [hRc, hRs]; exact ⟨by omega, by omega⟩) (Nat.le_of_ble_eq_true rfl) dL_isList_386 (fun v386 S386 h386 => ?_) (fun E386 S386 h386 => ?_)
            · obtain ⟨rfl, hY, hkp⟩ := h386
              replace hW := hW.kp hY hkp
              refine z_int ((if_pos hi).trans e5) ?_
              refine z_iload C rfl dL_isList_389 ?_
              refine z_icmp_ne 427 C dL_isList_391 (by decide) (fun c391 => absurd rfl c391) (fun c391 => ?_)
              refine z_aload_n C rfl dL_isList_394 ?_
              refine z_bipush 20 (by decide) C dL_isList_395 ?_
              refine z_iload_n C rfl dL_isList_397 ?_
              refine z_iconst 0 (by decide) C dL_isList_398 ?_
              refine z_callLH 4 [zr (some x), zi 20, zi (nI i), zi 0] C Nc Sc (Q_20 hl0 hW.1.1 i (by omega) 0) rfl (zgoodS LWl_good wq222 wq223 wq4 wq224) rfl rfl rfl (by decide +kernel) rfl (by rw [hR]; exact ⟨Nat.le_of_ble_eq_true rfl, Nat.le_of_ble_eq_true rfl⟩) (by rw [hRc, hRs]; exact ⟨by omega, by omega⟩) (Nat.le_of_ble_eq_true rfl) dL_isList_399 (fun v399 S399 h399 => ?_) (fun E399 S399 h399 => ?_)
              · obtain ⟨rfl, hY, hkp⟩ := h399
                replace hW := hW.kp hY hkp
                refine z_int (if_pos hi) ?_
                refine z_lload C rfl dL_isList_402 ?_
                refine z_ldc2_w C (List.mem_cons_of_mem _ wq232) dL_isList_404 ?_
                refine z_lcmp C dL_isList_407 ?_
                refine z_if_le 417 C dL_isList_408 (by decide) (fun c408 => ?_) (fun c408 => ?_)
                · have HE : (if prN D (D 61 i) 24 ≤ 2147483647 then nI (prN D (D 61 i) 24) else -2006) = P.toInt32 := by
                    rw [e6, if_pos (hP.le c408).1, (hP.le c408).2]
                  refine z_lload C rfl dL_isList_417 ?_
                  refine z_l2i C dL_isList_419 ?_
                  refine z_icmp_ne 427 C dL_isList_420 (by decide) (fun c420 => absurd HE c420) (fun c420 => ?_)
                  refine z_iconst 1 (by decide) C dL_isList_423 ?_
                  refine z_goto 428 C dL_isList_424 (by decide) ?_
                  refine z_istore [_, _, _, _, _, _, _, _, _, _, _, _, _, _, _, _] C (by decide) rfl dL_isList_428 ?_
                  refine z_iconst 0 (by decide) C dL_isList_430 ?_
                  refine z_istore [_, _, _, _, _, _, _, _, _, _, _, _, _, _, _, _] C (by decide) rfl dL_isList_431 ?_
                  refine z_iconst 0 (by decide) C dL_isList_433 ?_
                  refine z_istore [_, _, _, _, _, _, _, _, _, _, _, _, _, _, _, _] C (by decide) rfl dL_isList_434 ?_
                  refine zW.widen (k' := 2603 + 6 * 0) (n' := 15636 + 36 * 0) (by omega) (by omega) ?_
                  exact L3 (dT D) 0 P _ w15 (by omega) hW
                · have HE : (if prN D (D 61 i) 24 ≤ 2147483647 then nI (prN D (D 61 i) 24) else -2006) = -2006 := by
                    rw [e6, if_neg (hP.gt c408)]
                  refine z_sipush (-2006) (by decide) C dL_isList_411 ?_
                  refine z_goto 420 C dL_isList_414 (by decide) ?_
                  refine z_icmp_ne 427 C dL_isList_420 (by decide) (fun c420 => absurd HE c420) (fun c420 => ?_)
                  refine z_iconst 1 (by decide) C dL_isList_423 ?_
                  refine z_goto 428 C dL_isList_424 (by decide) ?_
                  refine z_istore [_, _, _, _, _, _, _, _, _, _, _, _, _, _, _, _] C (by decide) rfl dL_isList_428 ?_
                  refine z_iconst 0 (by decide) C dL_isList_430 ?_
                  refine z_istore [_, _, _, _, _, _, _, _, _, _, _, _, _, _, _, _] C (by decide) rfl dL_isList_431 ?_
                  refine z_iconst 0 (by decide) C dL_isList_433 ?_
                  refine z_istore [_, _, _, _, _, _, _, _, _, _, _, _, _, _, _, _] C (by decide) rfl dL_isList_434 ?_
                  refine zW.widen (k' := 2603 + 6 * 0) (n' := 15636 + 36 * 0) (by omega) (by omega) ?_
                  exact L3 (dT D) 0 P _ w15 (by omega) hW
              · exact h399.elim
            · exact h386.elim
          · exact h372.elim
        · exact h358.elim
      | succ jk ihk =>
        intro k P S1 w14 w15 hk hP hW
        have hkl : k < l.length := by omega
        have hGk9 := hGk k
        obtain ⟨u, eu⟩ : ∃ u : Nat, u = l.getD k 0 := ⟨_, rfl⟩
        have hgk : g k = nI u := by rw [eu]; exact hg k hkl
        obtain ⟨hu24, hpu, heu⟩ := (hm24 u).mp (by rw [eu]; exact getD_mem hkl)
        have JT : ∀ (S2 : ZM) (w15 : Option ZV), (D 60 i = 0 ∨ (grS (D 42) (D 60 i) (l.take k) 0) + D 42 u ≤ D 60 i) → wS D x m a37 (Fa Fw a37) f g S2 → zW X 16 (2355 + 10 * k + 2) (14148 + 60 * k + 12) S2 203 [some (zr (some x)), some (zr (some m)), some (zi (nI i)), some (zi (nI r9)), some (zi (D 59 i)), some (zi (D 60 i)), some (zi (nI l.length)), some (zr (some a37)), some (zi (nI (grL (D 42) (D 60 i) (l.take k) 0).length)), some (zi (grS (D 42) (D 60 i) (l.take k) 0)), some (zj P), none, some (zi 1), some (zi (nI k)), some (zi (D 42 u)), w15] [zi 1] := by
          intro S2 w15 hc hW
          obtain ⟨huG, hlt, hidx⟩ := gr_in (l := l) hkl (by rw [← eu]; exact hc)
          obtain ⟨hG1, hS1⟩ := (gr_step (l := l) hkl).1 (by rw [← eu]; exact hc)
          rw [← eu] at huG hidx hG1 hS1
          have hbu := (e2 u hu24).mpr huG
          refine z_istore [_, _, _, _, _, _, _, _, _, _, _, _, _, _, _, _] C (by decide) rfl dL_isList_203 ?_
          refine z_aload_n C rfl dL_isList_205 ?_
          refine z_bipush 15 (by decide) C dL_isList_206 ?_
          refine z_iload_n C rfl dL_isList_208 ?_
          refine z_aload C rfl dL_isList_209 ?_
          refine z_iload C rfl dL_isList_211 ?_
          refine z_ald C hW rfl (by omega) hgk dL_isList_213 ?_
          refine z_callLH 4 [zr (some x), zi 15, zi (nI i), zi (nI u)] C Nc Sc (Q_15 hl0 hW.1.1 i u (by omega) (by omega)) rfl (zgoodS LWl_good wq222 wq223 wq4 wq224) rfl rfl rfl (by decide +kernel) rfl (by rw [hR]; exact ⟨Nat.le_of_ble_eq_true rfl, Nat.le_of_ble_eq_true rfl⟩) (by rw [hRc, hRs]; exact ⟨by omega, by omega⟩) (Nat.le_of_ble_eq_true rfl) dL_isList_214 (fun v214 S214 h214 => ?_) (fun E214 S214 h214 => ?_)
          · obtain ⟨rfl, hY, hkp⟩ := h214
            replace hW := hW.kp hY hkp
            refine z_int (show aL D i (aT D u (bI (hasB (D 61 i) (nI u)))) = 1 from (if_pos hi).trans ((if_pos hpu).trans (by rw [hbu]; rfl))) ?_
            refine z_iload C rfl dL_isList_217 ?_
            refine z_callS 1 [zi 1] C (L_told hl0 1) rfl (zgoodS LWl_good wq158 wq159 wq4 wq160) rfl rfl rfl (by decide +kernel) rfl (by rw [hR]; exact ⟨Nat.le_of_ble_eq_true rfl, Nat.le_of_ble_eq_true rfl⟩) (by rw [hRc, hRs]; exact ⟨by omega, by omega⟩) (Nat.le_of_ble_eq_true rfl) dL_isList_219 (fun v219 S219 h219 => ?_) (fun E219 S219 h219 => ?_)
            · obtain ⟨rfl, q219⟩ := h219
              subst q219
              refine z_int (show tlI 1 = 1 by decide) ?_
              refine z_icmp_ne 271 C dL_isList_222 (by decide) (fun c222 => absurd rfl c222) (fun c222 => ?_)
              refine z_aload_n C rfl dL_isList_225 ?_
              refine z_bipush 16 (by decide) C dL_isList_226 ?_
              refine z_iload_n C rfl dL_isList_228 ?_
              refine z_aload C rfl dL_isList_229 ?_
              refine z_iload C rfl dL_isList_231 ?_
              refine z_ald C hW rfl (by omega) hgk dL_isList_233 ?_
              refine z_callLH 4 [zr (some x), zi 16, zi (nI i), zi (nI u)] C Nc Sc (Q_16 hl0 hW.1.1 i u (by omega) (by omega)) rfl (zgoodS LWl_good wq222 wq223 wq4 wq224) rfl rfl rfl (by decide +kernel) rfl (by rw [hR]; exact ⟨Nat.le_of_ble_eq_true rfl, Nat.le_of_ble_eq_true rfl⟩) (by rw [hRc, hRs]; exact ⟨by omega, by omega⟩) (Nat.le_of_ble_eq_true rfl) dL_isList_234 (fun v234 S234 h234 => ?_) (fun E234 S234 h234 => ?_)
              · obtain ⟨rfl, hY, hkp⟩ := h234
                replace hW := hW.kp hY hkp
                refine z_int (show aL D i (aT D u (bI (hasB (D 61 i) (nI u)))) = 1 from (if_pos hi).trans ((if_pos hpu).trans (by rw [hbu]; rfl))) ?_
                refine z_iload C rfl dL_isList_237 ?_
                refine z_callS 1 [zi 1] C (L_told hl0 1) rfl (zgoodS LWl_good wq158 wq159 wq4 wq160) rfl rfl rfl (by decide +kernel) rfl (by rw [hR]; exact ⟨Nat.le_of_ble_eq_true rfl, Nat.le_of_ble_eq_true rfl⟩) (by rw [hRc, hRs]; exact ⟨by omega, by omega⟩) (Nat.le_of_ble_eq_true rfl) dL_isList_239 (fun v239 S239 h239 => ?_) (fun E239 S239 h239 => ?_)
                · obtain ⟨rfl, q239⟩ := h239
                  subst q239
                  refine z_int (show tlI 1 = 1 by decide) ?_
                  refine z_icmp_ne 271 C dL_isList_242 (by decide) (fun c242 => absurd rfl c242) (fun c242 => ?_)
                  refine z_iload C rfl dL_isList_245 ?_
                  refine z_if_eq 267 C dL_isList_247 (by decide) (fun c247 => absurd c247 (by decide)) (fun c247 => ?_)
                  refine z_aload_n C rfl dL_isList_250 ?_
                  refine z_bipush 14 (by decide) C dL_isList_251 ?_
                  refine z_iload_n C rfl dL_isList_253 ?_
                  refine z_iload C rfl dL_isList_254 ?_
                  refine z_callLH 4 [zr (some x), zi 14, zi (nI i), zi (nI (grL (D 42) (D 60 i) (l.take k) 0).length)] C Nc Sc (Q_14 hl0 hW.1.1 i (grL (D 42) (D 60 i) (l.take k) 0).length (by omega) (by omega)) rfl (zgoodS LWl_good wq222 wq223 wq4 wq224) rfl rfl rfl (by decide +kernel) rfl (by rw [hR]; exact ⟨Nat.le_of_ble_eq_true rfl, Nat.le_of_ble_eq_true rfl⟩) (by rw [hRc, hRs]; exact ⟨by omega, by omega⟩) (Nat.le_of_ble_eq_true rfl) dL_isList_256 (fun v256 S256 h256 => ?_) (fun E256 S256 h256 => ?_)
                  · obtain ⟨rfl, hY, hkp⟩ := h256
                    replace hW := hW.kp hY hkp
                    refine z_int ((if_pos hi).trans ((if_pos (by rw [e3]; exact hlt)).trans ((e4 _ hlt).trans (congrArg nI hidx)))) ?_
                    refine z_aload C rfl dL_isList_259 ?_
                    refine z_iload C rfl dL_isList_261 ?_
                    refine z_ald C hW rfl (by omega) hgk dL_isList_263 ?_
                    refine z_icmp_ne 271 C dL_isList_264 (by decide) (fun c264 => absurd rfl c264) (fun c264 => ?_)
                    refine z_iconst 1 (by decide) C dL_isList_267 ?_
                    refine z_goto 272 C dL_isList_268 (by decide) ?_
                    refine z_istore [_, _, _, _, _, _, _, _, _, _, _, _, _, _, _, _] C (by decide) rfl dL_isList_272 ?_
                    refine z_iload C rfl dL_isList_274 ?_
                    refine z_iload C rfl dL_isList_276 ?_
                    refine z_if_eq 286 C dL_isList_278 (by decide) (fun c278 => absurd c278 (by decide)) (fun c278 => ?_)
                    refine z_iload C rfl dL_isList_281 ?_
                    refine z_goto 287 C dL_isList_283 (by decide) ?_
                    refine z_iadd C dL_isList_287 ?_
                    refine z_istore [_, _, _, _, _, _, _, _, _, _, _, _, _, _, _, _] C (by decide) rfl dL_isList_288 ?_
                    refine z_lload C rfl dL_isList_290 ?_
                    refine z_iload C rfl dL_isList_292 ?_
                    refine z_if_eq 323 C dL_isList_294 (by decide) (fun c294 => absurd c294 (by decide)) (fun c294 => ?_)
                    refine z_lload C rfl dL_isList_297 ?_
                    refine z_ldc2_w C (List.mem_cons_of_mem _ wq232) dL_isList_299 ?_
                    refine z_lcmp C dL_isList_302 ?_
                    refine z_if_gt 323 C dL_isList_303 (by decide) (fun c303 => ?_) (fun c303 => ?_)
                    · refine z_lconst 1 (by decide) C dL_isList_323 ?_
                      refine z_lmul C dL_isList_324 ?_
                      first | refine z_lng (mul_one64 _) ?_ | skip
                      refine z_lstore [_, _, _, _, _, _, _, _, _, _, _, _, _, _, _, _] C (by decide) rfl dL_isList_325 ?_
                      refine z_iload C rfl dL_isList_327 ?_
                      refine z_iload C rfl dL_isList_329 ?_
                      refine z_if_eq 338 C dL_isList_331 (by decide) (fun c331 => absurd c331 (by decide)) (fun c331 => ?_)
                      refine z_iconst 1 (by decide) C dL_isList_334 ?_
                      refine z_goto 339 C dL_isList_335 (by decide) ?_
                      refine z_iadd C dL_isList_339 ?_
                      refine z_istore [_, _, _, _, _, _, _, _, _, _, _, _, _, _, _, _] C (by decide) rfl dL_isList_340 ?_
                      refine z_inc (1) [_, _, _, _, _, _, _, _, _, _, _, _, _, _, _, _] C rfl (by decide) (by decide) rfl dL_isList_342 ?_
                      refine z_goto 158 C dL_isList_345 (by decide) ?_
                      refine zW.widen (k' := 2355 + 10 * (k + 1)) (n' := 14148 + 60 * (k + 1)) (by omega) (by omega) ?_
                      have z := ihk (k + 1) P _ (some (zi (D 42 u))) (some (zi 1)) (by omega) (by rw [hG1]; exact hP.big (Int32.not_le.mpr c303) u) hW
                      rw [hG1, hS1, List.length_append, List.length_singleton, nI_succ (grL (D 42) (D 60 i) (l.take k) 0).length, nI_succ k] at z
                      exact z
                    · refine z_aload_n C rfl dL_isList_306 ?_
                      refine z_iconst 2 (by decide) C dL_isList_307 ?_
                      refine z_aload C rfl dL_isList_308 ?_
                      refine z_iload C rfl dL_isList_310 ?_
                      refine z_ald C hW rfl (by omega) hgk dL_isList_312 ?_
                      refine z_iconst 0 (by decide) C dL_isList_313 ?_
                      refine z_callLH 4 [zr (some x), zi 2, zi (nI u), zi 0] C Nc Sc (Q_2 hl0 hW.1.1 u (by omega) 0) rfl (zgoodS LWl_good wq222 wq223 wq4 wq224) rfl rfl rfl (by decide +kernel) rfl (by rw [hR]; exact ⟨Nat.le_of_ble_eq_true rfl, Nat.le_of_ble_eq_true rfl⟩) (by rw [hRc, hRs]; exact ⟨by omega, by omega⟩) (Nat.le_of_ble_eq_true rfl) dL_isList_314 (fun v314 S314 h314 => ?_) (fun E314 S314 h314 => ?_)
                      · obtain ⟨rfl, hY, hkp⟩ := h314
                        replace hW := hW.kp hY hkp
                        refine z_int (if_pos hpu) ?_
                        refine z_iconst 1 (by decide) C dL_isList_317 ?_
                        refine z_iadd C dL_isList_318 ?_
                        refine z_i2l C dL_isList_319 ?_
                        refine z_goto 324 C dL_isList_320 (by decide) ?_
                        refine z_lmul C dL_isList_324 ?_
                        first | refine z_lng (mul_one64 _) ?_ | skip
                        refine z_lstore [_, _, _, _, _, _, _, _, _, _, _, _, _, _, _, _] C (by decide) rfl dL_isList_325 ?_
                        refine z_iload C rfl dL_isList_327 ?_
                        refine z_iload C rfl dL_isList_329 ?_
                        refine z_if_eq 338 C dL_isList_331 (by decide) (fun c331 => absurd c331 (by decide)) (fun c331 => ?_)
                        refine z_iconst 1 (by decide) C dL_isList_334 ?_
                        refine z_goto 339 C dL_isList_335 (by decide) ?_
                        refine z_iadd C dL_isList_339 ?_
                        refine z_istore [_, _, _, _, _, _, _, _, _, _, _, _, _, _, _, _] C (by decide) rfl dL_isList_340 ?_
                        refine z_inc (1) [_, _, _, _, _, _, _, _, _, _, _, _, _, _, _, _] C rfl (by decide) (by decide) rfl dL_isList_342 ?_
                        refine z_goto 158 C dL_isList_345 (by decide) ?_
                        refine zW.widen (k' := 2355 + 10 * (k + 1)) (n' := 14148 + 60 * (k + 1)) (by omega) (by omega) ?_
                        obtain ⟨p9, ep9, hp9⟩ := ((ho.2.2.2.2.2.1 u hu24).1 (prD_lt hpu)).2.2
                        have z := ihk (k + 1) (P * (D 44 u + 1).toInt64) _ (some (zi (D 42 u))) (some (zi 1)) (by omega) (by rw [hG1]; exact hP.mul (Int32.not_lt.mp c303) ep9 hp9) hW
                        rw [hG1, hS1, List.length_append, List.length_singleton, nI_succ (grL (D 42) (D 60 i) (l.take k) 0).length, nI_succ k] at z
                        exact z
                      · exact h314.elim
                  · exact h256.elim
                · exact h239.elim
              · exact h234.elim
            · exact h219.elim
          · exact h214.elim
        have JF : ∀ (S2 : ZM) (w15 : Option ZV), ¬ (D 60 i = 0 ∨ (grS (D 42) (D 60 i) (l.take k) 0) + D 42 u ≤ D 60 i) → wS D x m a37 (Fa Fw a37) f g S2 → zW X 16 (2355 + 10 * k + 2) (14148 + 60 * k + 12) S2 203 [some (zr (some x)), some (zr (some m)), some (zi (nI i)), some (zi (nI r9)), some (zi (D 59 i)), some (zi (D 60 i)), some (zi (nI l.length)), some (zr (some a37)), some (zi (nI (grL (D 42) (D 60 i) (l.take k) 0).length)), some (zi (grS (D 42) (D 60 i) (l.take k) 0)), some (zj P), none, some (zi 1), some (zi (nI k)), some (zi (D 42 u)), w15] [zi 0] := by
          intro S2 w15 hc hW
          have huG := gr_out (l := l) hs hkl (by rw [← eu]; exact hc)
          obtain ⟨hG1, hS1⟩ := (gr_step (l := l) hkl).2 (by rw [← eu]; exact hc)
          rw [← eu] at huG
          have hbu : hasB (D 61 i) (nI u) = false := by
            cases hq : hasB (D 61 i) (nI u) with
            | false => rfl
            | true => exact absurd ((e2 u hu24).mp hq) huG
          refine z_istore [_, _, _, _, _, _, _, _, _, _, _, _, _, _, _, _] C (by decide) rfl dL_isList_203 ?_
          refine z_aload_n C rfl dL_isList_205 ?_
          refine z_bipush 15 (by decide) C dL_isList_206 ?_
          refine z_iload_n C rfl dL_isList_208 ?_
          refine z_aload C rfl dL_isList_209 ?_
          refine z_iload C rfl dL_isList_211 ?_
          refine z_ald C hW rfl (by omega) hgk dL_isList_213 ?_
          refine z_callLH 4 [zr (some x), zi 15, zi (nI i), zi (nI u)] C Nc Sc (Q_15 hl0 hW.1.1 i u (by omega) (by omega)) rfl (zgoodS LWl_good wq222 wq223 wq4 wq224) rfl rfl rfl (by decide +kernel) rfl (by rw [hR]; exact ⟨Nat.le_of_ble_eq_true rfl, Nat.le_of_ble_eq_true rfl⟩) (by rw [hRc, hRs]; exact ⟨by omega, by omega⟩) (Nat.le_of_ble_eq_true rfl) dL_isList_214 (fun v214 S214 h214 => ?_) (fun E214 S214 h214 => ?_)
          · obtain ⟨rfl, hY, hkp⟩ := h214
            replace hW := hW.kp hY hkp
            refine z_int (show aL D i (aT D u (bI (hasB (D 61 i) (nI u)))) = 0 from (if_pos hi).trans ((if_pos hpu).trans (by rw [hbu]; rfl))) ?_
            refine z_iload C rfl dL_isList_217 ?_
            refine z_callS 1 [zi 0] C (L_told hl0 0) rfl (zgoodS LWl_good wq158 wq159 wq4 wq160) rfl rfl rfl (by decide +kernel) rfl (by rw [hR]; exact ⟨Nat.le_of_ble_eq_true rfl, Nat.le_of_ble_eq_true rfl⟩) (by rw [hRc, hRs]; exact ⟨by omega, by omega⟩) (Nat.le_of_ble_eq_true rfl) dL_isList_219 (fun v219 S219 h219 => ?_) (fun E219 S219 h219 => ?_)
            · obtain ⟨rfl, q219⟩ := h219
              subst q219
              refine z_int (show tlI 0 = 0 by decide) ?_
              refine z_icmp_ne 271 C dL_isList_222 (by decide) (fun c222 => absurd rfl c222) (fun c222 => ?_)
              refine z_aload_n C rfl dL_isList_225 ?_
              refine z_bipush 16 (by decide) C dL_isList_226 ?_
              refine z_iload_n C rfl dL_isList_228 ?_
              refine z_aload C rfl dL_isList_229 ?_
              refine z_iload C rfl dL_isList_231 ?_
              refine z_ald C hW rfl (by omega) hgk dL_isList_233 ?_
              refine z_callLH 4 [zr (some x), zi 16, zi (nI i), zi (nI u)] C Nc Sc (Q_16 hl0 hW.1.1 i u (by omega) (by omega)) rfl (zgoodS LWl_good wq222 wq223 wq4 wq224) rfl rfl rfl (by decide +kernel) rfl (by rw [hR]; exact ⟨Nat.le_of_ble_eq_true rfl, Nat.le_of_ble_eq_true rfl⟩) (by rw [hRc, hRs]; exact ⟨by omega, by omega⟩) (Nat.le_of_ble_eq_true rfl) dL_isList_234 (fun v234 S234 h234 => ?_) (fun E234 S234 h234 => ?_)
              · obtain ⟨rfl, hY, hkp⟩ := h234
                replace hW := hW.kp hY hkp
                refine z_int (show aL D i (aT D u (bI (hasB (D 61 i) (nI u)))) = 0 from (if_pos hi).trans ((if_pos hpu).trans (by rw [hbu]; rfl))) ?_
                refine z_iload C rfl dL_isList_237 ?_
                refine z_callS 1 [zi 0] C (L_told hl0 0) rfl (zgoodS LWl_good wq158 wq159 wq4 wq160) rfl rfl rfl (by decide +kernel) rfl (by rw [hR]; exact ⟨Nat.le_of_ble_eq_true rfl, Nat.le_of_ble_eq_true rfl⟩) (by rw [hRc, hRs]; exact ⟨by omega, by omega⟩) (Nat.le_of_ble_eq_true rfl) dL_isList_239 (fun v239 S239 h239 => ?_) (fun E239 S239 h239 => ?_)
                · obtain ⟨rfl, q239⟩ := h239
                  subst q239
                  refine z_int (show tlI 0 = 0 by decide) ?_
                  refine z_icmp_ne 271 C dL_isList_242 (by decide) (fun c242 => absurd rfl c242) (fun c242 => ?_)
                  refine z_iload C rfl dL_isList_245 ?_
                  refine z_if_eq 267 C dL_isList_247 (by decide) (fun c247 => ?_) (fun c247 => absurd rfl c247)
                  refine z_iconst 1 (by decide) C dL_isList_267 ?_
                  refine z_goto 272 C dL_isList_268 (by decide) ?_
                  refine z_istore [_, _, _, _, _, _, _, _, _, _, _, _, _, _, _, _] C (by decide) rfl dL_isList_272 ?_
                  refine z_iload C rfl dL_isList_274 ?_
                  refine z_iload C rfl dL_isList_276 ?_
                  refine z_if_eq 286 C dL_isList_278 (by decide) (fun c278 => ?_) (fun c278 => absurd rfl c278)
                  refine z_iconst 0 (by decide) C dL_isList_286 ?_
                  refine z_iadd C dL_isList_287 ?_
                  refine z_int (Int32.add_zero _) ?_
                  refine z_istore [_, _, _, _, _, _, _, _, _, _, _, _, _, _, _, _] C (by decide) rfl dL_isList_288 ?_
                  refine z_lload C rfl dL_isList_290 ?_
                  refine z_iload C rfl dL_isList_292 ?_
                  refine z_if_eq 323 C dL_isList_294 (by decide) (fun c294 => ?_) (fun c294 => absurd rfl c294)
                  refine z_lconst 1 (by decide) C dL_isList_323 ?_
                  refine z_lmul C dL_isList_324 ?_
                  first | refine z_lng (mul_one64 _) ?_ | skip
                  refine z_lstore [_, _, _, _, _, _, _, _, _, _, _, _, _, _, _, _] C (by decide) rfl dL_isList_325 ?_
                  refine z_iload C rfl dL_isList_327 ?_
                  refine z_iload C rfl dL_isList_329 ?_
                  refine z_if_eq 338 C dL_isList_331 (by decide) (fun c331 => ?_) (fun c331 => absurd rfl c331)
                  refine z_iconst 0 (by decide) C dL_isList_338 ?_
                  refine z_iadd C dL_isList_339 ?_
                  refine z_int (Int32.add_zero _) ?_
                  refine z_istore [_, _, _, _, _, _, _, _, _, _, _, _, _, _, _, _] C (by decide) rfl dL_isList_340 ?_
                  refine z_inc (1) [_, _, _, _, _, _, _, _, _, _, _, _, _, _, _, _] C rfl (by decide) (by decide) rfl dL_isList_342 ?_
                  refine z_goto 158 C dL_isList_345 (by decide) ?_
                  refine zW.widen (k' := 2355 + 10 * (k + 1)) (n' := 14148 + 60 * (k + 1)) (by omega) (by omega) ?_
                  have z := ihk (k + 1) P _ (some (zi (D 42 u))) (some (zi 0)) (by omega) (by rw [hG1]; exact hP) hW
                  rw [hG1, hS1, nI_succ k] at z
                  exact z
                · exact h239.elim
              · exact h234.elim
            · exact h219.elim
          · exact h214.elim
        refine z_iload C rfl dL_isList_158 ?_
        refine z_iload C rfl dL_isList_160 ?_
        refine z_icmp_ge 348 C dL_isList_162 (by decide) (fun c162 => absurd c162 (nI_ge (by omega) (by omega))) (fun c162 => ?_)
        refine z_iload C rfl dL_isList_165 ?_
        refine z_if_eq 348 C dL_isList_167 (by decide) (fun c167 => absurd c167 (by decide)) (fun c167 => ?_)
        refine z_aload_n C rfl dL_isList_170 ?_
        refine z_iconst 0 (by decide) C dL_isList_171 ?_
        refine z_aload C rfl dL_isList_172 ?_
        refine z_iload C rfl dL_isList_174 ?_
        refine z_ald C hW rfl (by omega) hgk dL_isList_176 ?_
        refine z_iconst 0 (by decide) C dL_isList_177 ?_
        refine z_callLH 4 [zr (some x), zi 0, zi (nI u), zi 0] C Nc Sc (Q_0 hl0 hW.1.1 u (by omega) 0) rfl (zgoodS LWl_good wq222 wq223 wq4 wq224) rfl rfl rfl (by decide +kernel) rfl (by rw [hR]; exact ⟨Nat.le_of_ble_eq_true rfl, Nat.le_of_ble_eq_true rfl⟩) (by rw [hRc, hRs]; exact ⟨by omega, by omega⟩) (Nat.le_of_ble_eq_true rfl) dL_isList_178 (fun v178 S178 h178 => ?_) (fun E178 S178 h178 => ?_)
        · obtain ⟨rfl, hY, hkp⟩ := h178
          replace hW := hW.kp hY hkp
          refine z_int (if_pos hpu) ?_
          refine z_istore [_, _, _, _, _, _, _, _, _, _, _, _, _, _, _, _] C (by decide) rfl dL_isList_181 ?_
          refine z_iload C rfl dL_isList_183 ?_
          refine z_if_eq 198 C dL_isList_185 (by decide) (fun c185 => ?_) (fun c185 => ?_)
          · refine z_iconst 1 (by decide) C dL_isList_198 ?_
            refine z_goto 203 C dL_isList_199 (by decide) ?_
            exact JT _ _ (Or.inl c185) hW
          · refine z_iload C rfl dL_isList_188 ?_
            refine z_iload C rfl dL_isList_190 ?_
            refine z_iadd C dL_isList_192 ?_
            refine z_iload C rfl dL_isList_193 ?_
            refine z_icmp_gt 202 C dL_isList_195 (by decide) (fun c195 => ?_) (fun c195 => ?_)
            · refine z_iconst 0 (by decide) C dL_isList_202 ?_
              exact JF _ _ (fun q => q.elim c185 (fun z => absurd c195 (Int32.not_lt.mpr z))) hW
            · refine z_iconst 1 (by decide) C dL_isList_198 ?_
              refine z_goto 203 C dL_isList_199 (by decide) ?_
              exact JT _ _ (Or.inr (Int32.not_lt.mp c195)) hW
        · exact h178.elim
    refine z_iconst 0 (by decide) C dL_isList_126 ?_
    refine z_istore [_, _, _, _, _, _, _, _, _, _, _, _, _, _, _, _] C (by decide) rfl dL_isList_127 ?_
    refine z_iconst 0 (by decide) C dL_isList_129 ?_
    refine z_istore [_, _, _, _, _, _, _, _, _, _, _, _, _, _, _, _] C (by decide) rfl dL_isList_130 ?_
    refine z_lconst 1 (by decide) C dL_isList_132 ?_
    refine z_lstore [_, _, _, _, _, _, _, _, _, _, _, _, _, _, _, _] C (by decide) rfl dL_isList_133 ?_
    refine z_aload_n C rfl dL_isList_135 ?_
    refine z_bipush 12 (by decide) C dL_isList_136 ?_
    refine z_iload_n C rfl dL_isList_138 ?_
    refine z_iconst 0 (by decide) C dL_isList_139 ?_
    refine z_callLH 4 [zr (some x), zi 12, zi (nI i), zi 0] C Nc Sc (Q_12 hl0 hW.1.1 i (by omega) 0) rfl (zgoodS LWl_good wq222 wq223 wq4 wq224) rfl rfl rfl (by decide +kernel) rfl (by rw [hR]; exact ⟨Nat.le_of_ble_eq_true rfl, Nat.le_of_ble_eq_true rfl⟩) (by rw [hRc, hRs]; exact ⟨by omega, by omega⟩) (Nat.le_of_ble_eq_true rfl) dL_isList_140 (fun v140 S140 h140 => ?_) (fun E140 S140 h140 => ?_)
    · obtain ⟨rfl, hY, hkp⟩ := h140
      replace hW := hW.kp hY hkp
      refine z_int ((if_pos hi).trans (congrArg nI e1)) ?_
      refine z_iload C rfl dL_isList_143 ?_
      refine z_icmp_ne 152 C dL_isList_145 (by decide) (fun c145 => absurd rfl c145) (fun c145 => ?_)
      refine z_iconst 1 (by decide) C dL_isList_148 ?_
      refine z_goto 153 C dL_isList_149 (by decide) ?_
      refine z_istore [_, _, _, _, _, _, _, _, _, _, _, _, _, _, _, _] C (by decide) rfl dL_isList_153 ?_
      refine z_iconst 0 (by decide) C dL_isList_155 ?_
      refine z_istore [_, _, _, _, _, _, _, _, _, _, _, _, _, _, _, _] C (by decide) rfl dL_isList_156 ?_
      refine zW.widen (k' := 2355 + 10 * 0) (n' := 14148 + 60 * 0) (by omega) (by omega) ?_
      exact L2 l.length 0 1 _ none none (by omega) (prR.nil D) hW
    · exact h140.elim
  have L1 : ∀ (jt t : Nat) (l : List Nat) (g : Nat → Int32) (S1 : ZM) (w9 : Option ZV), t + jt = dT D → l.Pairwise (ltP (plD D (D 59 i))) → (∀ u, u ∈ l ↔ u < t ∧ prD D u = true ∧ ev D (D 61) r9 u = true) → (∀ j, j < l.length → g j = nI (l.getD j 0)) → l.length ≤ t → wS D x m a37 (Fa Fw a37) f g S1 → zW X 16 (1 + 98 * t) (24 + 588 * t) S1 44 [some (zr (some x)), some (zr (some m)), some (zi (nI i)), some (zi (nI r9)), some (zi (D 59 i)), some (zi (D 60 i)), some (zi (nI l.length)), some (zr (some a37)), some (zi (nI t)), w9, none, none, none, none, none, none] [] := by
    intro jt
    induction jt with
    | zero =>
      intro t l g S1 w9 ht hs hm hg hlen hW
      obtain rfl : t = dT D := by omega
      refine z_iload C rfl dL_isList_44 ?_
      refine z_aload_n C rfl dL_isList_46 ?_
      refine z_iconst 0 (by decide) C dL_isList_47 ?_
      refine z_mld C hW.1 (show (0 : Int32) = nI 0 from rfl) (by decide) hm0 dL_isList_48 ?_
      refine z_icmp_ge 126 C dL_isList_49 (by decide) (fun c49 => ?_) (fun c49 => absurd (nI_le (by omega) (by omega)) c49)
      refine zW.widen (k' := 2353) (n' := 14136) (by omega) (by omega) ?_
      exact R126 l g _ _ _ hs hm hg hlen hW
    | succ jt ih =>
      intro t l g S1 w9 ht hs hm hg hlen hW
      refine z_iload C rfl dL_isList_44 ?_
      refine z_aload_n C rfl dL_isList_46 ?_
      refine z_iconst 0 (by decide) C dL_isList_47 ?_
      refine z_mld C hW.1 (show (0 : Int32) = nI 0 from rfl) (by decide) hm0 dL_isList_48 ?_
      refine z_icmp_ge 126 C dL_isList_49 (by decide) (fun c49 => absurd c49 (nI_ge (by omega) (by omega))) (fun c49 => ?_)
      refine z_aload_n C rfl dL_isList_52 ?_
      refine z_bipush 11 (by decide) C dL_isList_53 ?_
      refine z_iload_n C rfl dL_isList_55 ?_
      refine z_iload C rfl dL_isList_56 ?_
      refine z_callLH 4 [zr (some x), zi 11, zi (nI r9), zi (nI t)] C Nc Sc (Q_11 hl0 hW.1.1 r9 t (by omega) (by omega)) rfl (zgoodS LWl_good wq222 wq223 wq4 wq224) rfl rfl rfl (by decide +kernel) rfl (by rw [hR]; exact ⟨Nat.le_of_ble_eq_true rfl, Nat.le_of_ble_eq_true rfl⟩) (by rw [hRc, hRs]; exact ⟨by omega, by omega⟩) (Nat.le_of_ble_eq_true rfl) dL_isList_58 (fun v58 S58 h58 => ?_) (fun E58 S58 h58 => ?_)
      · obtain ⟨rfl, hY, hkp⟩ := h58
        replace hW := hW.kp hY hkp
        refine z_int (if_pos hr9) ?_
        refine z_iconst 1 (by decide) C dL_isList_61 ?_
        refine z_icmp_ne 120 C dL_isList_62 (by decide) (fun c62 => ?_) (fun c62 => ?_)
        · refine z_inc (1) [_, _, _, _, _, _, _, _, _, _, _, _, _, _, _, _] C rfl (by decide) (by decide) rfl dL_isList_120 ?_
          refine z_goto 44 C dL_isList_123 (by decide) ?_
          refine zW.widen (k' := 1 + 98 * (t + 1)) (n' := 24 + 588 * (t + 1)) (by omega) (by omega) ?_
          have z := ih (t + 1) l g _ w9 (by omega) hs (fun u => by
              rw [hm u]
              constructor
              · rintro ⟨z1, z2⟩; exact ⟨by omega, z2⟩
              · rintro ⟨z1, z2⟩
                refine ⟨?_, z2⟩
                rcases Nat.lt_succ_iff_lt_or_eq.mp z1 with z3 | z3
                · exact z3
                · subst z3; exact absurd (aT_1.mpr z2) c62) hg (by omega) hW
          rw [nI_succ t] at z
          exact z
        · obtain ⟨hpt, het⟩ := aT_1.mp c62
          have hne : ∀ u ∈ l, u ≠ t := fun u hu => by have := ((hm u).mp hu).1; omega
          have W : ∀ (q e : Nat) (g1 : Nat → Int32) (S2 : ZM), q + e = l.length → (∀ j, j < q → g1 j = nI (l.getD j 0)) → (∀ j, q < j → j ≤ l.length → g1 j = nI (l.getD (j - 1) 0)) → (∀ j, q ≤ j → j < l.length → ltP (plD D (D 59 i)) t (l.getD j 0)) → wS D x m a37 (Fa Fw a37) f g1 S2 → zW X 16 (1 + 98 * t + 2 + 4 * e) (24 + 588 * t + 12 + 24 * e) S2 69 [some (zr (some x)), some (zr (some m)), some (zi (nI i)), some (zi (nI r9)), some (zi (D 59 i)), some (zi (D 60 i)), some (zi (nI l.length)), some (zr (some a37)), some (zi (nI t)), some (zi (nI q)), none, none, none, none, none, none] [] := by
            intro q
            induction q with
            | zero =>
              intro e g1 S2 hqe hlo hhi hah hW
              refine z_iload C rfl dL_isList_69 ?_
              refine z_if_le 110 C dL_isList_71 (by decide) (fun c71 => ?_) (fun c71 => absurd (by decide) c71)
              refine z_aload C rfl dL_isList_110 ?_
              refine z_iload C rfl dL_isList_112 ?_
              refine z_iload C rfl dL_isList_114 ?_
              refine z_ast C hW rfl (by omega) dL_isList_116 ?_
              intro S116 hW
              refine z_inc (1) [_, _, _, _, _, _, _, _, _, _, _, _, _, _, _, _] C rfl (by decide) (by decide) rfl dL_isList_117 ?_
              refine z_inc (1) [_, _, _, _, _, _, _, _, _, _, _, _, _, _, _, _] C rfl (by decide) (by decide) rfl dL_isList_120 ?_
              refine z_goto 44 C dL_isList_123 (by decide) ?_
              refine zW.widen (k' := 1 + 98 * (t + 1)) (n' := 24 + 588 * (t + 1)) (by omega) (by omega) ?_
              obtain ⟨i1, i2, i3⟩ := ins_ok (t := t) (q := 0) hs (by omega) hah (Or.inl rfl) hne
              have z := ih (t + 1) (l.take 0 ++ t :: l.drop 0) _ _ (some (zi (nI 0))) (by omega) i1 (fun u => by
                  rw [i2 u, hm u]
                  constructor
                  · rintro (z9 | rfl)
                    · exact ⟨by omega, z9.2⟩
                    · exact ⟨by omega, hpt, het⟩
                  · rintro ⟨z1, z2⟩
                    rcases Nat.lt_succ_iff_lt_or_eq.mp z1 with z3 | z3
                    · exact Or.inl ⟨z3, z2⟩
                    · exact Or.inr z3) (fun j hj => by
                  rw [i3] at hj
                  rw [getD_ins (by omega)]
                  by_cases c1 : j = 0
                  · subst c1; rw [up1_self, if_neg (Nat.lt_irrefl _), if_pos rfl]
                  · rw [up1_ne c1]
                    by_cases c2 : j < 0
                    · rw [if_pos c2]; exact hlo j c2
                    · rw [if_neg c2, if_neg c1]; exact hhi j (by omega) (by omega)) (by omega) hW
              rw [i3, nI_succ l.length, nI_succ t] at z
              exact z
            | succ q ihq =>
              intro e g1 S2 hqe hlo hhi hah hW
              refine z_iload C rfl dL_isList_69 ?_
              refine z_if_le 110 C dL_isList_71 (by decide) (fun c71 => absurd c71 (nI_nle (by omega) (by omega))) (fun c71 => ?_)
              refine z_aload_n C rfl dL_isList_74 ?_
              refine z_iload C rfl dL_isList_75 ?_
              refine z_iload C rfl dL_isList_77 ?_
              refine z_aload C rfl dL_isList_79 ?_
              refine z_iload C rfl dL_isList_81 ?_
              refine z_iconst 1 (by decide) C dL_isList_83 ?_
              refine z_isub C dL_isList_84 ?_
              refine z_int (nI_pred q) ?_
              refine z_ald C hW rfl (by omega) (hlo q (by omega)) dL_isList_85 ?_
              refine z_callL 4 [zr (some x), zi (D 59 i), zi (nI t), zi (nI (l.getD q 0))] C Nc Sc (L_isAhead hl0 hW.1.1 hby t (l.getD q 0) hpt ((hm _).mp (getD_mem (by omega))).2.1) rfl (zgoodS LWl_good wq233 wq234 wq4 wq235) rfl rfl rfl (by decide +kernel) rfl (by rw [hR]; exact ⟨Nat.le_of_ble_eq_true rfl, Nat.le_of_ble_eq_true rfl⟩) (by rw [hRc, hRs]; exact ⟨by omega, by omega⟩) (Nat.le_of_ble_eq_true rfl) dL_isList_86 (fun v86 S86 h86 => ?_) (fun E86 S86 h86 => ?_)
              · obtain ⟨rfl, hY, hkp⟩ := h86
                replace hW := hW.kp hY hkp
                refine z_if_eq 110 C dL_isList_89 (by decide) (fun c89 => ?_) (fun c89 => ?_)
                · refine z_aload C rfl dL_isList_110 ?_
                  refine z_iload C rfl dL_isList_112 ?_
                  refine z_iload C rfl dL_isList_114 ?_
                  refine z_ast C hW rfl (by omega) dL_isList_116 ?_
                  intro S116 hW
                  refine z_inc (1) [_, _, _, _, _, _, _, _, _, _, _, _, _, _, _, _] C rfl (by decide) (by decide) rfl dL_isList_117 ?_
                  refine z_inc (1) [_, _, _, _, _, _, _, _, _, _, _, _, _, _, _, _] C rfl (by decide) (by decide) rfl dL_isList_120 ?_
                  refine z_goto 44 C dL_isList_123 (by decide) ?_
                  refine zW.widen (k' := 1 + 98 * (t + 1)) (n' := 24 + 588 * (t + 1)) (by omega) (by omega) ?_
                  obtain ⟨i1, i2, i3⟩ := ins_ok (t := t) (q := (q + 1)) hs (by omega) hah (Or.inr (by rw [Nat.add_sub_cancel]; exact fun z => absurd (ltB_iff.mpr z) (by rw [bI_eq.mp c89]; decide))) hne
                  have z := ih (t + 1) (l.take (q + 1) ++ t :: l.drop (q + 1)) _ _ (some (zi (nI (q + 1)))) (by omega) i1 (fun u => by
                      rw [i2 u, hm u]
                      constructor
                      · rintro (z9 | rfl)
                        · exact ⟨by omega, z9.2⟩
                        · exact ⟨by omega, hpt, het⟩
                      · rintro ⟨z1, z2⟩
                        rcases Nat.lt_succ_iff_lt_or_eq.mp z1 with z3 | z3
                        · exact Or.inl ⟨z3, z2⟩
                        · exact Or.inr z3) (fun j hj => by
                      rw [i3] at hj
                      rw [getD_ins (by omega)]
                      by_cases c1 : j = (q + 1)
                      · subst c1; rw [up1_self, if_neg (Nat.lt_irrefl _), if_pos rfl]
                      · rw [up1_ne c1]
                        by_cases c2 : j < (q + 1)
                        · rw [if_pos c2]; exact hlo j c2
                        · rw [if_neg c2, if_neg c1]; exact hhi j (by omega) (by omega)) (by omega) hW
                  rw [i3, nI_succ l.length, nI_succ t] at z
                  exact z
                · refine z_aload C rfl dL_isList_92 ?_
                  refine z_iload C rfl dL_isList_94 ?_
                  refine z_aload C rfl dL_isList_96 ?_
                  refine z_iload C rfl dL_isList_98 ?_
                  refine z_iconst 1 (by decide) C dL_isList_100 ?_
                  refine z_isub C dL_isList_101 ?_
                  refine z_int (nI_pred q) ?_
                  refine z_ald C hW rfl (by omega) (hlo q (by omega)) dL_isList_102 ?_
                  refine z_ast C hW rfl (by omega) dL_isList_103 ?_
                  intro S103 hW
                  refine z_inc (-1) [_, _, _, _, _, _, _, _, _, _, _, _, _, _, _, _] C rfl (by decide) (by decide) rfl dL_isList_104 ?_
                  refine z_goto 69 C dL_isList_107 (by decide) ?_
                  refine zW.widen (k' := 1 + 98 * t + 2 + 4 * (e + 1)) (n' := 24 + 588 * t + 12 + 24 * (e + 1)) (by omega) (by omega) ?_
                  have z := ihq (e + 1) _ _ (by omega) (fun j hj => by rw [up1_ne (by omega)]; exact hlo j (by omega)) (fun j h1 h2 => by
                      by_cases c1 : j = q + 1
                      · subst c1; rw [up1_self, Nat.add_sub_cancel]
                      · rw [up1_ne c1]; exact hhi j (by omega) h2) (fun j h1 h2 => by
                      by_cases c1 : j = q
                      · subst c1; exact ltB_iff.mp (bI_ne.mp c89)
                      · exact hah j (by omega) h2) hW
                  rw [← pk_m1 q] at z
                  exact z
              · exact h86.elim
          refine z_iload C rfl dL_isList_65 ?_
          refine z_istore [_, _, _, _, _, _, _, _, _, _, _, _, _, _, _, _] C (by decide) rfl dL_isList_67 ?_
          refine zW.widen (k' := 1 + 98 * t + 2 + 4 * 0) (n' := 24 + 588 * t + 12 + 24 * 0) (by omega) (by omega) ?_
          exact W l.length 0 g _ (by omega) hg (fun j h1 h2 => by omega) (fun j h1 h2 => by omega) hW
      · exact h58.elim
  refine z_iconst 0 (by decide) C dL_isList_41 ?_
  refine z_istore [_, _, _, _, _, _, _, _, _, _, _, _, _, _, _, _] C (by decide) rfl dL_isList_42 ?_
  refine zW.widen (k' := 1 + 98 * 0) (n' := 24 + 588 * 0) (by omega) (by omega) ?_
  exact L1 (dT D) 0 [] _ _ none (by omega) List.Pairwise.nil (fun u => ⟨fun q => absurd q List.not_mem_nil, fun q => absurd q.1 (by omega)⟩) (fun j hj => absurd hj (by simp)) (by simp) hW
