/-! the law's head -/
theorem ini_off {S : ZM} {a : Nat} (f0 : zkn (mK S a) = false) : ini (rsOff (fun b => zkn (mK S b)) (nO S a 6)) (fun _ => a) 1 := by
  refine ⟨?_, fun k => if_pos rfl, fun k => if_pos rfl, if_pos rfl, fun i h1 h2 => absurd h1 (by omega), fun i j h1 h2 _ => by omega⟩
  show (bif zkn (mK S a) then 0 else up1 S.1 a 6 a) = 6
  rw [f0, up1_self]; rfl
theorem mka_42 {k : Nat} (h : mka k = true) : 42 ≤ k := by
  unfold mka at h
  simp only [Bool.or_eq_true, Bool.and_eq_true, Nat.ble_eq] at h
  omega
theorem imm_off {S : ZM} {M : Nat} {r0 : Nat → Nat} (f1 : zkn (mK S M) = false) : imm (rsOff (fun b => zkn (mK S b)) (nO S M 7)) M r0 42 := by
  refine ⟨?_, fun k => if_pos rfl, fun k h1 h2 => absurd (mka_42 h1) (by omega), fun k k' h1 h2 h3 h4 => absurd (mka_42 h1) (by omega)⟩
  show (bif zkn (mK S M) then 0 else up1 S.1 M 7 M) = 7
  rw [f1, up1_self]; rfl
theorem atE.trans {S S1 S2 : ZM} {b : Nat} (h : atE S S1 b) (h' : atE S1 S2 b) : atE S S2 b := by
  obtain ⟨a1, a2, a3, a4, a5, a6, a7⟩ := h
  obtain ⟨b1, b2, b3, b4, b5, b6, b7⟩ := h'
  exact ⟨b1.trans a1, b2.trans a2, fun k => ⟨(b3 k).1.trans (a3 k).1, (b3 k).2.1.trans (a3 k).2.1, (b3 k).2.2.trans (a3 k).2.2⟩, b4.trans a4, b5.trans a5, b6.trans a6, b7.trans a7⟩
theorem atE_nO {S : ZM} {a κ b : Nat} (h : b ≠ a) : atE S (nO S a κ) b := ⟨if_neg h, rfl, fun k => ⟨if_neg h, if_neg h, if_neg h⟩, rfl, rfl, rfl, rfl⟩
theorem atE_nA {S : ZM} {a κ n b : Nat} (h : b ≠ a) : atE S (nA S a κ n) b := ⟨if_neg h, if_neg h, fun k => ⟨rfl, rfl, rfl⟩, if_neg h, if_neg h, if_neg h, if_neg h⟩
theorem atE.kn {S S1 : ZM} {b : Nat} (h : atE S S1 b) (hb : zkn (mK S b) = true) : zkn (mK S1 b) = true := by rw [h.1]; exact hb
theorem head_all {S S1 S2 Sc Sm : ZM} {s a M o1 o2 N : Nat} {V : Nat → Int32} {L r : Nat → Nat} (f0 : zkn (mK S a) = false) (hS1 : S1 = mrg (fun b => zkn (mK S b)) (nO S a 6) Sc) (hof1 : ∀ b : Nat, zkn (mK Sc b) = true → zkn (mK S b) = false) (hz : zro Sc L) (f1 : zkn (mK S1 M) = false) (hS2 : S2 = mrg (fun b => zkn (mK S1 b)) (nO S1 M 7) Sm) (hof2 : ∀ b : Nat, zkn (mK Sm b) = true → zkn (mK S1 b) = false) (hm : mR D0 J0 Sm M r) (f2 : zkn (mK S2 o1) = false) (f3 : zkn (mK (nA S2 o1 13 1) o2) = false) : ∃ F G : Nat → Bool, LF F G s o1 o2 M r ∧ LI D0 J0 [] (fun _ => 0) (rsOff F (nA (nA S2 o1 13 1) o2 14 1)) L (fun _ => 0) ∧ iM D0 J0 (nA (nA S2 o1 13 1) o2 14 1) M r ∧ LA F s o1 o2 V N (nA (nA S2 o1 13 1) o2 14 1) := by
  classical
  have B1 : ∀ b : Nat, zkn (mK S b) = true → atE S S1 b := fun b hb => (atE_nO (zkn_ne f0 hb)).trans (by rw [hS1]; exact mrg_in hb)
  have C1 : ∀ b : Nat, zkn (mK Sc b) = true → atE Sc S1 b := fun b hb => by rw [hS1]; exact mrg_out (hof1 b hb)
  have B2 : ∀ b : Nat, zkn (mK S1 b) = true → atE S1 S2 b := fun b hb => (atE_nO (zkn_ne f1 hb)).trans (by rw [hS2]; exact mrg_in hb)
  have C2 : ∀ b : Nat, zkn (mK Sm b) = true → atE Sm S2 b := fun b hb => by rw [hS2]; exact mrg_out (hof2 b hb)
  have B3a : ∀ b : Nat, zkn (mK S2 b) = true → atE S2 (nA S2 o1 13 1) b := fun b hb => atE_nA (zkn_ne f2 hb)
  have B3 : ∀ b : Nat, zkn (mK S2 b) = true → atE S2 (nA (nA S2 o1 13 1) o2 14 1) b := fun b hb => (B3a b hb).trans (atE_nA (zkn_ne f3 ((B3a b hb).kn hb)))
  have kM : zkn (mK Sm M) = true := by rw [hm.1]; rfl
  have kr : ∀ k : Nat, mka k = true → zkn (mK Sm (r k)) = true := fun k hk => by rw [(hm.2.2.1 k hk).2.1]; exact mkκ_known k hk
  have k5 : ∀ b : Nat, zkn (mK S2 b) = true → b ≠ o1 ∧ b ≠ o2 := fun b hb => ⟨zkn_ne f2 hb, zkn_ne f3 ((B3a b hb).kn hb)⟩
  have ko1 : mK (nA S2 o1 13 1) o1 = 13 := up1_self
  have n12 : o1 ≠ o2 := zkn_ne f3 (by rw [ko1]; rfl)
  obtain ⟨Q, hQ⟩ : ∃ Q : Nat → Prop, Q = fun b => b = M ∨ ∃ k : Nat, mka k = true ∧ b = r k := ⟨_, rfl⟩
  have Qk : ∀ b : Nat, Q b → zkn (mK Sm b) = true := fun b h => by
    rw [hQ] at h
    rcases h with rfl | ⟨k, hk, rfl⟩
    · exact kM
    · exact kr k hk
  have QM : Q M := by rw [hQ]; exact Or.inl rfl
  have Qr : ∀ k : Nat, mka k = true → Q (r k) := fun k hk => by rw [hQ]; exact Or.inr ⟨k, hk, rfl⟩
  have Q1 : ∀ b : Nat, zkn (mK S1 b) = true → ¬ Q b := fun b hb q => by have := hof2 b (Qk b q); rw [hb] at this; cases this
  have Q2 : ∀ b : Nat, Q b → zkn (mK S2 b) = true := fun b q => (C2 b (Qk b q)).kn (Qk b q)
  have Qo : ∀ b : Nat, zkn (mK S2 b) = false → ¬ Q b := fun b hb q => by rw [Q2 b q] at hb; cases hb
  have Qo1 : ¬ Q o1 := Qo o1 f2
  have Qo2 : ¬ Q o2 := fun q => (k5 o2 (Q2 o2 q)).2 rfl
  have hm5 : mR D0 J0 (nA (nA S2 o1 13 1) o2 14 1) M r := hm.same ((C2 M kM).trans (B3 M ((C2 M kM).kn kM))) (fun k hk => (C2 _ (kr k hk)).trans (B3 _ ((C2 _ (kr k hk)).kn (kr k hk))))
  refine ⟨fun b => decide (b = o1 ∨ b = o2 ∨ Q b), fun b => decide (¬ Q b), ⟨⟨trivial, decide_eq_true (Or.inl rfl), decide_eq_true (Or.inr (Or.inl rfl)), decide_eq_true (Or.inr (Or.inr QM)), fun k hk => decide_eq_true (Or.inr (Or.inr (Qr k hk)))⟩, decide_eq_false (fun h => h QM), fun k hk => decide_eq_false (fun h => h (Qr k hk)), trivial, decide_eq_true Qo1, decide_eq_true Qo2, fun b hb => decide_eq_true (fun q => of_decide_eq_false hb (Or.inr (Or.inr q))), fun b _ hg => ?_⟩, ⟨(cR.zero hz (fun _ => 0)).ext (fun b hb => ?_), wfZ.zero, wfM.zero, rfl⟩, ?_, ⟨trivial, ⟨?_, ?_⟩, ⟨up1_self, up1_self⟩, fun b hb => ?_⟩⟩
  · have := Classical.not_not.mp (of_decide_eq_false hg)
    rw [hQ] at this
    exact this
  · have k1 := (C1 b hb).kn hb
    have k2 := (B2 b k1).kn k1
    have hf : decide (b = o1 ∨ b = o2 ∨ Q b) = false := decide_eq_false (by
      rintro (e | e | q)
      · exact (k5 b k2).1 e
      · exact (k5 b k2).2 e
      · exact Q1 b k1 q)
    obtain ⟨a1, a2, a3, a4, a5, a6, a7⟩ := (((C1 b hb).trans (B2 b k1)).trans (B3 b k2)).trans (rsOff_out (F := fun b => decide (b = o1 ∨ b = o2 ∨ Q b)) hf)
    exact ⟨a1, a2, a3, a4, a5⟩
  · refine ⟨0, ?_⟩
    have e : s39 D0 0 = D0 := by
      funext k i
      show (if k = 39 then up1 (D0 39) 0 0 else D0 k) i = 0
      by_cases hk : k = 39
      · rw [if_pos hk]
        show (if i = 0 then (0 : Int32) else 0) = 0
        split <;> rfl
      · rw [if_neg hk]; rfl
    rw [e]; exact hm5
  · exact (atE_nA n12).1.trans ko1
  · exact (atE_nA n12).2.1.trans up1_self
  · rcases of_decide_eq_true hb with e | e | q
    · subst e; rw [(atE_nA n12).1, ko1]; rfl
    · subst e; rw [show mK (nA (nA S2 o1 13 1) b 14 1) b = 14 from up1_self]; rfl
    · exact (B3 b (Q2 b q)).kn (Q2 b q)
set_option maxRecDepth 100000 in
set_option maxHeartbeats 4000000 in
theorem law_head {X : zX} (hl0 : (xl X).stackTraces = false) {s : Nat} {V : Nat → Int32} {N : Nat} {S : ZM} (C : zC X RL cL_law 9 LWl) (Nc : zNc (xs X)) (hR : xR X = room_1) (hXs : LX X s N V) (hN : N ≤ 2048) (hE : ∀ (k n : Nat) (S : ZM) (ls : List (Option ZV)), k ≤ 60000 → n ≤ 600000 → zW X 9 k n S 3260 ls []) : zW X 9 0 0 S 0 [some (zr (some s)), none, none, none, none, none, none, none, none] [] := by
  refine z_new4 C (fun w h => ul_c (uc_wsX40 w h)) wq194 wq195 (ul_c wc58) (by rw [hR]; exact Nat.le_of_ble_eq_true rfl) (by rw [hR]; exact Nat.le_of_ble_eq_true rfl) dL_law_0 (fun a f0 => ?_)
  refine z_dup rfl C dL_law_3 ?_
  refine z_callI 0 [] C ((C_X4_init hl0 (ini_off f0)).off (fun b => zkn (mK S b))) rfl (zgoodI3 LWl_good (fun w h => ul_c h) wq201) rfl rfl rfl (ul_c wc58) wq199 wq200 rfl (by decide +kernel) rfl (by rw [hR]; exact ⟨Nat.le_of_ble_eq_true rfl, Nat.le_of_ble_eq_true rfl⟩) (by rw [hR]; exact ⟨Nat.le_of_ble_eq_true rfl, Nat.le_of_ble_eq_true rfl⟩) (Nat.le_of_ble_eq_true rfl) dL_law_4 (fun v1 S1 h1 => ?_) (fun E1 S1 h1 => ?_)
  · obtain ⟨Sc, ⟨rfl, L, hL0, hz⟩, hS1, hof1⟩ := h1
    have hof1 := hof1 (fun b hb => by rw [show mK (nO S a 6) b = mK S b from if_neg (fun e => by subst e; rw [f0] at hb; cases hb)]; exact hb)
    refine z_astore_n [_, _, _, _, _, _, _, _, _] C (by decide) rfl dL_law_7 ?_
    refine z_new5 C (fun w h => ul_m (um_wsX50 w h)) wq196 wq197 (ul_m wm37) (by rw [hR]; exact Nat.le_of_ble_eq_true rfl) (by rw [hR]; exact Nat.le_of_ble_eq_true rfl) dL_law_8 (fun M f1 => ?_)
    refine z_dup rfl C dL_law_11 ?_
    refine z_callI 0 [] C ((M_init hl0 (r0 := fun _ => 0) (imm_off f1)).off (fun b => zkn (mK S1 b))) rfl (zgoodI3 LWl_good (fun w h => ul_m h) wq204) rfl rfl rfl (ul_m wm37) wq202 wq203 rfl (by decide +kernel) rfl (by rw [hR]; exact ⟨Nat.le_of_ble_eq_true rfl, Nat.le_of_ble_eq_true rfl⟩) (by rw [hR]; exact ⟨Nat.le_of_ble_eq_true rfl, Nat.le_of_ble_eq_true rfl⟩) (Nat.le_of_ble_eq_true rfl) dL_law_12 (fun v2 S2 h2 => ?_) (fun E2 S2 h2 => ?_)
    · obtain ⟨Sm, ⟨rfl, r, hm⟩, hS2, hof2⟩ := h2
      have hof2 := hof2 (fun b hb => by rw [show mK (nO S1 M 7) b = mK S1 b from if_neg (fun e => by subst e; rw [f1] at hb; cases hb)]; exact hb)
      refine z_astore_n [_, _, _, _, _, _, _, _, _] C (by decide) rfl dL_law_15 ?_
      refine z_iconst 1 (by decide) C dL_law_16 ?_
      refine z_newarr_long 1 C (ul_m wm30) (by decide) rfl (by decide) (by rw [hR]; exact Nat.le_of_ble_eq_true rfl) (by rw [hR]; exact Nat.le_of_ble_eq_true rfl) dL_law_17 (fun o1 f2 => ?_)
      refine z_astore_n [_, _, _, _, _, _, _, _, _] C (by decide) rfl dL_law_19 ?_
      refine z_iconst 1 (by decide) C dL_law_20 ?_
      refine z_newarr_double 1 C wq198 (by decide) rfl (by decide) (by rw [hR]; exact Nat.le_of_ble_eq_true rfl) (by rw [hR]; exact Nat.le_of_ble_eq_true rfl) dL_law_21 (fun o2 f3 => ?_)
      refine z_astore [_, _, _, _, _, _, _, _, _] C (by decide) rfl dL_law_23 ?_
      refine z_iconst 0 (by decide) C dL_law_25 ?_
      refine z_istore [_, _, _, _, _, _, _, _, _] C (by decide) rfl dL_law_26 ?_
      obtain ⟨F, G, hF, hI, hM, hA⟩ := head_all (s := s) (V := V) (N := N) f0 hS1 hof1 hz f1 hS2 hof2 hm f2 f3
      subst hL0
      exact law_loop hl0 C Nc hR hF hXs hN hE 512 0 _ _ _ D0 J0 [] (fun _ => 0) (fun _ => 0) none none none (by omega) (by decide) (by decide) (by decide) hI hM hA
    · obtain ⟨S0, hp, -⟩ := h2
      exact hp.elim
  · obtain ⟨S0, hp, -⟩ := h1
    exact hp.elim
