/-! the class: addTag -/
theorem cS.kn {S : ZM} {L : Nat → Nat} (h : cS S L) {j : Nat} (hj : j < 16) : zkn (mK S (L j)) = true := by
  rcases (show j = 0 ∨ j = 1 ∨ j = 2 ∨ j = 3 ∨ j = 4 ∨ j = 5 ∨ j = 6 ∨ j = 7 ∨ j = 8 ∨ 9 ≤ j by omega) with rfl | rfl | rfl | rfl | rfl | rfl | rfl | rfl | rfl | q
  · exact zk h.c rfl
  · exact zk h.t.2.1 rfl
  · exact zk h.g.2.1 rfl
  · exact zk h.r.2.1 rfl
  · exact zk h.l.2.1 rfl
  · exact zk h.kp.2.1 rfl
  · exact zk h.ka.2.1 rfl
  · exact zk h.br.2.1 rfl
  · exact zk h.dt.2.1 rfl
  · obtain ⟨i, rfl⟩ : ∃ i : Nat, j = 9 + i := ⟨j - 9, by omega⟩
    exact zk (h.dr i (by omega)).2.1 rfl
theorem tgS_f {S : ZM} {a nm ah : Nat} {num : Int32} (h1 : a ≠ nm) (h2 : a ≠ ah) (h3 : ah ≠ nm) (hk : mK S a = 4) :
    (mK (tgS S a nm ah num) a = 4 ∧ mI (tgS S a nm ah num) 10 a = num ∧ mQ (tgS S a nm ah num) 11 a = some nm ∧ mK (tgS S a nm ah num) nm = 11 ∧ mN (tgS S a nm ah num) nm = 6) ∧ mI (tgS S a nm ah num) 12 a = 0 ∧ mQ (tgS S a nm ah num) 13 a = none ∧ mQ (tgS S a nm ah num) 14 a = some ah ∧ mK (tgS S a nm ah num) ah = 10 ∧ mN (tgS S a nm ah num) ah = 24 := by
  have K : mK (tgS S a nm ah num) = up1 (up1 S.1 nm 11) ah 10 := rfl
  have N : mN (tgS S a nm ah num) = up1 (up1 S.2.2.2.2.1 nm 6) ah 24 := rfl
  have Q : mQ (tgS S a nm ah num) = up2 (up2 (up2 (up2 S.2.2.1 11 a (some nm)) 13 a none) 14 a (some ah)) 15 a none := rfl
  have I : mI (tgS S a nm ah num) = up2 (up2 S.2.1 12 a 0) 10 a num := rfl
  refine ⟨⟨?_, ?_, ?_, ?_, ?_⟩, ?_, ?_, ?_, ?_, ?_⟩
  · rw [K, up1_ne h2, up1_ne h1]; exact hk
  · rw [I, up2_self]
  · rw [Q, up2_k (by decide), up2_k (by decide), up2_k (by decide), up2_self]
  · rw [K, up1_ne h3.symm, up1_self]
  · rw [N, up1_ne h3.symm, up1_self]
  · rw [I, up2_k (by decide), up2_self]
  · rw [Q, up2_k (by decide), up2_k (by decide), up2_self]
  · rw [Q, up2_k (by decide), up2_self]
  · rw [K, up1_self]
  · rw [N, up1_self]

set_option maxRecDepth 100000 in
set_option maxHeartbeats 4000000 in
theorem C_addTag {l : Launch} (hl0 : l.stackTraces = false) {D : ZD} {J : Nat → Int64} {lk : ZL} {as : Nat → Nat} {S : ZM} {L T : Nat → Nat} (hR1 : cR D J lk as S L T) : zMet l yX4_addTag (Cond.code yX4_addTag cX4_addTag 2 (some .int) :: LWc) ({ frames := 6, cells := 4, slots := 42, locals := 86 } : Room) 4 42 [zr (some (L 0))] S (zPo (fun v S' => dG D < 16 ∧ v = some (zi (nI (dG D))) ∧ ∃ T1 : Nat → Nat, cR (opTag D) J lk as S' L T1) (fun E S' => S' = S ∧ ¬ D 48 0 < 16 ∧ E = "java/lang/IllegalStateException")) := by
  refine zMet.of' [some (zr (some (L 0))), none] hl0 (by decide) rfl (Nat.le_of_ble_eq_true rfl) rfl ?_
  intro X C N hR hN0 hX F
  subst hX
  obtain ⟨hX0, hV, hK, hU, hQ, hF⟩ := id hR1
  obtain ⟨hS, hT, hG, hRR, hLL, hA, hday, hpl, hO, hAc⟩ := id hX0
  have hRk : mK S (L 0) = 6 := hS.c
  have c48 : D 48 0 = nI (dG D) := hA.1.2.1.1
  have h16 : dG D ≤ 16 := hA.1.2.1.2
  refine z_aload_n C rfl dX4_addTag_0 ?_
  refine zg4_tagCount C (fun w h => List.mem_cons_of_mem _ (uc_wsX40 w h)) hRk (List.mem_cons_of_mem _ wc41) dX4_addTag_1 ?_
  refine z_int (x' := nI (dG D)) (hV.2.2.1.trans c48) ?_
  refine z_istore_n [_, _] C (by decide) rfl dX4_addTag_4 ?_
  refine z_iload_n C rfl dX4_addTag_5 ?_
  refine z_bipush 16 (by decide) C dX4_addTag_6 ?_
  refine z_icmp_lt 21 C dX4_addTag_8 (by decide) (fun c8 => ?_) (fun c8 => ?_)
  · have hlt : dG D < 16 := (nI_ltI (b := 16) (by omega) (by decide)).1 c8
    refine z_aload_n C rfl dX4_addTag_21 ?_
    refine zg4_allTags C (fun w h => List.mem_cons_of_mem _ (uc_wsX40 w h)) hRk (List.mem_cons_of_mem _ wc34) dX4_addTag_22 ?_
    refine z_ref hS.g.1 ?_
    refine z_iload_n C rfl dX4_addTag_25 ?_
    refine z_new2 C (fun w h => List.mem_cons_of_mem _ (uc_wsX20 w h)) (List.mem_cons_of_mem _ wc33) (List.mem_cons_of_mem _ wc161) (List.mem_cons_of_mem _ wc162) (by rw [hR]; exact Nat.le_of_ble_eq_true rfl) (by rw [hR]; exact Nat.le_of_ble_eq_true rfl) dX4_addTag_26 (fun a26 f26 => ?_)
    have e0 : ext S (nO S a26 4) := (ext.refl S).nO f26 4
    refine z_dup rfl C dX4_addTag_29 ?_
    refine z_iload_n C rfl dX4_addTag_30 ?_
    refine z_callI 1 [zi (nI (dG D))] C (C_X2_init hl0 (S := nO S a26 4) (a := a26) up1_self (nI (dG D))) rfl (zgoodI LWc_good wc165) rfl rfl rfl (List.mem_cons_of_mem _ wc162) (List.mem_cons_of_mem _ wc163) (List.mem_cons_of_mem _ wc164) rfl (by decide +kernel) rfl (by rw [hR]; exact ⟨Nat.le_of_ble_eq_true rfl, Nat.le_of_ble_eq_true rfl⟩) (by rw [hR]; exact ⟨Nat.le_of_ble_eq_true rfl, Nat.le_of_ble_eq_true rfl⟩) (Nat.le_of_ble_eq_true rfl) dX4_addTag_31 (fun v31 S31 h31 => ?_) (fun E31 S31 h31 => ?_)
    · obtain ⟨rfl, nm, ah, g1, g2, g3, q31⟩ := h31
      have nf : ∀ x : Nat, zkn (mK (nO S a26 4) x) = false → a26 ≠ x ∧ zkn (mK S x) = false := fun x hx => by
        have f : zkn (up1 S.1 a26 4 x) = false := hx
        by_cases e : x = a26
        · subst e; rw [up1_self] at f; cases f
        · rw [up1_ne e] at f; exact ⟨Ne.symm e, f⟩
      obtain ⟨m1, m2⟩ := nf nm g1
      obtain ⟨m3, m4⟩ := nf ah g2
      have e1 : ext S S31 := by rw [q31]; exact (((((((e0.nA m2 11 6).sQ f26 _).sI f26 _).sQ f26 _).nA m4 10 24).sQ f26 _).sQ f26 _).sI f26 _
      have hRx := hR1.ext e1
      have hRk : mK S31 (L 0) = 6 := hRx.1.1.c
      obtain ⟨⟨kx, t10, t11, kn, ln⟩, t12, t13, t14, kh, lh⟩ := tgS_f (S := nO S a26 4) (num := nI (dG D)) m1 m3 g3 up1_self
      rw [← q31] at kx t10 t11 kn ln t12 t13 t14 kh lh
      have et : tQ S31 (L 2) = tQ S (L 2) := (e1 _ (zk hS.g.2.1 rfl)).2.2.2.2
      have w1 : ∀ j : Nat, j < 16 → ah ≠ L j := fun j hj q => by
        have := hS.kn hj
        rw [← q, m4] at this; cases this
      have w2 : ∀ i : Nat, i < dG D → ah ≠ T i := fun i hi q => by
        obtain ⟨b, nb, eb, -⟩ := hG.2 i hi
        have := zk (hU.1 i b hi eb).2.1 rfl
        rw [← q, m4] at this; cases this
      have w3 : ∀ i b : Nat, i < 16 → tQ S31 (L 2) i = some b → mQ S31 11 b ≠ some nm := fun i b hi hb q => by
        rw [et] at hb
        have hid : i < dG D := by
          rcases Nat.lt_or_ge i (dG D) with z | z
          · exact z
          · rw [hG.1 i hi z] at hb; cases hb
        obtain ⟨b2, nb, eb, k1, -, k3, k4, -⟩ := hG.2 i hid
        have : b2 = b := by rw [eb] at hb; exact Option.some.inj hb
        subst this
        rw [((e1 b2 (zk k1 rfl)).2.2.1 11).2.1, k3] at q
        have e2 : nb = nm := Option.some.inj q
        have := zk k4 rfl
        rw [e2, m2] at this; cases this
      refine z_aastore_2 C hRx.1.1.g.2.1 (fun v hv => by cases hv; exact kx) (by rw [hRx.1.1.g.2.2]; exact vp_in_nI hlt (by decide)) dX4_addTag_34 ?_
      refine z_mem (S' := eQ S31 (L 2) (dG D) (some a26)) (by rw [nI_clamp (by omega)]) ?_
      refine z_aload_n C rfl dX4_addTag_35 ?_
      refine z_dup rfl C dX4_addTag_36 ?_
      refine zg4_tagCount C (fun w h => List.mem_cons_of_mem _ (uc_wsX40 w h)) hRk (List.mem_cons_of_mem _ wc41) dX4_addTag_37 ?_
      refine z_int (x' := D 48 0) hRx.2.1.2.2.1 ?_
      refine z_iconst 1 (by decide) C dX4_addTag_40 ?_
      refine z_iadd C dX4_addTag_41 ?_
      refine zp4_tagCount C (fun w h => List.mem_cons_of_mem _ (uc_wsX40 w h)) hRk (List.mem_cons_of_mem _ wc41) dX4_addTag_42 ?_
      refine z_iload_n C rfl dX4_addTag_45 ?_
      refine z_ireturn C F (Nat.le_of_ble_eq_true rfl) (Nat.le_of_ble_eq_true rfl) dX4_addTag_46 ?_
      exact ⟨hlt, rfl, _, hRx.addTag hlt kx t10 t11 kn ln t12 t13 t14 kh lh w1 w2 w3⟩
    · exact h31.elim
  · refine z_throwS (text := "no more tags can be added") ["java/lang/RuntimeException", "java/lang/Exception"] C F N (by decide +kernel) (by decide +kernel) (List.mem_cons_of_mem _ wc141) (List.mem_cons_of_mem _ wc142) (by decide +kernel) (fun w h => List.mem_cons_of_mem _ (ac_1 w h)) bc_1 (by decide) (by decide +kernel) dX4_addTag_11 dX4_addTag_14 dX4_addTag_15 dX4_addTag_17 dX4_addTag_20 (by rw [hR]; exact Nat.le_of_ble_eq_true rfl) (by rw [hR]; exact Nat.le_of_ble_eq_true rfl) (by rw [hR]; exact Nat.le_of_ble_eq_true rfl) (by rw [hR]; exact Nat.le_of_ble_eq_true rfl) (Nat.le_of_ble_eq_true rfl) (Nat.le_of_ble_eq_true rfl) ?_
    exact ⟨rfl, fun q => c8 (by rw [c48] at q; exact q), rfl⟩
