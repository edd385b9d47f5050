/-! a list's rule anew keeps the lists without rounds -/
theorem acD_set {D D1 : ZD} (h : acD D) (hR : wfR D) (hO : wfO D) (h8 : dL D ≤ 8) (h40 : dR D ≤ 40) (h53 : D1 53 = D 53) (h54 : D1 54 = D 54) (h55 : D1 55 = D 55) (hL : dL D1 = dL D) {i r : Nat} (hi : i < dL D) (hr : r < dR D) (hn : D1 58 i = nI r) (ho : ∀ x : Nat, x ≠ i → D1 58 x = D 58 x) (hB : hasB (wlO (lsO D) 8 (lsD D r)) (nI i) = false) : acD D1 := by
  obtain ⟨rk, h1, h2⟩ := h.norm
  have hlt : ∀ {x : Nat}, x < dL D → ix (D 58 x) < dR D := fun hx => by
    obtain ⟨q, hq, e⟩ := hO _ hx
    rw [e, ix, nI_clamp (by omega)]; exact hq
  have so : ∀ (x : Nat) (b : Int32), lsO D x = some b → x < dL D ∧ b = lsD D (ix (D 58 x)) := fun x b hb => by
    unfold lsO at hb
    by_cases e : x < dL D
    · rw [if_pos e] at hb; exact ⟨e, (Option.some.inj hb).symm⟩
    · rw [if_neg e] at hb; cases hb
  have hE : ∀ (x : Nat) (b : Int32) (y : Nat), x < 8 → lsO D x = some b → y < 32 → hasB b (nI y) = true → rk y < rk x := fun x b y _ hb hy hby => by
    obtain ⟨e1, rfl⟩ := so x b hb
    have hyd : y < dL D := lsR_8 hR h8 h40 41 _ (hlt e1) y hy hby
    exact (h2 x y e1 (by omega) hby).2
  have hC := wlO_closed (f := lsO D) (rk := rk) (fun x b _ hb => by have := h1 x (so x b hb).1; omega) hE (lsD D r) 8
  have key : ∃ rk2 : Nat → Nat, ∀ x y : Nat, x < dL D1 → y < 8 → hasB (lsD D1 (ix (D1 58 x))) (nI y) = true → y < dL D1 ∧ rk2 y < rk2 x := by
    refine ⟨fun x => if hasB (wlO (lsO D) 8 (lsD D r)) (nI x) = true then rk x else rk x + 8, fun x y hx hy hb => ?_⟩
    rw [hL] at hx ⊢
    rw [lsD_eq h53 h54 h55] at hb
    by_cases e : x = i
    · subst e
      rw [hn, ix, nI_clamp (by omega)] at hb
      have hyd : y < dL D := lsR_8 hR h8 h40 41 r hr y (by omega) hb
      have hyB := wlO_in (f := lsO D) (by omega) hb 8
      have := h1 y hyd
      refine ⟨hyd, ?_⟩
      show (if hasB (wlO (lsO D) 8 (lsD D r)) (nI y) = true then rk y else rk y + 8) < (if hasB (wlO (lsO D) 8 (lsD D r)) (nI x) = true then rk x else rk x + 8)
      rw [if_pos hyB, if_neg (by rw [hB]; decide)]
      omega
    · rw [ho x e] at hb
      obtain ⟨k1, k2⟩ := h2 x y hx hy hb
      refine ⟨k1, ?_⟩
      show (if hasB (wlO (lsO D) 8 (lsD D r)) (nI y) = true then rk y else rk y + 8) < (if hasB (wlO (lsO D) 8 (lsD D r)) (nI x) = true then rk x else rk x + 8)
      by_cases eB : hasB (wlO (lsO D) 8 (lsD D r)) (nI x) = true
      · have hyB := hC x _ y (by omega) (by unfold lsO; exact if_pos hx) eB (by omega) (by omega) hb
        rw [if_pos eB, if_pos hyB]; exact k2
      · rw [if_neg eB]
        split <;> omega
  obtain ⟨rk2, hk⟩ := key
  obtain ⟨rk3, m1, m2⟩ := rk_norm hk
  exact ⟨rk3, fun x hx => by have := m1 x hx; omega, m2⟩
