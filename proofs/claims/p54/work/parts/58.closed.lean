/-! the lists behind a rule: after eight rounds there are no more -/
theorem wlI_inv {f : Nat → Option Int32} {rk : Nat → Nat} (hE : ∀ (x : Nat) (b : Int32) (y : Nat), x < 8 → f x = some b → y < 32 → hasB b (nI y) = true → rk y < rk x) {s0 : Int32} {j : Nat} (hQ : ∀ (x : Nat) (b : Int32) (y : Nat), x < 8 → f x = some b → hasB s0 (nI x) = true → 7 < rk x + j → y < 32 → hasB b (nI y) = true → hasB s0 (nI y) = true) :
    ∀ i : Nat, i ≤ 8 → (∀ x : Nat, x < 32 → hasB s0 (nI x) = true → hasB (wlI f i s0) (nI x) = true) ∧ (∀ x : Nat, x < 32 → hasB (wlI f i s0) (nI x) = true → hasB s0 (nI x) = false → rk x + j + 1 ≤ 7) ∧ ∀ (x : Nat) (b : Int32) (y : Nat), x < i → f x = some b → hasB s0 (nI x) = true → y < 32 → hasB b (nI y) = true → hasB (wlI f i s0) (nI y) = true := by
  intro i
  induction i with
  | zero => exact fun _ => ⟨fun x _ h => h, fun x _ h h2 => (by have h : hasB s0 (nI x) = true := h; rw [h2] at h; cases h), fun x _ _ h => absurd h (Nat.not_lt_zero x)⟩
  | succ i ih =>
    intro hi
    obtain ⟨a1, a2, a3⟩ := ih (by omega)
    cases hf : f i with
    | none =>
      rw [wlI_none hf]
      refine ⟨a1, a2, fun x b y hx hb => ?_⟩
      by_cases e : x = i
      · rw [e, hf] at hb; cases hb
      · exact a3 x b y (by omega) hb
    | some c =>
      cases hw : hasB (wlI f i s0) (nI i) with
      | false =>
        rw [wlI_no hf hw]
        refine ⟨a1, a2, fun x b y hx hb h0 => ?_⟩
        by_cases e : x = i
        · rw [e] at h0; rw [a1 i (by omega) h0] at hw; cases hw
        · exact a3 x b y (by omega) hb h0
      | true =>
        rw [wlI_yes hf hw]
        refine ⟨fun x hx h0 => by rw [hasB_or hx, a1 x hx h0]; rfl, fun x hx h h0 => ?_, fun x b y hx hb h0 hy hby => ?_⟩
        · rw [hasB_or hx, Bool.or_eq_true] at h
          rcases h with h | h
          · exact a2 x hx h h0
          · have hlt := hE i c x (by omega) hf hx h
            cases h00 : hasB s0 (nI i) with
            | true =>
              rcases Nat.lt_or_ge 7 (rk i + j) with q | q
              · rw [hQ i c x (by omega) hf h00 q hx h] at h0; cases h0
              · omega
            | false =>
              have := a2 i (by omega) hw h00
              omega
        · rw [hasB_or hy]
          by_cases e : x = i
          · subst e
            rw [hf] at hb
            cases hb
            rw [hby, Bool.or_true]
          · rw [a3 x b y (by omega) hb h0 hy hby]; rfl
theorem wlO_closed {f : Nat → Option Int32} {rk : Nat → Nat} (h8 : ∀ (x : Nat) (b : Int32), x < 8 → f x = some b → rk x < 8) (hE : ∀ (x : Nat) (b : Int32) (y : Nat), x < 8 → f x = some b → y < 32 → hasB b (nI y) = true → rk y < rk x) (s : Int32) :
    ∀ (j x : Nat) (b : Int32) (y : Nat), x < 8 → f x = some b → hasB (wlO f j s) (nI x) = true → 7 < rk x + j → y < 32 → hasB b (nI y) = true → hasB (wlO f j s) (nI y) = true := by
  intro j
  induction j with
  | zero => intro x b y hx hb _ h; have := h8 x b hx hb; omega
  | succ j ih =>
    intro x b y hx hb h hr hy hby
    obtain ⟨a1, a2, a3⟩ := wlI_inv hE (s0 := wlO f j s) (j := j) (fun x b y k1 k2 k3 k4 k5 k6 => ih x b y k1 k2 k3 k4 k5 k6) 8 (Nat.le_refl 8)
    cases h0 : hasB (wlO f j s) (nI x) with
    | true => exact a3 x b y hx hb h0 hy hby
    | false =>
      have := a2 x (by omega) h h0
      omega
/-- what was there stays there -/
theorem wlO_in {f : Nat → Option Int32} {s : Int32} {x : Nat} (hx : x < 32) (h : hasB s (nI x) = true) : ∀ j : Nat, hasB (wlO f j s) (nI x) = true := by
  have inner : ∀ (i : Nat) (t : Int32), hasB t (nI x) = true → hasB (wlI f i t) (nI x) = true := by
    intro i
    induction i with
    | zero => intro t h; exact h
    | succ i ih =>
      intro t h
      cases hf : f i with
      | none => rw [wlI_none hf]; exact ih t h
      | some c =>
        cases hw : hasB (wlI f i t) (nI i) with
        | false => rw [wlI_no hf hw]; exact ih t h
        | true => rw [wlI_yes hf hw, hasB_or hx, ih t h]; rfl
  intro j
  induction j with
  | zero => exact h
  | succ j ih => exact inner 8 _ ih
