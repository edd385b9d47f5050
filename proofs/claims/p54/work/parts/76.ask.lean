/-! the law's world, and what its questions answer -/
/-- what F names is as it was -/
def kp (F : Nat → Bool) (S S' : ZM) : Prop := ∀ b : Nat, F b = true → atE S S' b
theorem kp.refl (F : Nat → Bool) (S : ZM) : kp F S S := fun _ _ => ⟨rfl, rfl, fun _ => ⟨rfl, rfl, rfl⟩, rfl, rfl, rfl, rfl⟩
theorem kp.trans {F : Nat → Bool} {S S1 S2 : ZM} (h : kp F S S1) (h' : kp F S1 S2) : kp F S S2 := fun b hb => (h b hb).trans (h' b hb)
/-- the library at x, off the cells that F names -/
def lY (D : ZD) (x : Nat) (F : Nat → Bool) (S : ZM) : Prop := lS D x (rsOff F S) ∧ ∀ b : Nat, F b = true → zkn (mK S b) = true
theorem lY.k {D : ZD} {x : Nat} {F : Nat → Bool} {S : ZM} (h : lY D x F S) : mK S x = 6 ∧ F x = false := by
  have := h.1.k
  cases hf : F x with
  | true => rw [rsOff_in hf] at this; cases this
  | false => rw [(rsOff_out hf).1] at this; exact ⟨this, rfl⟩
theorem lY.ok {D : ZD} {x : Nat} {F : Nat → Bool} {S : ZM} (h : lY D x F S) : okD D := h.1.ok
theorem lY.mrg {D D' : ZD} {x : Nat} {F : Nat → Bool} {S S1 : ZM} (h : lY D x F S) (h1 : lS D' x S1) (ho : (∀ b : Nat, F b = true → zkn (mK S b) = true) → ∀ b : Nat, zkn (mK S1 b) = true → F b = false) : lY D' x F (mrg F S S1) ∧ kp F S (mrg F S S1) := by
  refine ⟨⟨h1.ext (ext_mrg (ho h.2)), fun b hb => ?_⟩, fun b hb => mrg_in hb⟩
  rw [(mrg_in hb).1]
  exact h.2 b hb
/-- an answer, all else as it was -/
def AQ (D : ZD) (x : Nat) (F : Nat → Bool) (S : ZM) (z : Int32) : zP := zPo (fun v S' => v = some (zi z) ∧ lY D x F S' ∧ kp F S S') (fun _ _ => False)
/-- an answer and a library behind it -/
def DQ (R : Int32 → ZD → Prop) (x : Nat) (F : Nat → Bool) (S : ZM) : zP := zPo (fun v S' => ∃ (z : Int32) (D' : ZD), v = some (zi z) ∧ R z D' ∧ lY D' x F S' ∧ kp F S S') (fun _ _ => False)
theorem lY.ask {l : Launch} {sc : zSQ} {y : MethodName} {ws : List Cond} {rm : Room} {mc ms : Nat} {vs : List ZV} {D : ZD} {x : Nat} {F : Nat → Bool} {S : ZM} {z : Int32} (h : lY D x F S) (hc : zMetL l sc y ws rm mc ms vs (rsOff F S) (zPo (fun v S' => v = some (zi z) ∧ lS D x S') (fun _ _ => False))) : zMetL l sc y ws rm mc ms vs S (AQ D x F S z) := by
  refine (hc.off F).mono (fun o S' h9 => ?_)
  obtain ⟨S1, hp, rfl, hof⟩ := h9
  cases o with
  | inr E => exact hp.elim
  | inl v =>
    obtain ⟨rfl, hs⟩ := hp
    exact ⟨rfl, h.mrg hs hof⟩
theorem lY.deed {l : Launch} {sc : zSQ} {y : MethodName} {ws : List Cond} {rm : Room} {mc ms : Nat} {vs : List ZV} {D : ZD} {R : Int32 → ZD → Prop} {x : Nat} {F : Nat → Bool} {S : ZM} (h : lY D x F S) (hc : zMetL l sc y ws rm mc ms vs (rsOff F S) (zPo (fun v S' => ∃ (z : Int32) (D' : ZD), v = some (zi z) ∧ R z D' ∧ lS D' x S') (fun _ _ => False))) : zMetL l sc y ws rm mc ms vs S (DQ R x F S) := by
  refine (hc.off F).mono (fun o S' h9 => ?_)
  obtain ⟨S1, hp, rfl, hof⟩ := h9
  cases o with
  | inr E => exact hp.elim
  | inl v =>
    obtain ⟨z, D', rfl, hr, hs⟩ := hp
    exact ⟨z, D', rfl, hr, h.mrg hs hof⟩
theorem zi_inj {a b : Int32} (h : (some (zi a) : Option ZV) = some (zi b)) : b = a := (Sum.inl.inj (Option.some.inj h)).symm
theorem hasTr_iff {D : ZD} (h : okD D) {t : Nat} (ht : t < 2 ^ 31) : hasTr D (nI t) ↔ prD D t = true := by
  constructor
  · rintro ⟨u, hu, e, hp⟩
    obtain rfl := (nI_eq ht (by omega)).1 e
    exact hp
  · intro hp
    exact ⟨t, h.pr hp, rfl, hp⟩
theorem hasRl_iff {D : ZD} (h : okD D) {r : Nat} (hr : r < 2 ^ 31) : hasRl D (nI r) ↔ r < dR D := by
  constructor
  · rintro ⟨u, hu, h2, e⟩
    obtain rfl := (nI_eq hr (by omega)).1 e
    exact h2
  · intro hp
    exact ⟨r, Nat.lt_of_lt_of_le hp h.r, hp, rfl⟩
theorem hasLs_iff {D : ZD} (h : okD D) {i : Nat} (hi : i < 2 ^ 31) : hasLs D (nI i) ↔ i < dL D := by
  constructor
  · rintro ⟨u, hu, h2, e⟩
    obtain rfl := (nI_eq hi (by omega)).1 e
    exact h2
  · intro hp
    exact ⟨i, Nat.lt_of_lt_of_le hp h.l, hp, rfl⟩
theorem and_same (s : Int32) : s &&& s = s := by
  apply Int32.toBitVec_inj.mp
  rw [Int32.toBitVec_and, BitVec.and_self]
/-- no list depends on itself -/
theorem okD.self {D : ZD} (h : okD D) {i : Nat} (hi : i < dL D) : hasB (wlO (lsO D) 8 (lsD D (ix (D 58 i)))) (nI i) = false := by
  obtain ⟨hN, hR, hO, ⟨rk, h8, hA⟩, -⟩ := id h
  have hl8 := h.l
  have key : ∀ (n : Nat) (s : Int32), (∀ l, l < 8 → hasB s (nI l) = true → l < dL D ∧ rk l < rk i) → ∀ l, l < 8 → hasB (wlI (lsO D) n s) (nI l) = true → n ≤ 8 → l < dL D ∧ rk l < rk i := by
    intro n
    induction n with
    | zero => intro s hs l hl hb _; exact hs l hl hb
    | succ n ih =>
      intro s hs l hl hb hn
      have ih := ih s hs
      cases hf : lsO D n with
      | none => rw [wlI_none hf] at hb; exact ih l hl hb (by omega)
      | some b =>
        have hn2 : n < dL D := by
          unfold lsO at hf
          by_cases q : n < dL D
          · exact q
          · rw [if_neg q] at hf; cases hf
        have hb2 : b = lsD D (ix (D 58 n)) := by
          unfold lsO at hf
          rw [if_pos hn2] at hf
          exact (Option.some.inj hf).symm
        cases hc : hasB (wlI (lsO D) n s) (nI n) with
        | false => rw [wlI_no hf hc] at hb; exact ih l hl hb (by omega)
        | true =>
          rw [wlI_yes hf hc, hasB_or (by omega), Bool.or_eq_true] at hb
          rcases hb with hb | hb
          · exact ih l hl hb (by omega)
          · rw [hb2] at hb
            obtain ⟨q1, q2⟩ := hA n l hn2 hl hb
            obtain ⟨q3, q4⟩ := ih n (by omega) hc (by omega)
            exact ⟨q1, by omega⟩
  have key2 : ∀ (j : Nat) (s : Int32), (∀ l, l < 8 → hasB s (nI l) = true → l < dL D ∧ rk l < rk i) → ∀ l, l < 8 → hasB (wlO (lsO D) j s) (nI l) = true → l < dL D ∧ rk l < rk i := by
    intro j
    induction j with
    | zero => intro s hs l hl hb; exact hs l hl hb
    | succ j ih =>
      intro s hs l hl hb
      exact key 8 _ (ih s hs) l hl hb (Nat.le_refl _)
  cases hb : hasB (wlO (lsO D) 8 (lsD D (ix (D 58 i)))) (nI i) with
  | false => rfl
  | true =>
    have := (key2 8 _ (fun l hl hq => hA i l hi hl hq) i (by omega) hb).2
    omega
/-- of a track, a rule, a list that is there; else the number of what is thrown -/
def aT (D : ZD) (t : Nat) (z : Int32) : Int32 := if prD D t = true then z else -2005
def aR (D : ZD) (r : Nat) (z : Int32) : Int32 := if r < dR D then z else -2005
def aL (D : ZD) (i : Nat) (z : Int32) : Int32 := if i < dL D then z else -2005

theorem Q_0 {l : Launch} {sc : zSQ} (hl0 : l.stackTraces = false) {D : ZD} {x : Nat} {F : Nat → Bool} {S : ZM} (h : lY D x F S) (t : Nat) (ht : t < 2 ^ 31) (b : Int32) : zMetL l sc yL_ask (Cond.codeWith yL_ask cL_ask 5 (some .int) [(0, 7, 8, 99), (0, 7, 14, 103), (0, 7, 20, 107), (0, 7, 26, 182)] :: LWl) ({ frames := 47, cells := 2, slots := 12, locals := 1070 } : Room) 2 12 [zr (some x), zi 0, zi (nI t), zi b] S (AQ D x F S (aT D t (D 42 t))) := by
  refine h.ask ?_
  obtain ⟨hS, -⟩ := h
  have hk := hS.k
  have ho := hS.ok
  obtain ⟨J, lk, as, L, T, rfl, hR⟩ := hS
  refine (L_ask hl0 0 (nI t) b (asked_0 hl0 (nI t) b hk (C_lengthOf hl0 hR (nI t)) ?_) ?_ ?_).mono (fun o S9 h9 => ?_)
  · rintro v S1 ⟨t9, h1, e, hp, hv, rfl⟩; exact ⟨_, hv⟩
  · rintro v S1 ⟨t9, h1, e, hp, hv, rfl⟩; exact ⟨_, hv⟩
  · rintro E S1 ⟨-, -, rfl⟩; exact Or.inr (Or.inr (Or.inl rfl))
  · cases o with
    | inr E => exact h9.elim
    | inl v =>
      rcases h9 with ⟨z, h9, rfl⟩ | ⟨E, k, h9, hk9, rfl⟩
      · obtain ⟨t9, h1, e, hp, hv, rfl⟩ := h9
        obtain rfl := zi_inj hv
        obtain rfl := (nI_eq ht (by omega)).1 e
        exact ⟨by rw [aT, if_pos hp], J, lk, as, L, T, rfl, hR⟩
      · obtain ⟨rfl, hn, rfl⟩ := h9
        obtain rfl : k = -2005 := by simpa [esAsk] using hk9
        exact ⟨by rw [aT, if_neg (fun q => hn ((hasTr_iff ho ht).mpr q))], J, lk, as, L, T, rfl, hR⟩
theorem Q_1 {l : Launch} {sc : zSQ} (hl0 : l.stackTraces = false) {D : ZD} {x : Nat} {F : Nat → Bool} {S : ZM} (h : lY D x F S) (t : Nat) (ht : t < 2 ^ 31) (b : Int32) : zMetL l sc yL_ask (Cond.codeWith yL_ask cL_ask 5 (some .int) [(0, 7, 8, 99), (0, 7, 14, 103), (0, 7, 20, 107), (0, 7, 26, 182)] :: LWl) ({ frames := 47, cells := 2, slots := 12, locals := 1070 } : Room) 2 12 [zr (some x), zi 1, zi (nI t), zi b] S (AQ D x F S (aT D t (D 43 t))) := by
  refine h.ask ?_
  obtain ⟨hS, -⟩ := h
  have hk := hS.k
  have ho := hS.ok
  obtain ⟨J, lk, as, L, T, rfl, hR⟩ := hS
  refine (L_ask hl0 1 (nI t) b (asked_1 hl0 (nI t) b hk (C_ratingOf hl0 hR (nI t)) ?_) ?_ ?_).mono (fun o S9 h9 => ?_)
  · rintro v S1 ⟨t9, h1, e, hp, hv, rfl⟩; exact ⟨_, hv⟩
  · rintro v S1 ⟨t9, h1, e, hp, hv, rfl⟩; exact ⟨_, hv⟩
  · rintro E S1 ⟨-, -, rfl⟩; exact Or.inr (Or.inr (Or.inl rfl))
  · cases o with
    | inr E => exact h9.elim
    | inl v =>
      rcases h9 with ⟨z, h9, rfl⟩ | ⟨E, k, h9, hk9, rfl⟩
      · obtain ⟨t9, h1, e, hp, hv, rfl⟩ := h9
        obtain rfl := zi_inj hv
        obtain rfl := (nI_eq ht (by omega)).1 e
        exact ⟨by rw [aT, if_pos hp], J, lk, as, L, T, rfl, hR⟩
      · obtain ⟨rfl, hn, rfl⟩ := h9
        obtain rfl : k = -2005 := by simpa [esAsk] using hk9
        exact ⟨by rw [aT, if_neg (fun q => hn ((hasTr_iff ho ht).mpr q))], J, lk, as, L, T, rfl, hR⟩
theorem Q_2 {l : Launch} {sc : zSQ} (hl0 : l.stackTraces = false) {D : ZD} {x : Nat} {F : Nat → Bool} {S : ZM} (h : lY D x F S) (t : Nat) (ht : t < 2 ^ 31) (b : Int32) : zMetL l sc yL_ask (Cond.codeWith yL_ask cL_ask 5 (some .int) [(0, 7, 8, 99), (0, 7, 14, 103), (0, 7, 20, 107), (0, 7, 26, 182)] :: LWl) ({ frames := 47, cells := 2, slots := 12, locals := 1070 } : Room) 2 12 [zr (some x), zi 2, zi (nI t), zi b] S (AQ D x F S (aT D t (D 44 t))) := by
  refine h.ask ?_
  obtain ⟨hS, -⟩ := h
  have hk := hS.k
  have ho := hS.ok
  obtain ⟨J, lk, as, L, T, rfl, hR⟩ := hS
  refine (L_ask hl0 2 (nI t) b (asked_2 hl0 (nI t) b hk (C_playsOf hl0 hR (nI t)) ?_) ?_ ?_).mono (fun o S9 h9 => ?_)
  · rintro v S1 ⟨t9, h1, e, hp, hv, rfl⟩; exact ⟨_, hv⟩
  · rintro v S1 ⟨t9, h1, e, hp, hv, rfl⟩; exact ⟨_, hv⟩
  · rintro E S1 ⟨-, -, rfl⟩; exact Or.inr (Or.inr (Or.inl rfl))
  · cases o with
    | inr E => exact h9.elim
    | inl v =>
      rcases h9 with ⟨z, h9, rfl⟩ | ⟨E, k, h9, hk9, rfl⟩
      · obtain ⟨t9, h1, e, hp, hv, rfl⟩ := h9
        obtain rfl := zi_inj hv
        obtain rfl := (nI_eq ht (by omega)).1 e
        exact ⟨by rw [aT, if_pos hp], J, lk, as, L, T, rfl, hR⟩
      · obtain ⟨rfl, hn, rfl⟩ := h9
        obtain rfl : k = -2005 := by simpa [esAsk] using hk9
        exact ⟨by rw [aT, if_neg (fun q => hn ((hasTr_iff ho ht).mpr q))], J, lk, as, L, T, rfl, hR⟩
theorem Q_4 {l : Launch} {sc : zSQ} (hl0 : l.stackTraces = false) {D : ZD} {x : Nat} {F : Nat → Bool} {S : ZM} (h : lY D x F S) (t : Nat) (ht : t < 2 ^ 31) (b : Int32) : zMetL l sc yL_ask (Cond.codeWith yL_ask cL_ask 5 (some .int) [(0, 7, 8, 99), (0, 7, 14, 103), (0, 7, 20, 107), (0, 7, 26, 182)] :: LWl) ({ frames := 47, cells := 2, slots := 12, locals := 1070 } : Room) 2 12 [zr (some x), zi 4, zi (nI t), zi b] S (AQ D x F S (aT D t (D 46 t))) := by
  refine h.ask ?_
  obtain ⟨hS, -⟩ := h
  have hk := hS.k
  have ho := hS.ok
  obtain ⟨J, lk, as, L, T, rfl, hR⟩ := hS
  refine (L_ask hl0 4 (nI t) b (asked_4 hl0 (nI t) b hk (C_tagBits hl0 hR (nI t)) ?_) ?_ ?_).mono (fun o S9 h9 => ?_)
  · rintro v S1 ⟨t9, h1, e, hp, hv, rfl⟩; exact ⟨_, hv⟩
  · rintro v S1 ⟨t9, h1, e, hp, hv, rfl⟩; exact ⟨_, hv⟩
  · rintro E S1 ⟨-, -, rfl⟩; exact Or.inr (Or.inr (Or.inl rfl))
  · cases o with
    | inr E => exact h9.elim
    | inl v =>
      rcases h9 with ⟨z, h9, rfl⟩ | ⟨E, k, h9, hk9, rfl⟩
      · obtain ⟨t9, h1, e, hp, hv, rfl⟩ := h9
        obtain rfl := zi_inj hv
        obtain rfl := (nI_eq ht (by omega)).1 e
        exact ⟨by rw [aT, if_pos hp], J, lk, as, L, T, rfl, hR⟩
      · obtain ⟨rfl, hn, rfl⟩ := h9
        obtain rfl : k = -2005 := by simpa [esAsk] using hk9
        exact ⟨by rw [aT, if_neg (fun q => hn ((hasTr_iff ho ht).mpr q))], J, lk, as, L, T, rfl, hR⟩
theorem Q_3 {l : Launch} {sc : zSQ} (hl0 : l.stackTraces = false) {D : ZD} {x : Nat} {F : Nat → Bool} {S : ZM} (h : lY D x F S) (t : Nat) (ht : t < 2 ^ 31) (b : Int32) : zMetL l sc yL_ask (Cond.codeWith yL_ask cL_ask 5 (some .int) [(0, 7, 8, 99), (0, 7, 14, 103), (0, 7, 20, 107), (0, 7, 26, 182)] :: LWl) ({ frames := 47, cells := 2, slots := 12, locals := 1070 } : Room) 2 12 [zr (some x), zi 3, zi (nI t), zi b] S (AQ D x F S (aT D t (if D 44 t = 0 then -2003 else D 45 t))) := by
  refine h.ask ?_
  obtain ⟨hS, -⟩ := h
  have hk := hS.k
  have ho := hS.ok
  obtain ⟨J, lk, as, L, T, rfl, hR⟩ := hS
  refine (L_ask hl0 3 (nI t) b (asked_3 hl0 (nI t) b hk (C_playedLast hl0 hR (nI t)) ?_) ?_ ?_).mono (fun o S9 h9 => ?_)
  · rintro v S1 ⟨t9, h1, e, hp, h44, hv, rfl⟩; exact ⟨_, hv⟩
  · rintro v S1 ⟨t9, h1, e, hp, h44, hv, rfl⟩; exact ⟨_, hv⟩
  · rintro E S1 ⟨-, ⟨-, rfl⟩ | ⟨_, _, _, _, _, rfl⟩⟩
    · exact Or.inr (Or.inr (Or.inl rfl))
    · exact Or.inr (Or.inl rfl)
  · cases o with
    | inr E => exact h9.elim
    | inl v =>
      rcases h9 with ⟨z, h9, rfl⟩ | ⟨E, k, h9, hk9, rfl⟩
      · obtain ⟨t9, h1, e, hp, h44, hv, rfl⟩ := h9
        obtain rfl := zi_inj hv
        obtain rfl := (nI_eq ht (by omega)).1 e
        exact ⟨by rw [aT, if_pos hp, if_neg h44], J, lk, as, L, T, rfl, hR⟩
      · obtain ⟨rfl, ⟨hn, rfl⟩ | ⟨t9, h1, e, hp, h44, rfl⟩⟩ := h9
        · obtain rfl : k = -2005 := by simpa [esAsk] using hk9
          exact ⟨by rw [aT, if_neg (fun q => hn ((hasTr_iff ho ht).mpr q))], J, lk, as, L, T, rfl, hR⟩
        · obtain rfl : k = -2003 := by simpa [esAsk] using hk9
          obtain rfl := (nI_eq ht (by omega)).1 e
          exact ⟨by rw [aT, if_pos hp, if_pos h44], J, lk, as, L, T, rfl, hR⟩
theorem Q_10 {l : Launch} {sc : zSQ} (hl0 : l.stackTraces = false) {D : ZD} {x : Nat} {F : Nat → Bool} {S : ZM} (h : lY D x F S) (r : Nat) (hr : r < 2 ^ 31) (b : Int32) : zMetL l sc yL_ask (Cond.codeWith yL_ask cL_ask 5 (some .int) [(0, 7, 8, 99), (0, 7, 14, 103), (0, 7, 20, 107), (0, 7, 26, 182)] :: LWl) ({ frames := 47, cells := 2, slots := 12, locals := 1070 } : Room) 2 12 [zr (some x), zi 10, zi (nI r), zi b] S (AQ D x F S (aR D r (D 56 r))) := by
  refine h.ask ?_
  obtain ⟨hS, -⟩ := h
  have hk := hS.k
  have ho := hS.ok
  obtain ⟨J, lk, as, L, T, rfl, hR⟩ := hS
  refine (L_ask hl0 10 (nI r) b (asked_10 hl0 (nI r) b hk (C_sizeOf hl0 hR (nI r)) ?_) ?_ ?_).mono (fun o S9 h9 => ?_)
  · rintro v S1 ⟨r9, h0, h1, e, hv, rfl⟩; exact ⟨_, hv⟩
  · rintro v S1 ⟨r9, h0, h1, e, hv, rfl⟩; exact ⟨_, hv⟩
  · rintro E S1 ⟨-, -, rfl⟩; exact Or.inr (Or.inr (Or.inl rfl))
  · cases o with
    | inr E => exact h9.elim
    | inl v =>
      rcases h9 with ⟨z, h9, rfl⟩ | ⟨E, k, h9, hk9, rfl⟩
      · obtain ⟨r9, h0, h1, e, hv, rfl⟩ := h9
        obtain rfl := zi_inj hv
        obtain rfl := (nI_eq hr (by omega)).1 e
        exact ⟨by rw [aR, if_pos h1], J, lk, as, L, T, rfl, hR⟩
      · obtain ⟨rfl, hn, rfl⟩ := h9
        obtain rfl : k = -2005 := by simpa [esAsk] using hk9
        exact ⟨by rw [aR, if_neg (fun q => hn ((hasRl_iff ho hr).mpr q))], J, lk, as, L, T, rfl, hR⟩
theorem Q_11 {l : Launch} {sc : zSQ} (hl0 : l.stackTraces = false) {D : ZD} {x : Nat} {F : Nat → Bool} {S : ZM} (h : lY D x F S) (r t : Nat) (hr : r < 2 ^ 31) (ht : t < 2 ^ 31) : zMetL l sc yL_ask (Cond.codeWith yL_ask cL_ask 5 (some .int) [(0, 7, 8, 99), (0, 7, 14, 103), (0, 7, 20, 107), (0, 7, 26, 182)] :: LWl) ({ frames := 47, cells := 2, slots := 12, locals := 1070 } : Room) 2 12 [zr (some x), zi 11, zi (nI r), zi (nI t)] S (AQ D x F S (aR D r (aT D t (bI (ev D (D 61) r t))))) := by
  refine h.ask ?_
  obtain ⟨hS, -⟩ := h
  have hk := hS.k
  have ho := hS.ok
  obtain ⟨J, lk, as, L, T, rfl, hR⟩ := hS
  refine (L_ask hl0 11 (nI r) (nI t) (asked_11 hl0 (nI r) (nI t) hk (C_holds hl0 hR (nI r) (nI t)) ?_) ?_ ?_).mono (fun o S9 h9 => ?_)
  · rintro v S1 ⟨r9, t9, h0, h1, e, g0, eg, hp, hv, rfl⟩; exact ⟨_, hv⟩
  · rintro v S1 ⟨r9, t9, h0, h1, e, g0, eg, hp, hv, rfl⟩; exact ⟨_, hv⟩
  · rintro E S1 ⟨-, -, rfl⟩; exact Or.inr (Or.inr (Or.inl rfl))
  · cases o with
    | inr E => exact h9.elim
    | inl v =>
      rcases h9 with ⟨z, h9, rfl⟩ | ⟨E, k, h9, hk9, rfl⟩
      · obtain ⟨r9, t9, h0, h1, e, g0, eg, hp, hv, rfl⟩ := h9
        obtain rfl := zi_inj hv
        obtain rfl := (nI_eq hr (by omega)).1 e
        obtain rfl := (nI_eq ht (by omega)).1 eg
        exact ⟨by rw [aR, if_pos h1, aT, if_pos hp, mt_has g0, hp, Bool.true_and], J, lk, as, L, T, rfl, hR⟩
      · obtain ⟨rfl, hn, rfl⟩ := h9
        obtain rfl : k = -2005 := by simpa [esAsk] using hk9
        by_cases q : r < dR D
        · exact ⟨by rw [aR, if_pos q, aT, if_neg (fun q2 => hn ⟨(hasRl_iff ho hr).mpr q, (hasTr_iff ho ht).mpr q2⟩)], J, lk, as, L, T, rfl, hR⟩
        · exact ⟨by rw [aR, if_neg q], J, lk, as, L, T, rfl, hR⟩
theorem Q_12 {l : Launch} {sc : zSQ} (hl0 : l.stackTraces = false) {D : ZD} {x : Nat} {F : Nat → Bool} {S : ZM} (h : lY D x F S) (i : Nat) (hi : i < 2 ^ 31) (b : Int32) : zMetL l sc yL_ask (Cond.codeWith yL_ask cL_ask 5 (some .int) [(0, 7, 8, 99), (0, 7, 14, 103), (0, 7, 20, 107), (0, 7, 26, 182)] :: LWl) ({ frames := 47, cells := 2, slots := 12, locals := 1070 } : Room) 2 12 [zr (some x), zi 12, zi (nI i), zi b] S (AQ D x F S (aL D i (nI (pcB (mtD D (D 61) (ix (D 58 i))))))) := by
  refine h.ask ?_
  obtain ⟨hS, -⟩ := h
  have hk := hS.k
  have ho := hS.ok
  obtain ⟨J, lk, as, L, T, rfl, hR⟩ := hS
  refine (L_ask hl0 12 (nI i) b (asked_12 hl0 (nI i) b hk (C_matches hl0 hR (nI i)) ?_) ?_ ?_).mono (fun o S9 h9 => ?_)
  · rintro v S1 ⟨i9, h0, h1, e, hv, rfl⟩; exact ⟨_, hv⟩
  · rintro v S1 ⟨i9, h0, h1, e, hv, rfl⟩; exact ⟨_, hv⟩
  · rintro E S1 ⟨-, -, rfl⟩; exact Or.inr (Or.inr (Or.inl rfl))
  · cases o with
    | inr E => exact h9.elim
    | inl v =>
      rcases h9 with ⟨z, h9, rfl⟩ | ⟨E, k, h9, hk9, rfl⟩
      · obtain ⟨i9, h0, h1, e, hv, rfl⟩ := h9
        obtain rfl := zi_inj hv
        obtain rfl := (nI_eq hi (by omega)).1 e
        exact ⟨by rw [aL, if_pos h1, bcJ_pc], J, lk, as, L, T, rfl, hR⟩
      · obtain ⟨rfl, hn, rfl⟩ := h9
        obtain rfl : k = -2005 := by simpa [esAsk] using hk9
        exact ⟨by rw [aL, if_neg (fun q => hn ((hasLs_iff ho hi).mpr q))], J, lk, as, L, T, rfl, hR⟩
theorem Q_13 {l : Launch} {sc : zSQ} (hl0 : l.stackTraces = false) {D : ZD} {x : Nat} {F : Nat → Bool} {S : ZM} (h : lY D x F S) (i : Nat) (hi : i < 2 ^ 31) (b : Int32) : zMetL l sc yL_ask (Cond.codeWith yL_ask cL_ask 5 (some .int) [(0, 7, 8, 99), (0, 7, 14, 103), (0, 7, 20, 107), (0, 7, 26, 182)] :: LWl) ({ frames := 47, cells := 2, slots := 12, locals := 1070 } : Room) 2 12 [zr (some x), zi 13, zi (nI i), zi b] S (AQ D x F S (aL D i (nI (pcB (D 61 i))))) := by
  refine h.ask ?_
  obtain ⟨hS, -⟩ := h
  have hk := hS.k
  have ho := hS.ok
  obtain ⟨J, lk, as, L, T, rfl, hR⟩ := hS
  refine (L_ask hl0 13 (nI i) b (asked_13 hl0 (nI i) b hk (C_size hl0 hR (nI i)) ?_) ?_ ?_).mono (fun o S9 h9 => ?_)
  · rintro v S1 ⟨i9, h0, h1, e, hv, rfl⟩; exact ⟨_, hv⟩
  · rintro v S1 ⟨i9, h0, h1, e, hv, rfl⟩; exact ⟨_, hv⟩
  · rintro E S1 ⟨-, -, rfl⟩; exact Or.inr (Or.inr (Or.inl rfl))
  · cases o with
    | inr E => exact h9.elim
    | inl v =>
      rcases h9 with ⟨z, h9, rfl⟩ | ⟨E, k, h9, hk9, rfl⟩
      · obtain ⟨i9, h0, h1, e, hv, rfl⟩ := h9
        obtain rfl := zi_inj hv
        obtain rfl := (nI_eq hi (by omega)).1 e
        exact ⟨by rw [aL, if_pos h1, bcJ_pc], J, lk, as, L, T, rfl, hR⟩
      · obtain ⟨rfl, hn, rfl⟩ := h9
        obtain rfl : k = -2005 := by simpa [esAsk] using hk9
        exact ⟨by rw [aL, if_neg (fun q => hn ((hasLs_iff ho hi).mpr q))], J, lk, as, L, T, rfl, hR⟩
theorem Q_17 {l : Launch} {sc : zSQ} (hl0 : l.stackTraces = false) {D : ZD} {x : Nat} {F : Nat → Bool} {S : ZM} (h : lY D x F S) (i : Nat) (hi : i < 2 ^ 31) (b : Int32) : zMetL l sc yL_ask (Cond.codeWith yL_ask cL_ask 5 (some .int) [(0, 7, 8, 99), (0, 7, 14, 103), (0, 7, 20, 107), (0, 7, 26, 182)] :: LWl) ({ frames := 47, cells := 2, slots := 12, locals := 1070 } : Room) 2 12 [zr (some x), zi 17, zi (nI i), zi b] S (AQ D x F S (aL D i (smF (fun t => prD D t && hasB (D 61 i) (nI t)) (fun t => D 42 t) 24))) := by
  refine h.ask ?_
  obtain ⟨hS, -⟩ := h
  have hk := hS.k
  have ho := hS.ok
  obtain ⟨J, lk, as, L, T, rfl, hR⟩ := hS
  refine (L_ask hl0 17 (nI i) b (asked_17 hl0 (nI i) b hk (C_secondsOf hl0 hR (nI i)) ?_) ?_ ?_).mono (fun o S9 h9 => ?_)
  · rintro v S1 ⟨i9, h0, h1, e, hv, rfl⟩; exact ⟨_, hv⟩
  · rintro v S1 ⟨i9, h0, h1, e, hv, rfl⟩; exact ⟨_, hv⟩
  · rintro E S1 ⟨-, -, rfl⟩; exact Or.inr (Or.inr (Or.inl rfl))
  · cases o with
    | inr E => exact h9.elim
    | inl v =>
      rcases h9 with ⟨z, h9, rfl⟩ | ⟨E, k, h9, hk9, rfl⟩
      · obtain ⟨i9, h0, h1, e, hv, rfl⟩ := h9
        obtain rfl := zi_inj hv
        obtain rfl := (nI_eq hi (by omega)).1 e
        exact ⟨by rw [aL, if_pos h1], J, lk, as, L, T, rfl, hR⟩
      · obtain ⟨rfl, hn, rfl⟩ := h9
        obtain rfl : k = -2005 := by simpa [esAsk] using hk9
        exact ⟨by rw [aL, if_neg (fun q => hn ((hasLs_iff ho hi).mpr q))], J, lk, as, L, T, rfl, hR⟩
theorem Q_14 {l : Launch} {sc : zSQ} (hl0 : l.stackTraces = false) {D : ZD} {x : Nat} {F : Nat → Bool} {S : ZM} (h : lY D x F S) (i k0 : Nat) (hi : i < 2 ^ 31) (hk0 : k0 < 2 ^ 31) : zMetL l sc yL_ask (Cond.codeWith yL_ask cL_ask 5 (some .int) [(0, 7, 8, 99), (0, 7, 14, 103), (0, 7, 20, 107), (0, 7, 26, 182)] :: LWl) ({ frames := 47, cells := 2, slots := 12, locals := 1070 } : Room) 2 12 [zr (some x), zi 14, zi (nI i), zi (nI k0)] S (AQ D x F S (aL D i (if k0 < pcB (D 61 i) then frD D (D 59 i) (lfD D (D 59 i) (D 61 i) k0) else -2001))) := by
  refine h.ask ?_
  obtain ⟨hS, -⟩ := h
  have hk := hS.k
  have ho := hS.ok
  obtain ⟨J, lk, as, L, T, rfl, hR⟩ := hS
  refine (L_ask hl0 14 (nI i) (nI k0) (asked_14 hl0 (nI i) (nI k0) hk (C_trackAt hl0 hR (nI i) (nI k0)) ?_) ?_ ?_).mono (fun o S9 h9 => ?_)
  · rintro v S1 ⟨i9, h0, h1, e, g0, g1, hv, rfl⟩; exact ⟨_, hv⟩
  · rintro v S1 ⟨i9, h0, h1, e, g0, g1, hv, rfl⟩; exact ⟨_, hv⟩
  · rintro E S1 ⟨-, ⟨-, rfl⟩ | ⟨_, _, _, _, _, rfl⟩⟩
    · exact Or.inr (Or.inr (Or.inl rfl))
    · exact Or.inl rfl
  · cases o with
    | inr E => exact h9.elim
    | inl v =>
      rcases h9 with ⟨z, h9, rfl⟩ | ⟨E, k, h9, hk9, rfl⟩
      · obtain ⟨i9, h0, h1, e, g0, g1, hv, rfl⟩ := h9
        obtain rfl := zi_inj hv
        obtain rfl := (nI_eq hi (by omega)).1 e
        have hp := pcB_32 (D 61 i)
        rw [bcJ_pc, nI_ltI hk0 (by omega)] at g1
        exact ⟨by rw [aL, if_pos h1, if_pos g1, show ix (nI k0) = k0 from nI_clamp hk0], J, lk, as, L, T, rfl, hR⟩
      · obtain ⟨rfl, ⟨hn, rfl⟩ | ⟨i9, h0, h1, e, g1, rfl⟩⟩ := h9
        · obtain rfl : k = -2005 := by simpa [esAsk] using hk9
          exact ⟨by rw [aL, if_neg (fun q => hn ((hasLs_iff ho hi).mpr q))], J, lk, as, L, T, rfl, hR⟩
        · obtain rfl : k = -2001 := by simpa [esAsk] using hk9
          obtain rfl := (nI_eq hi (by omega)).1 e
          have hp := pcB_32 (D 61 i)
          have g2 : ¬ k0 < pcB (D 61 i) := fun q => g1 ⟨nI_pos hk0, by rw [bcJ_pc]; exact nI_lt q (by omega)⟩
          exact ⟨by rw [aL, if_pos h1, if_neg g2], J, lk, as, L, T, rfl, hR⟩
theorem Q_15 {l : Launch} {sc : zSQ} (hl0 : l.stackTraces = false) {D : ZD} {x : Nat} {F : Nat → Bool} {S : ZM} (h : lY D x F S) (i t : Nat) (hi : i < 2 ^ 31) (ht : t < 2 ^ 31) : zMetL l sc yL_ask (Cond.codeWith yL_ask cL_ask 5 (some .int) [(0, 7, 8, 99), (0, 7, 14, 103), (0, 7, 20, 107), (0, 7, 26, 182)] :: LWl) ({ frames := 47, cells := 2, slots := 12, locals := 1070 } : Room) 2 12 [zr (some x), zi 15, zi (nI i), zi (nI t)] S (AQ D x F S (aL D i (aT D t (bI (hasB (D 61 i) (nI t)))))) := by
  refine h.ask ?_
  obtain ⟨hS, -⟩ := h
  have hk := hS.k
  have ho := hS.ok
  obtain ⟨J, lk, as, L, T, rfl, hR⟩ := hS
  refine (L_ask hl0 15 (nI i) (nI t) (asked_15 hl0 (nI i) (nI t) hk (C_contains hl0 hR (nI i) (nI t)) ?_) ?_ ?_).mono (fun o S9 h9 => ?_)
  · rintro v S1 ⟨i9, t9, h0, h1, e, g0, eg, hp, hv, rfl⟩; exact ⟨_, hv⟩
  · rintro v S1 ⟨i9, t9, h0, h1, e, g0, eg, hp, hv, rfl⟩; exact ⟨_, hv⟩
  · rintro E S1 ⟨-, -, rfl⟩; exact Or.inr (Or.inr (Or.inl rfl))
  · cases o with
    | inr E => exact h9.elim
    | inl v =>
      rcases h9 with ⟨z, h9, rfl⟩ | ⟨E, k, h9, hk9, rfl⟩
      · obtain ⟨i9, t9, h0, h1, e, g0, eg, hp, hv, rfl⟩ := h9
        obtain rfl := zi_inj hv
        obtain rfl := (nI_eq hi (by omega)).1 e
        obtain rfl := (nI_eq ht (by omega)).1 eg
        exact ⟨by rw [aL, if_pos h1, aT, if_pos hp], J, lk, as, L, T, rfl, hR⟩
      · obtain ⟨rfl, hn, rfl⟩ := h9
        obtain rfl : k = -2005 := by simpa [esAsk] using hk9
        by_cases q : i < dL D
        · exact ⟨by rw [aL, if_pos q, aT, if_neg (fun q2 => hn ⟨(hasLs_iff ho hi).mpr q, (hasTr_iff ho ht).mpr q2⟩)], J, lk, as, L, T, rfl, hR⟩
        · exact ⟨by rw [aL, if_neg q], J, lk, as, L, T, rfl, hR⟩
theorem Q_16 {l : Launch} {sc : zSQ} (hl0 : l.stackTraces = false) {D : ZD} {x : Nat} {F : Nat → Bool} {S : ZM} (h : lY D x F S) (i t : Nat) (hi : i < 2 ^ 31) (ht : t < 2 ^ 31) : zMetL l sc yL_ask (Cond.codeWith yL_ask cL_ask 5 (some .int) [(0, 7, 8, 99), (0, 7, 14, 103), (0, 7, 20, 107), (0, 7, 26, 182)] :: LWl) ({ frames := 47, cells := 2, slots := 12, locals := 1070 } : Room) 2 12 [zr (some x), zi 16, zi (nI i), zi (nI t)] S (AQ D x F S (aL D i (aT D t (bI (hasB (D 61 i) (nI t)))))) := by
  refine h.ask ?_
  obtain ⟨hS, -⟩ := h
  have hk := hS.k
  have ho := hS.ok
  obtain ⟨J, lk, as, L, T, rfl, hR⟩ := hS
  refine (L_ask hl0 16 (nI i) (nI t) (asked_16 hl0 (nI i) (nI t) hk (C_containsByRounds hl0 hR (nI i) (nI t)) ?_) ?_ ?_).mono (fun o S9 h9 => ?_)
  · rintro v S1 ⟨i9, t9, h0, h1, e, g0, eg, hp, hv, hR9⟩; exact ⟨_, hv⟩
  · rintro v S1 ⟨i9, t9, h0, h1, e, g0, eg, hp, hv, hR9⟩; exact ⟨_, hv⟩
  · rintro E S1 ⟨-, -, rfl⟩; exact Or.inr (Or.inr (Or.inl rfl))
  · cases o with
    | inr E => exact h9.elim
    | inl v =>
      rcases h9 with ⟨z, h9, rfl⟩ | ⟨E, k, h9, hk9, rfl⟩
      · obtain ⟨i9, t9, h0, h1, e, g0, eg, hp, hv, hR9⟩ := h9
        obtain rfl := zi_inj hv
        obtain rfl := (nI_eq hi (by omega)).1 e
        obtain rfl := (nI_eq ht (by omega)).1 eg
        exact ⟨by rw [aL, if_pos h1, aT, if_pos hp], J, lk, as, L, T, rfl, hR9⟩
      · obtain ⟨rfl, hn, rfl⟩ := h9
        obtain rfl : k = -2005 := by simpa [esAsk] using hk9
        by_cases q : i < dL D
        · exact ⟨by rw [aL, if_pos q, aT, if_neg (fun q2 => hn ⟨(hasLs_iff ho hi).mpr q, (hasTr_iff ho ht).mpr q2⟩)], J, lk, as, L, T, rfl, hR⟩
        · exact ⟨by rw [aL, if_neg q], J, lk, as, L, T, rfl, hR⟩
theorem Q_18 {l : Launch} {sc : zSQ} (hl0 : l.stackTraces = false) {D : ZD} {x : Nat} {F : Nat → Bool} {S : ZM} (h : lY D x F S) (i : Nat) (hi : i < 2 ^ 31) : zMetL l sc yL_ask (Cond.codeWith yL_ask cL_ask 5 (some .int) [(0, 7, 8, 99), (0, 7, 14, 103), (0, 7, 20, 107), (0, 7, 26, 182)] :: LWl) ({ frames := 47, cells := 2, slots := 12, locals := 1070 } : Room) 2 12 [zr (some x), zi 18, zi (nI i), zi (nI i)] S (AQ D x F S (aL D i (nI (pcB (D 61 i))))) := by
  refine h.ask ?_
  obtain ⟨hS, -⟩ := h
  have hk := hS.k
  have ho := hS.ok
  obtain ⟨J, lk, as, L, T, rfl, hR⟩ := hS
  refine (L_ask hl0 18 (nI i) (nI i) (asked_18 hl0 (nI i) (nI i) hk (C_common hl0 hR (nI i) (nI i)) ?_) ?_ ?_).mono (fun o S9 h9 => ?_)
  · rintro v S1 ⟨i9, j9, h0, h1, e, g0, g1, eg, hv, rfl⟩; exact ⟨_, hv⟩
  · rintro v S1 ⟨i9, j9, h0, h1, e, g0, g1, eg, hv, rfl⟩; exact ⟨_, hv⟩
  · rintro E S1 ⟨-, -, rfl⟩; exact Or.inr (Or.inr (Or.inl rfl))
  · cases o with
    | inr E => exact h9.elim
    | inl v =>
      rcases h9 with ⟨z, h9, rfl⟩ | ⟨E, k, h9, hk9, rfl⟩
      · obtain ⟨i9, j9, h0, h1, e, g0, g1, eg, hv, rfl⟩ := h9
        obtain rfl := zi_inj hv
        obtain rfl := (nI_eq hi (by omega)).1 e
        obtain rfl := (nI_eq hi (by omega)).1 eg
        exact ⟨by rw [aL, if_pos h1, and_same, bcJ_pc], J, lk, as, L, T, rfl, hR⟩
      · obtain ⟨rfl, hn, rfl⟩ := h9
        obtain rfl : k = -2005 := by simpa [esAsk] using hk9
        exact ⟨by rw [aL, if_neg (fun q => hn ⟨(hasLs_iff ho hi).mpr q, (hasLs_iff ho hi).mpr q⟩)], J, lk, as, L, T, rfl, hR⟩
theorem Q_19 {l : Launch} {sc : zSQ} (hl0 : l.stackTraces = false) {D : ZD} {x : Nat} {F : Nat → Bool} {S : ZM} (h : lY D x F S) (i : Nat) (hi : i < 2 ^ 31) : zMetL l sc yL_ask (Cond.codeWith yL_ask cL_ask 5 (some .int) [(0, 7, 8, 99), (0, 7, 14, 103), (0, 7, 20, 107), (0, 7, 26, 182)] :: LWl) ({ frames := 47, cells := 2, slots := 12, locals := 1070 } : Room) 2 12 [zr (some x), zi 19, zi (nI i), zi (nI i)] S (AQ D x F S (aL D i 0)) := by
  refine h.ask ?_
  obtain ⟨hS, -⟩ := h
  have hk := hS.k
  have ho := hS.ok
  obtain ⟨J, lk, as, L, T, rfl, hR⟩ := hS
  refine (L_ask hl0 19 (nI i) (nI i) (asked_19 hl0 (nI i) (nI i) hk (C_dependsOn hl0 hR (nI i) (nI i)) ?_) ?_ ?_).mono (fun o S9 h9 => ?_)
  · rintro v S1 ⟨i9, j9, h0, h1, e, g0, g1, eg, hv, rfl⟩; exact ⟨_, hv⟩
  · rintro v S1 ⟨i9, j9, h0, h1, e, g0, g1, eg, hv, rfl⟩; exact ⟨_, hv⟩
  · rintro E S1 ⟨-, -, rfl⟩; exact Or.inr (Or.inr (Or.inl rfl))
  · cases o with
    | inr E => exact h9.elim
    | inl v =>
      rcases h9 with ⟨z, h9, rfl⟩ | ⟨E, k, h9, hk9, rfl⟩
      · obtain ⟨i9, j9, h0, h1, e, g0, g1, eg, hv, rfl⟩ := h9
        obtain rfl := zi_inj hv
        obtain rfl := (nI_eq hi (by omega)).1 e
        obtain rfl := (nI_eq hi (by omega)).1 eg
        exact ⟨by rw [aL, if_pos h1, ho.self h1]; rfl, J, lk, as, L, T, rfl, hR⟩
      · obtain ⟨rfl, hn, rfl⟩ := h9
        obtain rfl : k = -2005 := by simpa [esAsk] using hk9
        exact ⟨by rw [aL, if_neg (fun q => hn ⟨(hasLs_iff ho hi).mpr q, (hasLs_iff ho hi).mpr q⟩)], J, lk, as, L, T, rfl, hR⟩
theorem Q_20 {l : Launch} {sc : zSQ} (hl0 : l.stackTraces = false) {D : ZD} {x : Nat} {F : Nat → Bool} {S : ZM} (h : lY D x F S) (i : Nat) (hi : i < 2 ^ 31) (b : Int32) : zMetL l sc yL_ask (Cond.codeWith yL_ask cL_ask 5 (some .int) [(0, 7, 8, 99), (0, 7, 14, 103), (0, 7, 20, 107), (0, 7, 26, 182)] :: LWl) ({ frames := 47, cells := 2, slots := 12, locals := 1070 } : Room) 2 12 [zr (some x), zi 20, zi (nI i), zi b] S (AQ D x F S (aL D i (if prN D (D 61 i) 24 ≤ 2147483647 then nI (prN D (D 61 i) 24) else -2006))) := by
  refine h.ask ?_
  obtain ⟨hS, -⟩ := h
  have hk := hS.k
  have ho := hS.ok
  obtain ⟨J, lk, as, L, T, rfl, hR⟩ := hS
  refine (L_ask hl0 20 (nI i) b (asked_20 hl0 (nI i) b hk (C_mixes hl0 hR (nI i)) ?_) ?_ ?_).mono (fun o S9 h9 => ?_)
  · rintro v S1 ⟨i9, h0, h1, e, g0, hv, rfl⟩; exact ⟨_, hv⟩
  · rintro v S1 ⟨i9, h0, h1, e, g0, hv, rfl⟩; exact ⟨_, hv⟩
  · rintro E S1 ⟨-, ⟨-, rfl⟩ | ⟨_, _, _, _, _, _, _, rfl⟩⟩
    · exact Or.inr (Or.inr (Or.inl rfl))
    · exact Or.inr (Or.inr (Or.inr rfl))
  · cases o with
    | inr E => exact h9.elim
    | inl v =>
      rcases h9 with ⟨z, h9, rfl⟩ | ⟨E, k, h9, hk9, rfl⟩
      · obtain ⟨i9, h0, h1, e, g0, hv, rfl⟩ := h9
        obtain rfl := zi_inj hv
        obtain rfl := (nI_eq hi (by omega)).1 e
        have hle : prN D (D 61 i) 24 ≤ 2147483647 := by
          by_cases q : prN D (D 61 i) 24 ≤ 2147483647
          · exact q
          · obtain ⟨n, hn, hno⟩ := mx_no ho (s := D 61 i) 24 (Nat.le_refl _) (by omega)
            exact absurd (g0 n hn) hno
        exact ⟨by rw [aL, if_pos h1, if_pos hle, mx_le ho 24 (Nat.le_refl _) hle, lN_i], J, lk, as, L, T, rfl, hR⟩
      · obtain ⟨rfl, ⟨hn, rfl⟩ | ⟨i9, h0, h1, e, n, hn, hno, rfl⟩⟩ := h9
        · obtain rfl : k = -2005 := by simpa [esAsk] using hk9
          exact ⟨by rw [aL, if_neg (fun q => hn ((hasLs_iff ho hi).mpr q))], J, lk, as, L, T, rfl, hR⟩
        · obtain rfl : k = -2006 := by simpa [esAsk] using hk9
          obtain rfl := (nI_eq hi (by omega)).1 e
          exact ⟨by rw [aL, if_pos h1, if_neg (fun q => hno (mx_ok ho q n hn))], J, lk, as, L, T, rfl, hR⟩
