/-! the law's changes, over its world -/
theorem ord_c {o : Int32} (h : o = 115 ∨ o = 114 ∨ o = 112 ∨ o = 110) : (o.toUInt32 % 65536).toInt32 = o := by
  rcases h with rfl | rfl | rfl | rfl <;> decide
/-- the size of a rule -/
def szN (D : ZD) (kd a b : Int32) : Int32 := if kd = 8 then 1 + D 56 (ix a) else if kd = 6 ∨ kd = 7 then 1 + D 56 (ix a) + D 56 (ix b) else 1
/-- a rule more, or none -/
def RR (D : ZD) (kd a b z : Int32) (D' : ZD) : Prop := (∃ b' sz : Int32, dR D < 40 ∧ z = nI (dR D) ∧ D' = opRule D kd a b' sz ∧ (kd = 6 ∨ kd = 7 → b' = b) ∧ sz = szN D kd a b' ∧ (kd = 6 ∨ kd = 7 ∨ kd = 8 → ix a < dR D) ∧ (kd = 6 ∨ kd = 7 → ix b' < dR D)) ∨ (z < 0 ∧ D' = D)
theorem RR.simple {D : ZD} {kd a b : Int32} (ho : okD D) (h : dR D < 40) (hk : ¬ (kd = 6 ∨ kd = 7 ∨ kd = 8)) : RR D kd a b (D 52 0) (opRule D kd a 0 1) := by
  have h67 : ¬ (kd = 6 ∨ kd = 7) := fun q => hk (q.elim Or.inl (fun q => Or.inr (Or.inl q)))
  have h8 : ¬ kd = 8 := fun q => hk (Or.inr (Or.inr q))
  exact Or.inl ⟨0, 1, h, ho.1.2.2.1.1, rfl, fun q => absurd q h67, by rw [szN, if_neg h8, if_neg h67], fun q => absurd q hk, fun q => absurd q h67⟩
theorem RR.two {D : ZD} {kd : Int32} {p q : Nat} (ho : okD D) (h : dR D < 40) (hp : p < dR D) (hq : q < dR D) (hk : (kd = 6 ∨ kd = 7) ∧ ¬ kd = 8) : RR D kd (nI p) (nI q) (D 52 0) (opRule D kd (nI p) (nI q) (1 + D 56 p + D 56 q)) := by
  have ip : ix (nI p) = p := nI_clamp (by omega)
  have iq : ix (nI q) = q := nI_clamp (by omega)
  exact Or.inl ⟨nI q, _, h, ho.1.2.2.1.1, rfl, fun _ => rfl, by rw [szN, if_neg hk.2, if_pos hk.1, ip, iq], fun _ => by rw [ip]; exact hp, fun _ => by rw [iq]; exact hq⟩
theorem RR.one {D : ZD} {b : Int32} {p : Nat} (ho : okD D) (h : dR D < 40) (hp : p < dR D) : RR D 8 (nI p) b (D 52 0) (opRule D 8 (nI p) (nI p) (1 + D 56 p)) := by
  have ip : ix (nI p) = p := nI_clamp (by omega)
  exact Or.inl ⟨nI p, _, h, ho.1.2.2.1.1, rfl, fun q => absurd q (by decide), by rw [szN, if_pos rfl, ip], fun _ => by rw [ip]; exact hp, fun q => absurd q (by decide)⟩

theorem DD_0 {l : Launch} {sc : zSQ} (hl0 : l.stackTraces = false) {D : ZD} {x : Nat} {F : Nat → Bool} {S : ZM} (h : lY D x F S) (a b : Nat) (c : Int32) (ha : 1 ≤ a ∧ a ≤ 999) (hb : b ≤ 5) : zMetL l sc yL_deed (Cond.codeWith yL_deed cL_deed 6 (some .int) [(0, 9, 10, 99), (0, 9, 16, 101), (0, 9, 22, 103), (0, 9, 28, 105), (0, 9, 34, 107)] :: LWl) ({ frames := 48, cells := 5, slots := 42, locals := 1080 } : Room) 5 42 [zr (some x), zi 0, zi (nI a), zi (nI b), zi c] S (DQ (fun z D' => (dT D < 24 ∧ z = nI (dT D) ∧ D' = chgD (opTrk D (nI a) (nI b))) ∨ (¬ dT D < 24 ∧ z = -2003 ∧ D' = D)) x F S) := by
  refine h.deed ?_
  obtain ⟨hS, -⟩ := h
  have hk := hS.k
  have ho := hS.ok
  obtain ⟨J, lk, as, L, T, rfl, hR⟩ := hS
  refine (L_deed hl0 0 (nI a) (nI b) c (plain_0 hl0 (nI a) (nI b) c hk (C_addTrack hl0 hR (nI a) (nI b)) ?_) ?_ ?_).mono (fun o9 S9 h9 => ?_)
  · rintro v S1 ⟨g1, g2, g3, g4, g5, hv, hR9⟩; exact ⟨_, hv⟩
  · rintro v S1 ⟨g1, g2, g3, g4, g5, hv, hR9⟩; exact ⟨_, hv⟩
  · rintro E S1 ⟨-, ⟨-, rfl⟩ | ⟨_, _, _, _, _, rfl⟩⟩
    · exact Or.inr (Or.inl rfl)
    · exact Or.inr (Or.inr (Or.inl rfl))
  · cases o9 with
    | inr E => exact h9.elim
    | inl v =>
      rcases h9 with ⟨z, h9, rfl⟩ | ⟨E, k, h9, hk9, rfl⟩
      · obtain ⟨g1, g2, g3, g4, g5, hv, hR9⟩ := h9
        obtain rfl := zi_inj hv
        exact ⟨_, _, rfl, Or.inl ⟨g5, rfl, rfl⟩, J, lk, as, L, T, rfl, hR9⟩
      · obtain ⟨rfl, ⟨hn, rfl⟩ | ⟨_, _, _, _, hn, rfl⟩⟩ := h9
        · exact absurd ⟨(nI_leI (a := 1) (by omega) (by omega)).mpr ha.1, (nI_leI (b := 999) (by omega) (by omega)).mpr ha.2, nI_pos' (by omega), (nI_leI (b := 5) (by omega) (by omega)).mpr hb⟩ hn
        · obtain rfl : k = (-2003) := by simpa [esDeed] using hk9
          refine ⟨_, _, rfl, Or.inr ⟨fun q => hn ?_, rfl, rfl⟩, J, lk, as, L, T, rfl, hR⟩
          rw [ho.1.1.1]
          exact nI_lt (b := 24) q (by decide)
theorem DD_1 {l : Launch} {sc : zSQ} (hl0 : l.stackTraces = false) {D : ZD} {x : Nat} {F : Nat → Bool} {S : ZM} (h : lY D x F S) (t : Nat) (ht : t < 2 ^ 31) (b c : Int32) : zMetL l sc yL_deed (Cond.codeWith yL_deed cL_deed 6 (some .int) [(0, 9, 10, 99), (0, 9, 16, 101), (0, 9, 22, 103), (0, 9, 28, 105), (0, 9, 34, 107)] :: LWl) ({ frames := 48, cells := 5, slots := 42, locals := 1080 } : Room) 5 42 [zr (some x), zi 1, zi (nI t), zi b, zi c] S (DQ (fun z D' => (∃ u : Nat, prD D u = true ∧ 0 ≤ z ∧ D' = chgD (opRem D u)) ∨ (z = -2005 ∧ D' = D)) x F S) := by
  refine h.deed ?_
  obtain ⟨hS, -⟩ := h
  have hk := hS.k
  have ho := hS.ok
  obtain ⟨J, lk, as, L, T, rfl, hR⟩ := hS
  refine (L_deed hl0 1 (nI t) b c (plain_1 hl0 (nI t) b c hk (C_removeTrack hl0 hR (nI t)) ?_) ?_ ?_).mono (fun o9 S9 h9 => ?_)
  · rintro v S1 ⟨t9, g1, g2, g3, hv, hR9⟩; exact ⟨_, hv⟩
  · rintro v S1 ⟨t9, g1, g2, g3, hv, hR9⟩; exact ⟨_, hv⟩
  · rintro E S1 ⟨-, -, rfl⟩; exact Or.inr (Or.inr (Or.inr (Or.inr rfl)))
  · cases o9 with
    | inr E => exact h9.elim
    | inl v =>
      rcases h9 with ⟨z, h9, rfl⟩ | ⟨E, k, h9, hk9, rfl⟩
      · obtain ⟨t9, g1, g2, g3, hv, hR9⟩ := h9
        obtain rfl := zi_inj hv
        exact ⟨_, _, rfl, Or.inl ⟨t9, g3, nI_pos' (by have := cnG_le (prD (opRem D t9)) 24; omega), rfl⟩, J, lk, as, L, T, rfl, hR9⟩
      · obtain ⟨rfl, hn, rfl⟩ := h9
        obtain rfl : k = (-2005) := by simpa [esDeed] using hk9
        exact ⟨_, _, rfl, Or.inr ⟨rfl, rfl⟩, J, lk, as, L, T, rfl, hR⟩
theorem DD_2 {l : Launch} {sc : zSQ} (hl0 : l.stackTraces = false) {D : ZD} {x : Nat} {F : Nat → Bool} {S : ZM} (h : lY D x F S) (t b : Nat) (c : Int32) (ht : t < 2 ^ 31) (hb : b ≤ 5) : zMetL l sc yL_deed (Cond.codeWith yL_deed cL_deed 6 (some .int) [(0, 9, 10, 99), (0, 9, 16, 101), (0, 9, 22, 103), (0, 9, 28, 105), (0, 9, 34, 107)] :: LWl) ({ frames := 48, cells := 5, slots := 42, locals := 1080 } : Room) 5 42 [zr (some x), zi 2, zi (nI t), zi (nI b), zi c] S (DQ (fun z D' => (∃ u : Nat, prD D u = true ∧ 0 ≤ z ∧ D' = chgD (opRate D u (nI b))) ∨ (z = -2005 ∧ D' = D)) x F S) := by
  refine h.deed ?_
  obtain ⟨hS, -⟩ := h
  have hk := hS.k
  have ho := hS.ok
  obtain ⟨J, lk, as, L, T, rfl, hR⟩ := hS
  refine (L_deed hl0 2 (nI t) (nI b) c (plain_2 hl0 (nI t) (nI b) c hk (C_setRating hl0 hR (nI t) (nI b)) ?_) ?_ ?_).mono (fun o9 S9 h9 => ?_)
  · rintro v S1 ⟨t9, g1, g2, g3, g4, g5, hv, hR9⟩; exact ⟨_, hv⟩
  · rintro v S1 ⟨t9, g1, g2, g3, g4, g5, hv, hR9⟩; exact ⟨_, hv⟩
  · rintro E S1 ⟨-, ⟨-, rfl⟩ | ⟨_, _, rfl⟩⟩
    · exact Or.inr (Or.inr (Or.inr (Or.inr rfl)))
    · exact Or.inr (Or.inl rfl)
  · cases o9 with
    | inr E => exact h9.elim
    | inl v =>
      rcases h9 with ⟨z, h9, rfl⟩ | ⟨E, k, h9, hk9, rfl⟩
      · obtain ⟨t9, g1, g2, g3, g4, g5, hv, hR9⟩ := h9
        obtain rfl := zi_inj hv
        obtain ⟨n, e, hn⟩ := ((ho.2.2.2.2.2.1 t9 g1).1 (prD_lt g3)).2.1
        exact ⟨_, _, rfl, Or.inl ⟨t9, g3, by rw [e]; exact nI_pos' (by omega), rfl⟩, J, lk, as, L, T, rfl, hR9⟩
      · obtain ⟨rfl, ⟨hn, rfl⟩ | ⟨_, hn, rfl⟩⟩ := h9
        · obtain rfl : k = (-2005) := by simpa [esDeed] using hk9
          exact ⟨_, _, rfl, Or.inr ⟨rfl, rfl⟩, J, lk, as, L, T, rfl, hR⟩
        · exact absurd ⟨nI_pos' (by omega), (nI_leI (b := 5) (by omega) (by omega)).mpr hb⟩ hn
theorem DD_3 {l : Launch} {sc : zSQ} (hl0 : l.stackTraces = false) {D : ZD} {x : Nat} {F : Nat → Bool} {S : ZM} (h : lY D x F S) (t : Nat) (ht : t < 2 ^ 31) (b c : Int32) : zMetL l sc yL_deed (Cond.codeWith yL_deed cL_deed 6 (some .int) [(0, 9, 10, 99), (0, 9, 16, 101), (0, 9, 22, 103), (0, 9, 28, 105), (0, 9, 34, 107)] :: LWl) ({ frames := 48, cells := 5, slots := 42, locals := 1080 } : Room) 5 42 [zr (some x), zi 3, zi (nI t), zi b, zi c] S (DQ (fun z D' => (∃ u : Nat, prD D u = true ∧ 0 ≤ z ∧ D' = chgD (opPlay D u)) ∨ ((z = -2005 ∨ z = -2003) ∧ D' = D)) x F S) := by
  refine h.deed ?_
  obtain ⟨hS, -⟩ := h
  have hk := hS.k
  have ho := hS.ok
  obtain ⟨J, lk, as, L, T, rfl, hR⟩ := hS
  refine (L_deed hl0 3 (nI t) b c (plain_3 hl0 (nI t) b c hk (C_play hl0 hR (nI t)) ?_) ?_ ?_).mono (fun o9 S9 h9 => ?_)
  · rintro v S1 ⟨t9, g1, g2, g3, g4, hv, hR9⟩; exact ⟨_, hv⟩
  · rintro v S1 ⟨t9, g1, g2, g3, g4, hv, hR9⟩; exact ⟨_, hv⟩
  · rintro E S1 ⟨-, ⟨-, rfl⟩ | ⟨_, _, _, _, _, rfl⟩⟩
    · exact Or.inr (Or.inr (Or.inr (Or.inr rfl)))
    · exact Or.inr (Or.inr (Or.inl rfl))
  · cases o9 with
    | inr E => exact h9.elim
    | inl v =>
      rcases h9 with ⟨z, h9, rfl⟩ | ⟨E, k, h9, hk9, rfl⟩
      · obtain ⟨t9, g1, g2, g3, g4, hv, hR9⟩ := h9
        obtain rfl := zi_inj hv
        obtain ⟨n, e, hn⟩ := ((ho.2.2.2.2.2.1 t9 g1).1 (prD_lt g3)).2.2
        exact ⟨_, _, rfl, Or.inl ⟨t9, g3, by rw [e, ← nI_succ]; exact nI_pos' (by omega), rfl⟩, J, lk, as, L, T, rfl, hR9⟩
      · obtain ⟨rfl, ⟨hn, rfl⟩ | ⟨_, _, _, _, hn, rfl⟩⟩ := h9
        · obtain rfl : k = (-2005) := by simpa [esDeed] using hk9
          exact ⟨_, _, rfl, Or.inr ⟨Or.inl rfl, rfl⟩, J, lk, as, L, T, rfl, hR⟩
        · obtain rfl : k = (-2003) := by simpa [esDeed] using hk9
          exact ⟨_, _, rfl, Or.inr ⟨Or.inr rfl, rfl⟩, J, lk, as, L, T, rfl, hR⟩
theorem DD_4 {l : Launch} {sc : zSQ} (hl0 : l.stackTraces = false) {D : ZD} {x : Nat} {F : Nat → Bool} {S : ZM} (h : lY D x F S) (d n : Nat) (b c : Int32) (hd : 1 ≤ d ∧ d ≤ 365) (e0 : D 40 0 = nI n) (hn : n + d ≤ 9999) : zMetL l sc yL_deed (Cond.codeWith yL_deed cL_deed 6 (some .int) [(0, 9, 10, 99), (0, 9, 16, 101), (0, 9, 22, 103), (0, 9, 28, 105), (0, 9, 34, 107)] :: LWl) ({ frames := 48, cells := 5, slots := 42, locals := 1080 } : Room) 5 42 [zr (some x), zi 4, zi (nI d), zi b, zi c] S (DQ (fun z D' => z = nI (n + d) ∧ D' = chgD (opPass D (nI d))) x F S) := by
  refine h.deed ?_
  obtain ⟨hS, -⟩ := h
  have hk := hS.k
  have ho := hS.ok
  obtain ⟨J, lk, as, L, T, rfl, hR⟩ := hS
  refine (L_deed hl0 4 (nI d) b c (plain_4 hl0 (nI d) b c hk (C_pass hl0 hR (nI d)) ?_) ?_ ?_).mono (fun o9 S9 h9 => ?_)
  · rintro v S1 ⟨g1, g2, g3, hv, hR9⟩; exact ⟨_, hv⟩
  · rintro v S1 ⟨g1, g2, g3, hv, hR9⟩; exact ⟨_, hv⟩
  · rintro E S1 ⟨-, ⟨-, rfl⟩ | ⟨_, _, _, rfl⟩⟩
    · exact Or.inr (Or.inl rfl)
    · exact Or.inr (Or.inr (Or.inl rfl))
  · cases o9 with
    | inr E => exact h9.elim
    | inl v =>
      rcases h9 with ⟨z, h9, rfl⟩ | ⟨E, k, h9, hk9, rfl⟩
      · obtain ⟨g1, g2, g3, hv, hR9⟩ := h9
        obtain rfl := zi_inj hv
        exact ⟨_, _, rfl, ⟨by rw [e0, nI_add], rfl⟩, J, lk, as, L, T, rfl, hR9⟩
      · obtain ⟨rfl, ⟨h9, rfl⟩ | ⟨_, _, h9, rfl⟩⟩ := h9
        · exact absurd ⟨(nI_leI (a := 1) (by omega) (by omega)).mpr hd.1, (nI_leI (b := 365) (by omega) (by omega)).mpr hd.2⟩ h9
        · rw [e0] at h9
          exact absurd (show nI d ≤ nI 9999 - nI n by rw [pk_sub (by omega)]; exact nI_le (by omega) (by omega)) h9
theorem DD_5 {l : Launch} {sc : zSQ} (hl0 : l.stackTraces = false) {D : ZD} {x : Nat} {F : Nat → Bool} {S : ZM} (h : lY D x F S) (a b c : Int32) : zMetL l sc yL_deed (Cond.codeWith yL_deed cL_deed 6 (some .int) [(0, 9, 10, 99), (0, 9, 16, 101), (0, 9, 22, 103), (0, 9, 28, 105), (0, 9, 34, 107)] :: LWl) ({ frames := 48, cells := 5, slots := 42, locals := 1080 } : Room) 5 42 [zr (some x), zi 5, zi a, zi b, zi c] S (DQ (fun z D' => (dG D < 16 ∧ z = nI (dG D) ∧ D' = opTag D) ∨ (¬ dG D < 16 ∧ z = -2003 ∧ D' = D)) x F S) := by
  refine h.deed ?_
  obtain ⟨hS, -⟩ := h
  have hk := hS.k
  have ho := hS.ok
  obtain ⟨J, lk, as, L, T, rfl, hR⟩ := hS
  refine (L_deed hl0 5 a b c (plain_5 hl0 a b c hk (C_addTag hl0 hR) ?_) ?_ ?_).mono (fun o9 S9 h9 => ?_)
  · rintro v S1 ⟨g1, hv, T9, hR9⟩; exact ⟨_, hv⟩
  · rintro v S1 ⟨g1, hv, T9, hR9⟩; exact ⟨_, hv⟩
  · rintro E S1 ⟨-, -, rfl⟩; exact Or.inr (Or.inr (Or.inl rfl))
  · cases o9 with
    | inr E => exact h9.elim
    | inl v =>
      rcases h9 with ⟨z, h9, rfl⟩ | ⟨E, k, h9, hk9, rfl⟩
      · obtain ⟨g1, hv, T9, hR9⟩ := h9
        obtain rfl := zi_inj hv
        exact ⟨_, _, rfl, Or.inl ⟨g1, rfl, rfl⟩, J, lk, as, L, T9, rfl, hR9⟩
      · obtain ⟨rfl, hn, rfl⟩ := h9
        obtain rfl : k = (-2003) := by simpa [esDeed] using hk9
        refine ⟨_, _, rfl, Or.inr ⟨fun q => hn ?_, rfl, rfl⟩, J, lk, as, L, T, rfl, hR⟩
        rw [ho.1.2.1.1]
        exact nI_lt (b := 16) q (by decide)
theorem DD_7 {l : Launch} {sc : zSQ} (hl0 : l.stackTraces = false) {D : ZD} {x : Nat} {F : Nat → Bool} {S : ZM} (h : lY D x F S) (t g : Nat) (c : Int32) : zMetL l sc yL_deed (Cond.codeWith yL_deed cL_deed 6 (some .int) [(0, 9, 10, 99), (0, 9, 16, 101), (0, 9, 22, 103), (0, 9, 28, 105), (0, 9, 34, 107)] :: LWl) ({ frames := 48, cells := 5, slots := 42, locals := 1080 } : Room) 5 42 [zr (some x), zi 7, zi (nI t), zi (nI g), zi c] S (DQ (fun z D' => (∃ (u : Nat) (s : Int32), 0 ≤ z ∧ D' = chgD (opTags D u s)) ∨ ((z = -2005 ∨ z = -2003) ∧ D' = D)) x F S) := by
  refine h.deed ?_
  obtain ⟨hS, -⟩ := h
  have hk := hS.k
  have ho := hS.ok
  obtain ⟨J, lk, as, L, T, rfl, hR⟩ := hS
  refine (L_deed hl0 7 (nI t) (nI g) c (plain_7 hl0 (nI t) (nI g) c hk (C_tag hl0 hR (nI t) (nI g)) ?_) ?_ ?_).mono (fun o9 S9 h9 => ?_)
  · rintro v S1 ⟨t9, g9, g1, g2, g3, g4, g5, g6, g7, g8, hv, hR9⟩; exact ⟨_, hv⟩
  · rintro v S1 ⟨t9, g9, g1, g2, g3, g4, g5, g6, g7, g8, hv, hR9⟩; exact ⟨_, hv⟩
  · rintro E S1 ⟨-, ⟨-, rfl⟩ | ⟨_, _, _, _, _, _, _, _, _, _, rfl⟩⟩
    · exact Or.inr (Or.inr (Or.inr (Or.inr rfl)))
    · exact Or.inr (Or.inr (Or.inl rfl))
  · cases o9 with
    | inr E => exact h9.elim
    | inl v =>
      rcases h9 with ⟨z, h9, rfl⟩ | ⟨E, k, h9, hk9, rfl⟩
      · obtain ⟨t9, g9, g1, g2, g3, g4, g5, g6, g7, g8, hv, hR9⟩ := h9
        obtain rfl := zi_inj hv
        exact ⟨_, _, rfl, Or.inl ⟨t9, _, by rw [bcJ_pc]; exact nI_pos' (Nat.lt_of_le_of_lt (pcB_32 _) (by decide)), rfl⟩, J, lk, as, L, T, rfl, hR9⟩
      · obtain ⟨rfl, ⟨hn, rfl⟩ | ⟨_, _, _, _, _, _, _, _, _, _, rfl⟩⟩ := h9
        · obtain rfl : k = (-2005) := by simpa [esDeed] using hk9
          exact ⟨_, _, rfl, Or.inr ⟨Or.inl rfl, rfl⟩, J, lk, as, L, T, rfl, hR⟩
        · obtain rfl : k = (-2003) := by simpa [esDeed] using hk9
          exact ⟨_, _, rfl, Or.inr ⟨Or.inr rfl, rfl⟩, J, lk, as, L, T, rfl, hR⟩
theorem DD_8 {l : Launch} {sc : zSQ} (hl0 : l.stackTraces = false) {D : ZD} {x : Nat} {F : Nat → Bool} {S : ZM} (h : lY D x F S) (t g : Nat) (c : Int32) : zMetL l sc yL_deed (Cond.codeWith yL_deed cL_deed 6 (some .int) [(0, 9, 10, 99), (0, 9, 16, 101), (0, 9, 22, 103), (0, 9, 28, 105), (0, 9, 34, 107)] :: LWl) ({ frames := 48, cells := 5, slots := 42, locals := 1080 } : Room) 5 42 [zr (some x), zi 8, zi (nI t), zi (nI g), zi c] S (DQ (fun z D' => (∃ (u : Nat) (s : Int32), 0 ≤ z ∧ D' = chgD (opTags D u s)) ∨ ((z = -2005 ∨ z = -2003) ∧ D' = D)) x F S) := by
  refine h.deed ?_
  obtain ⟨hS, -⟩ := h
  have hk := hS.k
  have ho := hS.ok
  obtain ⟨J, lk, as, L, T, rfl, hR⟩ := hS
  refine (L_deed hl0 8 (nI t) (nI g) c (plain_8 hl0 (nI t) (nI g) c hk (C_untag hl0 hR (nI t) (nI g)) ?_) ?_ ?_).mono (fun o9 S9 h9 => ?_)
  · rintro v S1 ⟨t9, g9, g1, g2, g3, g4, g5, g6, g7, g8, hv, hR9⟩; exact ⟨_, hv⟩
  · rintro v S1 ⟨t9, g9, g1, g2, g3, g4, g5, g6, g7, g8, hv, hR9⟩; exact ⟨_, hv⟩
  · rintro E S1 ⟨-, ⟨-, rfl⟩ | ⟨_, _, _, _, _, _, _, _, _, _, rfl⟩⟩
    · exact Or.inr (Or.inr (Or.inr (Or.inr rfl)))
    · exact Or.inr (Or.inr (Or.inl rfl))
  · cases o9 with
    | inr E => exact h9.elim
    | inl v =>
      rcases h9 with ⟨z, h9, rfl⟩ | ⟨E, k, h9, hk9, rfl⟩
      · obtain ⟨t9, g9, g1, g2, g3, g4, g5, g6, g7, g8, hv, hR9⟩ := h9
        obtain rfl := zi_inj hv
        exact ⟨_, _, rfl, Or.inl ⟨t9, _, by rw [bcJ_pc]; exact nI_pos' (Nat.lt_of_le_of_lt (pcB_32 _) (by decide)), rfl⟩, J, lk, as, L, T, rfl, hR9⟩
      · obtain ⟨rfl, ⟨hn, rfl⟩ | ⟨_, _, _, _, _, _, _, _, _, _, rfl⟩⟩ := h9
        · obtain rfl : k = (-2005) := by simpa [esDeed] using hk9
          exact ⟨_, _, rfl, Or.inr ⟨Or.inl rfl, rfl⟩, J, lk, as, L, T, rfl, hR⟩
        · obtain rfl : k = (-2003) := by simpa [esDeed] using hk9
          exact ⟨_, _, rfl, Or.inr ⟨Or.inr rfl, rfl⟩, J, lk, as, L, T, rfl, hR⟩
theorem DD_11 {l : Launch} {sc : zSQ} (hl0 : l.stackTraces = false) {D : ZD} {x : Nat} {F : Nat → Bool} {S : ZM} (h : lY D x F S) (g : Nat) (b c : Int32) : zMetL l sc yL_deed (Cond.codeWith yL_deed cL_deed 6 (some .int) [(0, 9, 10, 99), (0, 9, 16, 101), (0, 9, 22, 103), (0, 9, 28, 105), (0, 9, 34, 107)] :: LWl) ({ frames := 48, cells := 5, slots := 42, locals := 1080 } : Room) 5 42 [zr (some x), zi 11, zi (nI g), zi b, zi c] S (DQ (RR D 0 (nI g) b) x F S) := by
  refine h.deed ?_
  obtain ⟨hS, -⟩ := h
  have hk := hS.k
  have ho := hS.ok
  obtain ⟨J, lk, as, L, T, rfl, hR⟩ := hS
  refine (L_deed hl0 11 (nI g) b c (plain_11 hl0 (nI g) b c hk (C_hasTag hl0 hR (nI g)) ?_) ?_ ?_).mono (fun o9 S9 h9 => ?_)
  · rintro v S1 ⟨g9, g1, g2, e, g4, g5, hv, hR9⟩; exact ⟨_, hv⟩
  · rintro v S1 ⟨g9, g1, g2, e, g4, g5, hv, hR9⟩; exact ⟨_, hv⟩
  · rintro E S1 ⟨-, ⟨-, rfl⟩ | ⟨_, _, rfl⟩⟩
    · exact Or.inr (Or.inr (Or.inr (Or.inr rfl)))
    · exact Or.inr (Or.inr (Or.inl rfl))
  · cases o9 with
    | inr E => exact h9.elim
    | inl v =>
      rcases h9 with ⟨z, h9, rfl⟩ | ⟨E, k, h9, hk9, rfl⟩
      · obtain ⟨g9, g1, g2, e, g4, g5, hv, hR9⟩ := h9
        obtain rfl := zi_inj hv
        rw [← e] at hR9
        exact ⟨_, _, rfl, RR.simple ho g5 (by decide), J, lk, _, L, T, rfl, hR9⟩
      · obtain ⟨hR9, ⟨hn, rfl⟩ | ⟨_, _, rfl⟩⟩ := h9
        · obtain rfl : k = (-2005) := by simpa [esDeed] using hk9
          exact ⟨_, _, rfl, Or.inr ⟨by decide, rfl⟩, J, lk, as, L, T, rfl, hR9⟩
        · obtain rfl : k = (-2003) := by simpa [esDeed] using hk9
          exact ⟨_, _, rfl, Or.inr ⟨by decide, rfl⟩, J, lk, as, L, T, rfl, hR9⟩
theorem DD_12 {l : Launch} {sc : zSQ} (hl0 : l.stackTraces = false) {D : ZD} {x : Nat} {F : Nat → Bool} {S : ZM} (h : lY D x F S) (a b c : Int32) : zMetL l sc yL_deed (Cond.codeWith yL_deed cL_deed 6 (some .int) [(0, 9, 10, 99), (0, 9, 16, 101), (0, 9, 22, 103), (0, 9, 28, 105), (0, 9, 34, 107)] :: LWl) ({ frames := 48, cells := 5, slots := 42, locals := 1080 } : Room) 5 42 [zr (some x), zi 12, zi a, zi b, zi c] S (DQ (RR D 1 a b) x F S) := by
  refine h.deed ?_
  obtain ⟨hS, -⟩ := h
  have hk := hS.k
  have ho := hS.ok
  obtain ⟨J, lk, as, L, T, rfl, hR⟩ := hS
  refine (L_deed hl0 12 a b c (plain_12 hl0 a b c hk (C_rated hl0 hR a) ?_) ?_ ?_).mono (fun o9 S9 h9 => ?_)
  · rintro v S1 ⟨g1, g2, g5, hv, hR9⟩; exact ⟨_, hv⟩
  · rintro v S1 ⟨g1, g2, g5, hv, hR9⟩; exact ⟨_, hv⟩
  · rintro E S1 ⟨-, ⟨-, rfl⟩ | ⟨_, _, _, rfl⟩⟩
    · exact Or.inr (Or.inl rfl)
    · exact Or.inr (Or.inr (Or.inl rfl))
  · cases o9 with
    | inr E => exact h9.elim
    | inl v =>
      rcases h9 with ⟨z, h9, rfl⟩ | ⟨E, k, h9, hk9, rfl⟩
      · obtain ⟨g1, g2, g5, hv, hR9⟩ := h9
        obtain rfl := zi_inj hv
        exact ⟨_, _, rfl, RR.simple ho g5 (by decide), J, lk, _, L, T, rfl, hR9⟩
      · obtain ⟨hR9, ⟨hn, rfl⟩ | ⟨_, _, _, rfl⟩⟩ := h9
        · obtain rfl : k = (-2002) := by simpa [esDeed] using hk9
          exact ⟨_, _, rfl, Or.inr ⟨by decide, rfl⟩, J, lk, as, L, T, rfl, hR9⟩
        · obtain rfl : k = (-2003) := by simpa [esDeed] using hk9
          exact ⟨_, _, rfl, Or.inr ⟨by decide, rfl⟩, J, lk, as, L, T, rfl, hR9⟩
theorem DD_13 {l : Launch} {sc : zSQ} (hl0 : l.stackTraces = false) {D : ZD} {x : Nat} {F : Nat → Bool} {S : ZM} (h : lY D x F S) (a b c : Int32) : zMetL l sc yL_deed (Cond.codeWith yL_deed cL_deed 6 (some .int) [(0, 9, 10, 99), (0, 9, 16, 101), (0, 9, 22, 103), (0, 9, 28, 105), (0, 9, 34, 107)] :: LWl) ({ frames := 48, cells := 5, slots := 42, locals := 1080 } : Room) 5 42 [zr (some x), zi 13, zi a, zi b, zi c] S (DQ (RR D 2 a b) x F S) := by
  refine h.deed ?_
  obtain ⟨hS, -⟩ := h
  have hk := hS.k
  have ho := hS.ok
  obtain ⟨J, lk, as, L, T, rfl, hR⟩ := hS
  refine (L_deed hl0 13 a b c (plain_13 hl0 a b c hk (C_playedAtMost hl0 hR a) ?_) ?_ ?_).mono (fun o9 S9 h9 => ?_)
  · rintro v S1 ⟨g1, g2, g5, hv, hR9⟩; exact ⟨_, hv⟩
  · rintro v S1 ⟨g1, g2, g5, hv, hR9⟩; exact ⟨_, hv⟩
  · rintro E S1 ⟨-, ⟨-, rfl⟩ | ⟨_, _, _, rfl⟩⟩
    · exact Or.inr (Or.inl rfl)
    · exact Or.inr (Or.inr (Or.inl rfl))
  · cases o9 with
    | inr E => exact h9.elim
    | inl v =>
      rcases h9 with ⟨z, h9, rfl⟩ | ⟨E, k, h9, hk9, rfl⟩
      · obtain ⟨g1, g2, g5, hv, hR9⟩ := h9
        obtain rfl := zi_inj hv
        exact ⟨_, _, rfl, RR.simple ho g5 (by decide), J, lk, _, L, T, rfl, hR9⟩
      · obtain ⟨hR9, ⟨hn, rfl⟩ | ⟨_, _, _, rfl⟩⟩ := h9
        · obtain rfl : k = (-2002) := by simpa [esDeed] using hk9
          exact ⟨_, _, rfl, Or.inr ⟨by decide, rfl⟩, J, lk, as, L, T, rfl, hR9⟩
        · obtain rfl : k = (-2003) := by simpa [esDeed] using hk9
          exact ⟨_, _, rfl, Or.inr ⟨by decide, rfl⟩, J, lk, as, L, T, rfl, hR9⟩
theorem DD_14 {l : Launch} {sc : zSQ} (hl0 : l.stackTraces = false) {D : ZD} {x : Nat} {F : Nat → Bool} {S : ZM} (h : lY D x F S) (a b c : Int32) : zMetL l sc yL_deed (Cond.codeWith yL_deed cL_deed 6 (some .int) [(0, 9, 10, 99), (0, 9, 16, 101), (0, 9, 22, 103), (0, 9, 28, 105), (0, 9, 34, 107)] :: LWl) ({ frames := 48, cells := 5, slots := 42, locals := 1080 } : Room) 5 42 [zr (some x), zi 14, zi a, zi b, zi c] S (DQ (RR D 3 a b) x F S) := by
  refine h.deed ?_
  obtain ⟨hS, -⟩ := h
  have hk := hS.k
  have ho := hS.ok
  obtain ⟨J, lk, as, L, T, rfl, hR⟩ := hS
  refine (L_deed hl0 14 a b c (plain_14 hl0 a b c hk (C_asLongAs hl0 hR a) ?_) ?_ ?_).mono (fun o9 S9 h9 => ?_)
  · rintro v S1 ⟨g1, g2, g5, hv, hR9⟩; exact ⟨_, hv⟩
  · rintro v S1 ⟨g1, g2, g5, hv, hR9⟩; exact ⟨_, hv⟩
  · rintro E S1 ⟨-, ⟨-, rfl⟩ | ⟨_, _, _, rfl⟩⟩
    · exact Or.inr (Or.inl rfl)
    · exact Or.inr (Or.inr (Or.inl rfl))
  · cases o9 with
    | inr E => exact h9.elim
    | inl v =>
      rcases h9 with ⟨z, h9, rfl⟩ | ⟨E, k, h9, hk9, rfl⟩
      · obtain ⟨g1, g2, g5, hv, hR9⟩ := h9
        obtain rfl := zi_inj hv
        exact ⟨_, _, rfl, RR.simple ho g5 (by decide), J, lk, _, L, T, rfl, hR9⟩
      · obtain ⟨hR9, ⟨hn, rfl⟩ | ⟨_, _, _, rfl⟩⟩ := h9
        · obtain rfl : k = (-2002) := by simpa [esDeed] using hk9
          exact ⟨_, _, rfl, Or.inr ⟨by decide, rfl⟩, J, lk, as, L, T, rfl, hR9⟩
        · obtain rfl : k = (-2003) := by simpa [esDeed] using hk9
          exact ⟨_, _, rfl, Or.inr ⟨by decide, rfl⟩, J, lk, as, L, T, rfl, hR9⟩
theorem DD_15 {l : Launch} {sc : zSQ} (hl0 : l.stackTraces = false) {D : ZD} {x : Nat} {F : Nat → Bool} {S : ZM} (h : lY D x F S) (a b c : Int32) : zMetL l sc yL_deed (Cond.codeWith yL_deed cL_deed 6 (some .int) [(0, 9, 10, 99), (0, 9, 16, 101), (0, 9, 22, 103), (0, 9, 28, 105), (0, 9, 34, 107)] :: LWl) ({ frames := 48, cells := 5, slots := 42, locals := 1080 } : Room) 5 42 [zr (some x), zi 15, zi a, zi b, zi c] S (DQ (RR D 4 a b) x F S) := by
  refine h.deed ?_
  obtain ⟨hS, -⟩ := h
  have hk := hS.k
  have ho := hS.ok
  obtain ⟨J, lk, as, L, T, rfl, hR⟩ := hS
  refine (L_deed hl0 15 a b c (plain_15 hl0 a b c hk (C_playedWithin hl0 hR a) ?_) ?_ ?_).mono (fun o9 S9 h9 => ?_)
  · rintro v S1 ⟨g1, g2, g5, hv, hR9⟩; exact ⟨_, hv⟩
  · rintro v S1 ⟨g1, g2, g5, hv, hR9⟩; exact ⟨_, hv⟩
  · rintro E S1 ⟨-, ⟨-, rfl⟩ | ⟨_, _, _, rfl⟩⟩
    · exact Or.inr (Or.inl rfl)
    · exact Or.inr (Or.inr (Or.inl rfl))
  · cases o9 with
    | inr E => exact h9.elim
    | inl v =>
      rcases h9 with ⟨z, h9, rfl⟩ | ⟨E, k, h9, hk9, rfl⟩
      · obtain ⟨g1, g2, g5, hv, hR9⟩ := h9
        obtain rfl := zi_inj hv
        exact ⟨_, _, rfl, RR.simple ho g5 (by decide), J, lk, _, L, T, rfl, hR9⟩
      · obtain ⟨hR9, ⟨hn, rfl⟩ | ⟨_, _, _, rfl⟩⟩ := h9
        · obtain rfl : k = (-2002) := by simpa [esDeed] using hk9
          exact ⟨_, _, rfl, Or.inr ⟨by decide, rfl⟩, J, lk, as, L, T, rfl, hR9⟩
        · obtain rfl : k = (-2003) := by simpa [esDeed] using hk9
          exact ⟨_, _, rfl, Or.inr ⟨by decide, rfl⟩, J, lk, as, L, T, rfl, hR9⟩
theorem DD_16 {l : Launch} {sc : zSQ} (hl0 : l.stackTraces = false) {D : ZD} {x : Nat} {F : Nat → Bool} {S : ZM} (h : lY D x F S) (a b c : Int32) : zMetL l sc yL_deed (Cond.codeWith yL_deed cL_deed 6 (some .int) [(0, 9, 10, 99), (0, 9, 16, 101), (0, 9, 22, 103), (0, 9, 28, 105), (0, 9, 34, 107)] :: LWl) ({ frames := 48, cells := 5, slots := 42, locals := 1080 } : Room) 5 42 [zr (some x), zi 16, zi a, zi b, zi c] S (DQ (RR D 5 a b) x F S) := by
  refine h.deed ?_
  obtain ⟨hS, -⟩ := h
  have hk := hS.k
  have ho := hS.ok
  obtain ⟨J, lk, as, L, T, rfl, hR⟩ := hS
  refine (L_deed hl0 16 a b c (plain_16 hl0 a b c hk (C_inList hl0 hR a) ?_) ?_ ?_).mono (fun o9 S9 h9 => ?_)
  · rintro v S1 ⟨g1, g5, hv, hR9⟩; exact ⟨_, hv⟩
  · rintro v S1 ⟨g1, g5, hv, hR9⟩; exact ⟨_, hv⟩
  · rintro E S1 ⟨-, ⟨-, rfl⟩ | ⟨_, _, rfl⟩⟩
    · exact Or.inr (Or.inr (Or.inr (Or.inr rfl)))
    · exact Or.inr (Or.inr (Or.inl rfl))
  · cases o9 with
    | inr E => exact h9.elim
    | inl v =>
      rcases h9 with ⟨z, h9, rfl⟩ | ⟨E, k, h9, hk9, rfl⟩
      · obtain ⟨g1, g5, hv, hR9⟩ := h9
        obtain rfl := zi_inj hv
        exact ⟨_, _, rfl, RR.simple ho g5 (by decide), J, lk, _, L, T, rfl, hR9⟩
      · obtain ⟨hR9, ⟨hn, rfl⟩ | ⟨_, _, rfl⟩⟩ := h9
        · obtain rfl : k = (-2005) := by simpa [esDeed] using hk9
          exact ⟨_, _, rfl, Or.inr ⟨by decide, rfl⟩, J, lk, as, L, T, rfl, hR9⟩
        · obtain rfl : k = (-2003) := by simpa [esDeed] using hk9
          exact ⟨_, _, rfl, Or.inr ⟨by decide, rfl⟩, J, lk, as, L, T, rfl, hR9⟩
theorem DD_17 {l : Launch} {sc : zSQ} (hl0 : l.stackTraces = false) {D : ZD} {x : Nat} {F : Nat → Bool} {S : ZM} (h : lY D x F S) (p q : Nat) (c : Int32) (hp : p < 2 ^ 31) (hq : q < 2 ^ 31) : zMetL l sc yL_deed (Cond.codeWith yL_deed cL_deed 6 (some .int) [(0, 9, 10, 99), (0, 9, 16, 101), (0, 9, 22, 103), (0, 9, 28, 105), (0, 9, 34, 107)] :: LWl) ({ frames := 48, cells := 5, slots := 42, locals := 1080 } : Room) 5 42 [zr (some x), zi 17, zi (nI p), zi (nI q), zi c] S (DQ (RR D 6 (nI p) (nI q)) x F S) := by
  refine h.deed ?_
  obtain ⟨hS, -⟩ := h
  have hk := hS.k
  have ho := hS.ok
  obtain ⟨J, lk, as, L, T, rfl, hR⟩ := hS
  refine (L_deed hl0 17 (nI p) (nI q) c (plain_17 hl0 (nI p) (nI q) c hk (C_both hl0 hR (nI p) (nI q)) ?_) ?_ ?_).mono (fun o9 S9 h9 => ?_)
  · rintro v S1 ⟨p9, q9, g1, g2, e, g3, g4, e2, g5, g6, hv, hR9⟩; exact ⟨_, hv⟩
  · rintro v S1 ⟨p9, q9, g1, g2, e, g3, g4, e2, g5, g6, hv, hR9⟩; exact ⟨_, hv⟩
  · rintro E S1 ⟨-, ⟨-, rfl⟩ | ⟨_, _, _, _, _, _, _, _, ⟨_, rfl⟩ | ⟨_, _, rfl⟩⟩⟩
    · exact Or.inr (Or.inr (Or.inr (Or.inr rfl)))
    · exact Or.inr (Or.inr (Or.inr (Or.inl rfl)))
    · exact Or.inr (Or.inr (Or.inl rfl))
  · cases o9 with
    | inr E => exact h9.elim
    | inl v =>
      rcases h9 with ⟨z, h9, rfl⟩ | ⟨E, k, h9, hk9, rfl⟩
      · obtain ⟨p9, q9, g1, g2, e, g3, g4, e2, g5, g6, hv, hR9⟩ := h9
        obtain rfl := zi_inj hv
        obtain rfl := (nI_eq hp (by omega)).1 e
        obtain rfl := (nI_eq hq (by omega)).1 e2
        exact ⟨_, _, rfl, RR.two ho g6 g2 g4 (by decide), J, lk, _, L, T, rfl, hR9⟩
      · obtain ⟨hR9, ⟨hn, rfl⟩ | ⟨_, _, _, _, _, _, _, _, ⟨_, rfl⟩ | ⟨_, _, rfl⟩⟩⟩ := h9
        · obtain rfl : k = (-2005) := by simpa [esDeed] using hk9
          exact ⟨_, _, rfl, Or.inr ⟨by decide, rfl⟩, J, lk, as, L, T, rfl, hR9⟩
        · obtain rfl : k = (-2004) := by simpa [esDeed] using hk9
          exact ⟨_, _, rfl, Or.inr ⟨by decide, rfl⟩, J, lk, as, L, T, rfl, hR9⟩
        · obtain rfl : k = (-2003) := by simpa [esDeed] using hk9
          exact ⟨_, _, rfl, Or.inr ⟨by decide, rfl⟩, J, lk, as, L, T, rfl, hR9⟩
theorem DD_18 {l : Launch} {sc : zSQ} (hl0 : l.stackTraces = false) {D : ZD} {x : Nat} {F : Nat → Bool} {S : ZM} (h : lY D x F S) (p q : Nat) (c : Int32) (hp : p < 2 ^ 31) (hq : q < 2 ^ 31) : zMetL l sc yL_deed (Cond.codeWith yL_deed cL_deed 6 (some .int) [(0, 9, 10, 99), (0, 9, 16, 101), (0, 9, 22, 103), (0, 9, 28, 105), (0, 9, 34, 107)] :: LWl) ({ frames := 48, cells := 5, slots := 42, locals := 1080 } : Room) 5 42 [zr (some x), zi 18, zi (nI p), zi (nI q), zi c] S (DQ (RR D 7 (nI p) (nI q)) x F S) := by
  refine h.deed ?_
  obtain ⟨hS, -⟩ := h
  have hk := hS.k
  have ho := hS.ok
  obtain ⟨J, lk, as, L, T, rfl, hR⟩ := hS
  refine (L_deed hl0 18 (nI p) (nI q) c (plain_18 hl0 (nI p) (nI q) c hk (C_either hl0 hR (nI p) (nI q)) ?_) ?_ ?_).mono (fun o9 S9 h9 => ?_)
  · rintro v S1 ⟨p9, q9, g1, g2, e, g3, g4, e2, g5, g6, hv, hR9⟩; exact ⟨_, hv⟩
  · rintro v S1 ⟨p9, q9, g1, g2, e, g3, g4, e2, g5, g6, hv, hR9⟩; exact ⟨_, hv⟩
  · rintro E S1 ⟨-, ⟨-, rfl⟩ | ⟨_, _, _, _, _, _, _, _, ⟨_, rfl⟩ | ⟨_, _, rfl⟩⟩⟩
    · exact Or.inr (Or.inr (Or.inr (Or.inr rfl)))
    · exact Or.inr (Or.inr (Or.inr (Or.inl rfl)))
    · exact Or.inr (Or.inr (Or.inl rfl))
  · cases o9 with
    | inr E => exact h9.elim
    | inl v =>
      rcases h9 with ⟨z, h9, rfl⟩ | ⟨E, k, h9, hk9, rfl⟩
      · obtain ⟨p9, q9, g1, g2, e, g3, g4, e2, g5, g6, hv, hR9⟩ := h9
        obtain rfl := zi_inj hv
        obtain rfl := (nI_eq hp (by omega)).1 e
        obtain rfl := (nI_eq hq (by omega)).1 e2
        exact ⟨_, _, rfl, RR.two ho g6 g2 g4 (by decide), J, lk, _, L, T, rfl, hR9⟩
      · obtain ⟨hR9, ⟨hn, rfl⟩ | ⟨_, _, _, _, _, _, _, _, ⟨_, rfl⟩ | ⟨_, _, rfl⟩⟩⟩ := h9
        · obtain rfl : k = (-2005) := by simpa [esDeed] using hk9
          exact ⟨_, _, rfl, Or.inr ⟨by decide, rfl⟩, J, lk, as, L, T, rfl, hR9⟩
        · obtain rfl : k = (-2004) := by simpa [esDeed] using hk9
          exact ⟨_, _, rfl, Or.inr ⟨by decide, rfl⟩, J, lk, as, L, T, rfl, hR9⟩
        · obtain rfl : k = (-2003) := by simpa [esDeed] using hk9
          exact ⟨_, _, rfl, Or.inr ⟨by decide, rfl⟩, J, lk, as, L, T, rfl, hR9⟩
theorem DD_19 {l : Launch} {sc : zSQ} (hl0 : l.stackTraces = false) {D : ZD} {x : Nat} {F : Nat → Bool} {S : ZM} (h : lY D x F S) (p : Nat) (b c : Int32) (hp : p < 2 ^ 31) : zMetL l sc yL_deed (Cond.codeWith yL_deed cL_deed 6 (some .int) [(0, 9, 10, 99), (0, 9, 16, 101), (0, 9, 22, 103), (0, 9, 28, 105), (0, 9, 34, 107)] :: LWl) ({ frames := 48, cells := 5, slots := 42, locals := 1080 } : Room) 5 42 [zr (some x), zi 19, zi (nI p), zi b, zi c] S (DQ (RR D 8 (nI p) b) x F S) := by
  refine h.deed ?_
  obtain ⟨hS, -⟩ := h
  have hk := hS.k
  have ho := hS.ok
  obtain ⟨J, lk, as, L, T, rfl, hR⟩ := hS
  refine (L_deed hl0 19 (nI p) b c (plain_19 hl0 (nI p) b c hk (C_not hl0 hR (nI p)) ?_) ?_ ?_).mono (fun o9 S9 h9 => ?_)
  · rintro v S1 ⟨p9, g1, g2, e, g5, g6, hv, hR9⟩; exact ⟨_, hv⟩
  · rintro v S1 ⟨p9, g1, g2, e, g5, g6, hv, hR9⟩; exact ⟨_, hv⟩
  · rintro E S1 ⟨-, ⟨-, rfl⟩ | ⟨_, _, _, _, ⟨_, rfl⟩ | ⟨_, _, rfl⟩⟩⟩
    · exact Or.inr (Or.inr (Or.inr (Or.inr rfl)))
    · exact Or.inr (Or.inr (Or.inr (Or.inl rfl)))
    · exact Or.inr (Or.inr (Or.inl rfl))
  · cases o9 with
    | inr E => exact h9.elim
    | inl v =>
      rcases h9 with ⟨z, h9, rfl⟩ | ⟨E, k, h9, hk9, rfl⟩
      · obtain ⟨p9, g1, g2, e, g5, g6, hv, hR9⟩ := h9
        obtain rfl := zi_inj hv
        obtain rfl := (nI_eq hp (by omega)).1 e
        exact ⟨_, _, rfl, RR.one ho g6 g2, J, lk, _, L, T, rfl, hR9⟩
      · obtain ⟨hR9, ⟨hn, rfl⟩ | ⟨_, _, _, _, ⟨_, rfl⟩ | ⟨_, _, rfl⟩⟩⟩ := h9
        · obtain rfl : k = (-2005) := by simpa [esDeed] using hk9
          exact ⟨_, _, rfl, Or.inr ⟨by decide, rfl⟩, J, lk, as, L, T, rfl, hR9⟩
        · obtain rfl : k = (-2004) := by simpa [esDeed] using hk9
          exact ⟨_, _, rfl, Or.inr ⟨by decide, rfl⟩, J, lk, as, L, T, rfl, hR9⟩
        · obtain rfl : k = (-2003) := by simpa [esDeed] using hk9
          exact ⟨_, _, rfl, Or.inr ⟨by decide, rfl⟩, J, lk, as, L, T, rfl, hR9⟩
theorem DD_20 {l : Launch} {sc : zSQ} (hl0 : l.stackTraces = false) {D : ZD} {x : Nat} {F : Nat → Bool} {S : ZM} (h : lY D x F S) (r y : Nat) (o : Int32) (hr : r < 2 ^ 31) (ho9 : (o = 115 ∨ o = 114 ∨ o = 112 ∨ o = 110)) (hy : y ≤ 9999) : zMetL l sc yL_deed (Cond.codeWith yL_deed cL_deed 6 (some .int) [(0, 9, 10, 99), (0, 9, 16, 101), (0, 9, 22, 103), (0, 9, 28, 105), (0, 9, 34, 107)] :: LWl) ({ frames := 48, cells := 5, slots := 42, locals := 1080 } : Room) 5 42 [zr (some x), zi 20, zi (nI r), zi o, zi (nI y)] S (DQ (fun z D' => (r < dR D ∧ dL D < 8 ∧ z = nI (dL D) ∧ D' = fllD (opLst D (nI r) o (nI y))) ∨ (¬ r < dR D ∧ z = -2005 ∧ D' = D) ∨ (r < dR D ∧ ¬ dL D < 8 ∧ z = -2003 ∧ D' = D)) x F S) := by
  refine h.deed ?_
  obtain ⟨hS, -⟩ := h
  have hk := hS.k
  have ho := hS.ok
  obtain ⟨J, lk, as, L, T, rfl, hR⟩ := hS
  refine (L_deed hl0 20 (nI r) o (nI y) (plain_20 hl0 (nI r) o (nI y) (ord_c ho9) hk (C_addList hl0 hR (nI r) o (nI y)) ?_) ?_ ?_).mono (fun o9 S9 h9 => ?_)
  · rintro v S1 ⟨g1, g2, g3, g4, g5, hv, hR9⟩; exact ⟨_, hv⟩
  · rintro v S1 ⟨g1, g2, g3, g4, g5, hv, hR9⟩; exact ⟨_, hv⟩
  · rintro E S1 ⟨-, ⟨-, rfl⟩ | ⟨_, _, rfl⟩ | ⟨_, _, _, _, _, rfl⟩⟩
    · exact Or.inr (Or.inr (Or.inr (Or.inr rfl)))
    · exact Or.inr (Or.inl rfl)
    · exact Or.inr (Or.inr (Or.inl rfl))
  · cases o9 with
    | inr E => exact h9.elim
    | inl v =>
      rcases h9 with ⟨z, h9, rfl⟩ | ⟨E, k, h9, hk9, rfl⟩
      · obtain ⟨g1, g2, g3, g4, g5, hv, hR9⟩ := h9
        obtain rfl := zi_inj hv
        exact ⟨_, _, rfl, Or.inl ⟨(hasRl_iff ho hr).mp g1, g5, rfl, rfl⟩, J, lk, as, L, T, rfl, hR9⟩
      · obtain ⟨rfl, ⟨hn, rfl⟩ | ⟨_, hn, rfl⟩ | ⟨g1, _, _, _, hn, rfl⟩⟩ := h9
        · obtain rfl : k = (-2005) := by simpa [esDeed] using hk9
          exact ⟨_, _, rfl, Or.inr (Or.inl ⟨fun q => hn ((hasRl_iff ho hr).mpr q), rfl, rfl⟩), J, lk, as, L, T, rfl, hR⟩
        · exact absurd ⟨ho9, nI_pos' (by omega), (nI_leI (b := 9999) (by omega) (by omega)).mpr hy⟩ hn
        · obtain rfl : k = (-2003) := by simpa [esDeed] using hk9
          refine ⟨_, _, rfl, Or.inr (Or.inr ⟨(hasRl_iff ho hr).mp g1, fun q => hn ?_, rfl, rfl⟩), J, lk, as, L, T, rfl, hR⟩
          rw [ho.1.2.2.2.1]
          exact nI_lt (b := 8) q (by decide)
theorem DD_21 {l : Launch} {sc : zSQ} (hl0 : l.stackTraces = false) {D : ZD} {x : Nat} {F : Nat → Bool} {S : ZM} (h : lY D x F S) (i r : Nat) (c : Int32) (hi : i < 2 ^ 31) (hr : r < 2 ^ 31) : zMetL l sc yL_deed (Cond.codeWith yL_deed cL_deed 6 (some .int) [(0, 9, 10, 99), (0, 9, 16, 101), (0, 9, 22, 103), (0, 9, 28, 105), (0, 9, 34, 107)] :: LWl) ({ frames := 48, cells := 5, slots := 42, locals := 1080 } : Room) 5 42 [zr (some x), zi 21, zi (nI i), zi (nI r), zi c] S (DQ (fun z D' => (i < dL D ∧ r < dR D ∧ 0 ≤ z ∧ D' = chgD (opSet D i (nI r))) ∨ (z = -2005 ∧ D' = D) ∨ (i < dL D ∧ z = -2004 ∧ D' = D)) x F S) := by
  refine h.deed ?_
  obtain ⟨hS, -⟩ := h
  have hk := hS.k
  have ho := hS.ok
  obtain ⟨J, lk, as, L, T, rfl, hR⟩ := hS
  refine (L_deed hl0 21 (nI i) (nI r) c (plain_21 hl0 (nI i) (nI r) c hk (C_setRule hl0 hR (nI i) (nI r)) ?_) ?_ ?_).mono (fun o9 S9 h9 => ?_)
  · rintro v S1 ⟨i9, r9, g1, g2, e, g3, g4, e2, g5, hv, hR9⟩; exact ⟨_, hv⟩
  · rintro v S1 ⟨i9, r9, g1, g2, e, g3, g4, e2, g5, hv, hR9⟩; exact ⟨_, hv⟩
  · rintro E S1 ⟨-, ⟨-, rfl⟩ | ⟨_, _, _, _, _, _, _, _, _, rfl⟩⟩
    · exact Or.inr (Or.inr (Or.inr (Or.inr rfl)))
    · exact Or.inr (Or.inr (Or.inr (Or.inl rfl)))
  · cases o9 with
    | inr E => exact h9.elim
    | inl v =>
      rcases h9 with ⟨z, h9, rfl⟩ | ⟨E, k, h9, hk9, rfl⟩
      · obtain ⟨i9, r9, g1, g2, e, g3, g4, e2, g5, hv, hR9⟩ := h9
        obtain rfl := zi_inj hv
        obtain rfl := (nI_eq hi (by omega)).1 e
        obtain rfl := (nI_eq hr (by omega)).1 e2
        obtain ⟨w, hw, ew⟩ := ho.2.2.1 i g2
        exact ⟨_, _, rfl, Or.inl ⟨g2, g4, by rw [ew]; exact nI_pos' (by have := ho.r; omega), rfl⟩, J, lk, as, L, T, rfl, hR9⟩
      · obtain ⟨rfl, ⟨hn, rfl⟩ | ⟨i9, r9, g1, g2, e, _, _, _, _, rfl⟩⟩ := h9
        · obtain rfl : k = (-2005) := by simpa [esDeed] using hk9
          exact ⟨_, _, rfl, Or.inr (Or.inl ⟨rfl, rfl⟩), J, lk, as, L, T, rfl, hR⟩
        · obtain rfl : k = (-2004) := by simpa [esDeed] using hk9
          obtain rfl := (nI_eq hi (by omega)).1 e
          exact ⟨_, _, rfl, Or.inr (Or.inr ⟨g2, rfl, rfl⟩), J, lk, as, L, T, rfl, hR⟩
theorem DD_22 {l : Launch} {sc : zSQ} (hl0 : l.stackTraces = false) {D : ZD} {x : Nat} {F : Nat → Bool} {S : ZM} (h : lY D x F S) (i : Nat) (o c : Int32) (hi : i < 2 ^ 31) (ho9 : (o = 115 ∨ o = 114 ∨ o = 112 ∨ o = 110)) : zMetL l sc yL_deed (Cond.codeWith yL_deed cL_deed 6 (some .int) [(0, 9, 10, 99), (0, 9, 16, 101), (0, 9, 22, 103), (0, 9, 28, 105), (0, 9, 34, 107)] :: LWl) ({ frames := 48, cells := 5, slots := 42, locals := 1080 } : Room) 5 42 [zr (some x), zi 22, zi (nI i), zi o, zi c] S (DQ (fun z D' => (i < dL D ∧ 0 ≤ z ∧ D' = chgD (opOrd D i o)) ∨ (¬ i < dL D ∧ z = -2005 ∧ D' = D)) x F S) := by
  refine h.deed ?_
  obtain ⟨hS, -⟩ := h
  have hk := hS.k
  have ho := hS.ok
  obtain ⟨J, lk, as, L, T, rfl, hR⟩ := hS
  refine (L_deed hl0 22 (nI i) o c (plain_22 hl0 (nI i) o c (ord_c ho9) hk (C_setOrder hl0 hR (nI i) o) ?_) ?_ ?_).mono (fun o9 S9 h9 => ?_)
  · rintro v S1 ⟨i9, g1, g2, e, g3, hv, hR9⟩; exact ⟨_, hv⟩
  · rintro v S1 ⟨i9, g1, g2, e, g3, hv, hR9⟩; exact ⟨_, hv⟩
  · rintro E S1 ⟨-, ⟨-, rfl⟩ | ⟨_, _, rfl⟩⟩
    · exact Or.inr (Or.inr (Or.inr (Or.inr rfl)))
    · exact Or.inr (Or.inl rfl)
  · cases o9 with
    | inr E => exact h9.elim
    | inl v =>
      rcases h9 with ⟨z, h9, rfl⟩ | ⟨E, k, h9, hk9, rfl⟩
      · obtain ⟨i9, g1, g2, e, g3, hv, hR9⟩ := h9
        obtain rfl := zi_inj hv
        obtain rfl := (nI_eq hi (by omega)).1 e
        refine ⟨_, _, rfl, Or.inl ⟨g2, ?_, rfl⟩, J, lk, as, L, T, rfl, hR9⟩
        rcases ho.2.2.2.2.2.2.2.2 i g2 with q | q | q | q <;> rw [q] <;> decide
      · obtain ⟨rfl, ⟨hn, rfl⟩ | ⟨_, hn, rfl⟩⟩ := h9
        · obtain rfl : k = (-2005) := by simpa [esDeed] using hk9
          exact ⟨_, _, rfl, Or.inr ⟨fun q => hn ((hasLs_iff ho hi).mpr q), rfl, rfl⟩, J, lk, as, L, T, rfl, hR⟩
        · exact absurd ho9 hn
theorem DD_23 {l : Launch} {sc : zSQ} (hl0 : l.stackTraces = false) {D : ZD} {x : Nat} {F : Nat → Bool} {S : ZM} (h : lY D x F S) (i y : Nat) (c : Int32) (hi : i < 2 ^ 31) (hy : y ≤ 9999) : zMetL l sc yL_deed (Cond.codeWith yL_deed cL_deed 6 (some .int) [(0, 9, 10, 99), (0, 9, 16, 101), (0, 9, 22, 103), (0, 9, 28, 105), (0, 9, 34, 107)] :: LWl) ({ frames := 48, cells := 5, slots := 42, locals := 1080 } : Room) 5 42 [zr (some x), zi 23, zi (nI i), zi (nI y), zi c] S (DQ (fun z D' => (i < dL D ∧ z = D 60 i ∧ D' = chgD (opLim D i (nI y))) ∨ (¬ i < dL D ∧ z = -2005 ∧ D' = D)) x F S) := by
  refine h.deed ?_
  obtain ⟨hS, -⟩ := h
  have hk := hS.k
  have ho := hS.ok
  obtain ⟨J, lk, as, L, T, rfl, hR⟩ := hS
  refine (L_deed hl0 23 (nI i) (nI y) c (plain_23 hl0 (nI i) (nI y) c hk (C_setLimit hl0 hR (nI i) (nI y)) ?_) ?_ ?_).mono (fun o9 S9 h9 => ?_)
  · rintro v S1 ⟨i9, g1, g2, e, g3, g4, hv, hR9⟩; exact ⟨_, hv⟩
  · rintro v S1 ⟨i9, g1, g2, e, g3, g4, hv, hR9⟩; exact ⟨_, hv⟩
  · rintro E S1 ⟨-, ⟨-, rfl⟩ | ⟨_, _, rfl⟩⟩
    · exact Or.inr (Or.inr (Or.inr (Or.inr rfl)))
    · exact Or.inr (Or.inl rfl)
  · cases o9 with
    | inr E => exact h9.elim
    | inl v =>
      rcases h9 with ⟨z, h9, rfl⟩ | ⟨E, k, h9, hk9, rfl⟩
      · obtain ⟨i9, g1, g2, e, g3, g4, hv, hR9⟩ := h9
        obtain rfl := zi_inj hv
        obtain rfl := (nI_eq hi (by omega)).1 e
        exact ⟨_, _, rfl, Or.inl ⟨g2, rfl, rfl⟩, J, lk, as, L, T, rfl, hR9⟩
      · obtain ⟨rfl, ⟨hn, rfl⟩ | ⟨_, hn, rfl⟩⟩ := h9
        · obtain rfl : k = (-2005) := by simpa [esDeed] using hk9
          exact ⟨_, _, rfl, Or.inr ⟨fun q => hn ((hasLs_iff ho hi).mpr q), rfl, rfl⟩, J, lk, as, L, T, rfl, hR⟩
        · exact absurd ⟨nI_pos' (by omega), (nI_leI (b := 9999) (by omega) (by omega)).mpr hy⟩ hn
