/-! the library behind the law -/
def lS (D : ZD) (x : Nat) (S : ZM) : Prop := ∃ (J : Nat → Int64) (lk : ZL) (as L T : Nat → Nat), L 0 = x ∧ cR D J lk as S L T
theorem lS.k {D : ZD} {x : Nat} {S : ZM} (h : lS D x S) : mK S x = 6 := by
  obtain ⟨J, lk, as, L, T, rfl, h⟩ := h
  exact h.1.1.c
theorem lS.ext {D : ZD} {x : Nat} {S S1 : ZM} (h : lS D x S) (e : ext S S1) : lS D x S1 := by
  obtain ⟨J, lk, as, L, T, e0, h⟩ := h
  exact ⟨J, lk, as, L, T, e0, h.ext e⟩
/-- what the library's numbers keep to -/
def okD (D : ZD) : Prop := wfN D ∧ wfR D ∧ wfO D ∧ acD D ∧ wfK D ∧ wfQ1 D ∧ (∃ n : Nat, D 40 0 = nI n ∧ n ≤ 9999) ∧ (∀ r : Nat, r < dR D → ∃ n : Nat, D 56 r = nI n ∧ 1 ≤ n ∧ n ≤ 15) ∧ ∀ i : Nat, i < dL D → D 59 i = 115 ∨ D 59 i = 114 ∨ D 59 i = 112 ∨ D 59 i = 110
theorem lS.ok {D : ZD} {x : Nat} {S : ZM} (h : lS D x S) : okD D := by
  obtain ⟨J, lk, as, L, T, -, h⟩ := h
  obtain ⟨hX0, hV, hK, hU, hQ, hF⟩ := h
  obtain ⟨hS, hT, hG, hRR, hLL, hA, hday, hpl, hO, hAc⟩ := hX0
  exact ⟨hA.1, hA.2.1, hO, hAc, hF, hQ.1, hQ.2.1, hQ.2.2.2.2.1, hQ.2.2.2.2.2.1.2.2⟩
theorem okD.t {D : ZD} (h : okD D) : dT D ≤ 24 := h.1.1.2
theorem okD.r {D : ZD} (h : okD D) : dR D ≤ 40 := h.1.2.2.1.2
theorem okD.l {D : ZD} (h : okD D) : dL D ≤ 8 := h.1.2.2.2.2
theorem okD.pr {D : ZD} (h : okD D) {t : Nat} (ht : prD D t = true) : t < 24 := Nat.lt_of_lt_of_le (prD_lt ht) h.t
/-- where the rule of a list lies -/
theorem okD.lr {D : ZD} (h : okD D) {l : Nat} (hl : l < dL D) : ix (D 58 l) < dR D := h.2.2.1.lt h.r hl
/-- a rule asks of the kept sets what it asks of those that the lists should have -/
theorem ls_in {D : ZD} (hR : wfR D) (hL : dL D ≤ 8) (hn : dR D ≤ 40) : ∀ (f r l : Nat), r < dR D → r < f → l < 8 → hasB (lsR D f r) (nI l) = true → l < dL D
  | 0, r, _, _, h, _, _ => absurd h (Nat.not_lt_zero r)
  | f + 1, r, l, hr, hrf, hl, hb => by
    rw [lsR] at hb
    by_cases h5 : D 53 r = 5
    · rw [if_pos h5] at hb
      obtain ⟨i, hi, e⟩ := (hR r hr).2.2.1 h5
      rw [e] at hb
      have hb : hasB (bitI i) (nI l) = true := hb
      rw [hasB_bit (by omega) (by omega)] at hb
      have := of_decide_eq_true hb
      omega
    · rw [if_neg h5] at hb
      by_cases h67 : D 53 r = 6 ∨ D 53 r = 7
      · rw [if_pos h67] at hb
        obtain ⟨a, b, ha, hb', e1, e2⟩ := (hR r hr).2.2.2 (by rcases h67 with q | q; exact Or.inl q; exact Or.inr (Or.inl q))
        have i1 : ix (D 54 r) = a := by rw [e1, ix, nI_clamp (by omega)]
        have i2 : ix (D 55 r) = b := by rw [e2, ix, nI_clamp (by omega)]
        rw [hasB_or (by omega), i1, i2, Bool.or_eq_true] at hb
        rcases hb with q | q
        · exact ls_in hR hL hn f a l (by omega) (by omega) hl q
        · exact ls_in hR hL hn f b l (by omega) (by omega) hl q
      · rw [if_neg h67] at hb
        by_cases h8 : D 53 r = 8
        · rw [if_pos h8] at hb
          obtain ⟨a, b, ha, hb', e1, e2⟩ := (hR r hr).2.2.2 (Or.inr (Or.inr h8))
          have i1 : ix (D 54 r) = a := by rw [e1, ix, nI_clamp (by omega)]
          rw [i1] at hb
          exact ls_in hR hL hn f a l (by omega) (by omega) hl hb
        · rw [if_neg h8, hasB_0 (by omega)] at hb; cases hb
theorem okD.kept {D : ZD} (h : okD D) {l : Nat} (hl : l < dL D) : D 61 l = chD D (D 61) l := by
  obtain ⟨hN, hR, hO, hA, hK, -⟩ := id h
  rw [hK.1 l hl, fixD_eq hR h.l h.r hO hA hl]
  refine chD_cong hR h.l h.r hO hl (fun l2 h8 hb => ?_)
  exact (hK.1 l2 (ls_in hR h.l h.r 41 _ l2 (h.lr hl) (by have := h.lr hl; have := h.r; omega) h8 hb)).symm
theorem okD.sub {D : ZD} (h : okD D) (l : Nat) (h8 : l < 8) : subD D (D 61 l) := by
  obtain ⟨hN, hR, hO, hA, hK, -⟩ := id h
  by_cases hl : l < dL D
  · rw [hK.1 l hl]; exact subD_fix D l
  · rw [hK.2 l h8 (by omega)]; exact subD_0 D
theorem sub_cn {D : ZD} {s : Int32} (h : subD D s) : pcB s = cnF (fun t => prD D t && hasB s (nI t)) 24 := by
  have key : ∀ n : Nat, n ≤ 24 → ctB s n = cnF (fun t => prD D t && hasB s (nI t)) n := by
    intro n
    induction n with
    | zero => intro _; rfl
    | succ n ih =>
      intro hn
      rw [ctB, cnF, ih (by omega)]
      cases hb : hasB s (nI n) with
      | false => simp
      | true => rw [(h n (by omega) hb).2]; simp
  have h1 : ∀ k : Nat, k ≤ 8 → ctB s (24 + k) = ctB s 24 := by
    intro k
    induction k with
    | zero => intro _; rfl
    | succ k ih =>
      intro hk
      rw [show 24 + (k + 1) = (24 + k) + 1 by omega, ctB, ih (by omega)]
      cases hb : hasB s (nI (24 + k)) with
      | false => rfl
      | true => have := (h (24 + k) (by omega) hb).1; omega
  show ctB s 32 = _
  rw [show (32 : Nat) = 24 + 8 from rfl, h1 8 (by omega), key 24 (by omega)]
theorem mt_has {D : ZD} {K : Nat → Int32} {r t : Nat} (ht : t < 24) : hasB (mtD D K r) (nI t) = (prD D t && ev D K r t) := by
  rw [mtD, hasB_sF (by omega) (by omega)]
  simp [ht]
/-- THE LIST: a row of its matches in its order of choice says all that is asked of it -/
theorem okD.list {D : ZD} (h : okD D) {i : Nat} (hi : i < dL D) {l0 : List Nat} (hs : l0.Pairwise (ltP (plD D (D 59 i)))) (hm : ∀ t, t ∈ l0 ↔ t < 24 ∧ prD D t = true ∧ ev D (D 61) (ix (D 58 i)) t = true) :
    (pcB (mtD D (D 61) (ix (D 58 i))) = l0.length) ∧
    (∀ t, t < 24 → (hasB (D 61 i) (nI t) = true ↔ t ∈ grL (D 42) (D 60 i) l0 0)) ∧
    (pcB (D 61 i) = (grL (D 42) (D 60 i) l0 0).length) ∧
    (∀ k, k < (grL (D 42) (D 60 i) l0 0).length → frD D (D 59 i) (lfD D (D 59 i) (D 61 i) k) = nI ((grL (D 42) (D 60 i) l0 0).getD k 0)) ∧
    (smF (fun t => prD D t && hasB (D 61 i) (nI t)) (fun t => D 42 t) 24 = grS (D 42) (D 60 i) l0 0) ∧
    (prN D (D 61 i) 24 = prL D (grL (D 42) (D 60 i) l0 0)) ∧
    (cnF (fun t => prD D t && hasB (D 61 i) (nI t)) 24 = (grL (D 42) (D 60 i) l0 0).length) := by
  have hM : ∀ t, t ∈ selL (prD D) (plD D (D 59 i)) 24 (mtD D (D 61) (ix (D 58 i))) ↔ t < 24 ∧ prD D t = true ∧ ev D (D 61) (ix (D 58 i)) t = true := fun t => by
    rw [selL_mem (cnG_le _ 24)]
    constructor
    · rintro ⟨h1, h2, h3⟩
      rw [mt_has h1, h2, Bool.true_and] at h3
      exact ⟨h1, h2, h3⟩
    · rintro ⟨h1, h2, h3⟩
      exact ⟨h1, h2, by rw [mt_has h1, h2, h3]; rfl⟩
  have e0 : l0 = selL (prD D) (plD D (D 59 i)) 24 (mtD D (D 61) (ix (D 58 i))) := srt_one hs selL_srt (fun t => by rw [hm, hM])
  obtain ⟨G, hG⟩ : ∃ G, G = grL (D 42) (D 60 i) l0 0 := ⟨_, rfl⟩
  have hGs : G.Pairwise (ltP (plD D (D 59 i))) := by rw [hG]; exact hs.sublist (grL_sub _ _ l0 0)
  have hG24 : ∀ t ∈ G, t < 24 ∧ prD D t = true := fun t ht => by
    rw [hG] at ht
    obtain ⟨h1, h2, -⟩ := (hm t).mp ((grL_sub _ _ l0 0).subset ht)
    exact ⟨h1, h2⟩
  have ek : D 61 i = tkL 0 G := by
    rw [h.kept hi, chD, tkO, chL_gr, ← e0, hG]
  have hb : ∀ t, t < 32 → (hasB (D 61 i) (nI t) = true ↔ t ∈ G) := fun t ht => by
    rw [ek, hasB_tkL ht (fun j hj => by have := (hG24 j hj).1; omega), hasB_0 ht]
    simp
  have hGm : ∀ t, t ∈ G ↔ t < 24 ∧ (prD D t && hasB (D 61 i) (nI t)) = true := fun t => by
    constructor
    · intro ht
      obtain ⟨h1, h2⟩ := hG24 t ht
      exact ⟨h1, by rw [h2, (hb t (by omega)).mpr ht]; rfl⟩
    · rintro ⟨h1, h2⟩
      rw [Bool.and_eq_true] at h2
      exact (hb t (by omega)).mp h2.2
  have hGd := srt_nodup hGs
  have hsub := h.sub i (by have := h.l; omega)
  have eG : selL (prD D) (plD D (D 59 i)) 24 (D 61 i) = G := srt_one selL_srt hGs (fun t => by
    rw [selL_mem (cnG_le _ 24), hGm t, Bool.and_eq_true])
  rw [← hG]
  refine ⟨?_, fun t ht => hb t (by omega), ?_, ?_, ?_, ?_, ?_⟩
  · rw [sub_cn (subD_mt D (D 61) _)]
    refine (len_cn (srt_nodup hs) (fun t => ?_)).symm
    rw [hm t]
    constructor
    · rintro ⟨h1, h2, h3⟩
      exact ⟨h1, by rw [mt_has h1, h2, h3]; rfl⟩
    · rintro ⟨h1, h2⟩
      rw [mt_has h1] at h2
      simp only [Bool.and_eq_true] at h2
      exact ⟨h1, h2.1, h2.2.2⟩
  · rw [sub_cn hsub]; exact (len_cn hGd hGm).symm
  · have key : ∀ k : Nat, k ≤ 24 → G.drop k = selL (prD D) (plD D (D 59 i)) (24 - k) (lfD D (D 59 i) (D 61 i) k) := by
      intro k
      induction k with
      | zero => intro _; rw [List.drop_zero]; exact eG.symm
      | succ k ih =>
        intro hk
        have h1 := ih (by omega)
        rw [show 24 - k = (24 - (k + 1)) + 1 by omega] at h1
        rw [← List.tail_drop, h1]
        cases hf : fF (prD D) (plD D (D 59 i)) (lfD D (D 59 i) (D 61 i) k) 24 with
        | none =>
          rw [selL_none hf, lfD, frD, hf]
          show [] = _
          have hz : cnF (fun t => prD D t && hasB (lfD D (D 59 i) (D 61 i) k) (nI t)) 24 = 0 := by
            cases hc : cnF (fun t => prD D t && hasB (lfD D (D 59 i) (D 61 i) k) (nI t)) 24 with
            | zero => rfl
            | succ c =>
              exfalso
              have hz : ∀ n, n ≤ 24 → cnF (fun t => prD D t && hasB (lfD D (D 59 i) (D 61 i) k) (nI t)) n = 0 := by
                intro n
                induction n with
                | zero => intro _; rfl
                | succ n ihn =>
                  intro hn
                  rw [cnF, ihn (by omega)]
                  cases hp : prD D n with
                  | false => simp
                  | true => rw [fF_none hf n (by omega) hp]; simp
              rw [hz 24 (by omega)] at hc; cases hc
          symm
          refine List.eq_nil_iff_forall_not_mem.mpr fun a ha => ?_
          obtain ⟨a1, a2, a3⟩ := selL_in ha
          have a4 := fF_none hf a a1 a2
          have a5 : hasB (lfD D (D 59 i) (D 61 i) k &&& (1 <<< ((Option.elim none 0 nI : Int32) &&& 31) ^^^ (-1))) (nI a) = true := a3
          rw [hasB_and (by omega), a4] at a5
          cases a5
        | some j =>
          rw [selL_some hf, lfD, frD, hf]
          rfl
    intro k hk
    have hlen : G.length ≤ 24 := by
      rw [len_cn hGd hGm]; exact cnG_le _ 24
    have h1 := key k (by omega)
    rw [List.drop_eq_getElem_cons hk, show 24 - k = (24 - (k + 1)) + 1 by omega] at h1
    cases hf : fF (prD D) (plD D (D 59 i)) (lfD D (D 59 i) (D 61 i) k) 24 with
    | none => rw [selL_none hf] at h1; cases h1
    | some j =>
      rw [selL_some hf] at h1
      have h2 := (List.cons.inj h1).1
      rw [frD, hf, List.getD_eq_getElem?_getD, List.getElem?_eq_getElem hk]
      show nI j = nI (G[k])
      rw [h2]
  · rw [grS_sum, ← hG, Int32.zero_add]
    exact (sum_sm hGd hGm).symm
  · exact (prL_prN hGd hGm).symm
  · exact (len_cn hGd hGm).symm
/-! the product, as the class takes it and as it is -/
theorem lg_gt {n : Nat} (h : n < 2 ^ 62) : (lg_cmp (lN n) 2147483647 ≤ 0 ↔ n ≤ 2147483647) := by
  have e1 : (lN n).toInt = (n : Int) := by
    show (Int64.ofNat n).toInt = n
    exact Int64.toInt_ofNat_of_lt (by omega)
  have e2 : (2147483647 : Int64).toInt = 2147483647 := by decide
  rw [lg_cmp_le, Int64.le_iff_toInt_le, e1, e2]
  omega
theorem mx_le {D : ZD} (h : okD D) {s : Int32} : ∀ n : Nat, n ≤ 24 → prN D s n ≤ 2147483647 → mxD D s n = lN (prN D s n)
  | 0, _, _ => by show (1 : Int64) = lN 1; decide
  | n + 1, hn, hp => by
    have hp0 : prN D s n ≤ 2147483647 := Nat.le_trans (prN_mono D s (by omega)) hp
    have ih := mx_le h (s := s) n (by omega) hp0
    rw [prN_succ] at hp ⊢
    simp only [mxD]
    by_cases hc : prD D n = true ∧ hasB s (nI n) = true
    · have hb : (prD D n && hasB s (nI n)) = true := by rw [hc.1, hc.2]; rfl
      rw [if_pos hb] at hp ⊢
      rw [if_pos hc, ih]
      obtain ⟨k, ek, hk⟩ := ((h.2.2.2.2.2.1 n (by omega)).1 (prD_lt hc.1)).2.2
      rw [ek, ← nI_succ, nI_l (by omega), lN_mul, show ix (nI k) = k from nI_clamp (by omega)]
    · have hb : ¬ (prD D n && hasB s (nI n)) = true := fun q => hc (by rw [Bool.and_eq_true] at q; exact q)
      rw [if_neg hb]
      rw [if_neg hc, ih]
theorem mx_ok {D : ZD} (h : okD D) {s : Int32} (hp : prN D s 24 ≤ 2147483647) : ∀ q : Nat, q ≤ 24 → lg_cmp (mxD D s q) 2147483647 ≤ 0 := fun q hq => by
  have h1 := Nat.le_trans (prN_mono D s hq) hp
  rw [mx_le h q hq h1]
  exact (lg_gt (by omega)).mpr h1
theorem mx_no {D : ZD} (h : okD D) {s : Int32} : ∀ n : Nat, n ≤ 24 → 2147483647 < prN D s n → ∃ q : Nat, q ≤ 24 ∧ ¬ lg_cmp (mxD D s q) 2147483647 ≤ 0
  | 0, _, hp => absurd hp (by show ¬ 2147483647 < 1; omega)
  | n + 1, hn, hp => by
    by_cases h0 : 2147483647 < prN D s n
    · exact mx_no h n (by omega) h0
    · refine ⟨n + 1, hn, ?_⟩
      rw [prN_succ] at hp
      by_cases hc : prD D n = true ∧ hasB s (nI n) = true
      · have hb : (prD D n && hasB s (nI n)) = true := by rw [hc.1, hc.2]; rfl
        rw [if_pos hb] at hp
        simp only [mxD]
        rw [if_pos hc, mx_le h n (by omega) (by omega)]
        obtain ⟨k, ek, hk⟩ := ((h.2.2.2.2.2.1 n (by omega)).1 (prD_lt hc.1)).2.2
        rw [ek, show ix (nI k) = k from nI_clamp (by omega)] at hp
        rw [ek, ← nI_succ, nI_l (by omega), lN_mul, lg_gt (Nat.lt_of_le_of_lt (Nat.mul_le_mul (show prN D s n ≤ 2147483647 by omega) (show k + 1 ≤ 1000 by omega)) (by decide))]
        omega
      · have hb : ¬ (prD D n && hasB s (nI n)) = true := fun q => hc (by rw [Bool.and_eq_true] at q; exact q)
        rw [if_neg hb] at hp
        exact absurd hp h0
