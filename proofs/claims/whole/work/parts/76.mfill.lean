/-! the reference: fill -/
theorem tkL_app (j : Nat) : ∀ (tk : List Nat) (acc : Int32), tkL acc (tk ++ [j]) = tkL acc tk ||| bitI j
  | [], _ => rfl
  | a :: tk, acc => tkL_app j tk (acc ||| bitI a)
/-- list i as far as the tracks tk are taken -/
def fl2 (E2 E : ZD) (i : Nat) (tk : List Nat) : Prop := (∀ l : Nat, l ≠ i → same E2 E l) ∧ E 65 i = E2 65 i ∧ E 61 i = tkL 0 tk ∧ E 64 i = nI tk.length ∧ ∀ j x : Nat, tk[j]? = some x → E 63 (24 * i + j) = nI x
theorem fl2.start {E : ZD} {i a b : Nat} (ha : a = i) (hb : b = i) : fl2 E (dS (dS E 61 (up1 (E 61) a 0)) 64 (up1 (dS E 61 (up1 (E 61) a 0) 64) b 0)) i [] := by
  subst ha
  subst hb
  refine ⟨fun l hl => ⟨?_, ?_, ?_, fun j _ => ?_⟩, ?_, ?_, ?_, fun j x e => by simp at e⟩
  · rw [dS_ne (by decide), dS_ne (by decide)]
  · rw [dS_ne (by decide), dS_self, up1_ne hl]
  · rw [dS_self, up1_ne hl, dS_ne (by decide)]
  · rw [dS_ne (by decide), dS_ne (by decide)]
  · rw [dS_ne (by decide), dS_ne (by decide)]
  · rw [dS_ne (by decide), dS_self, up1_self]; rfl
  · rw [dS_self, up1_self]; rfl
theorem fl2.add {E2 E : ZD} {i j a b c : Nat} {v1 v2 v3 : Int32} {tk : List Nat} (h : fl2 E2 E i tk) (hl : tk.length < 24) (ha : a = i) (hb : b = 24 * i + tk.length) (hc : c = i) (h1 : v1 = E 61 i ||| bitI j) (h2 : v2 = nI j) (h3 : v3 = nI tk.length + 1) : fl2 E2 (dS (dS (dS E 61 (up1 (E 61) a v1)) 63 (up1 (dS E 61 (up1 (E 61) a v1) 63) b v2)) 64 (up1 (dS (dS E 61 (up1 (E 61) a v1)) 63 (up1 (dS E 61 (up1 (E 61) a v1) 63) b v2) 64) c v3)) i (tk ++ [j]) := by
  subst ha hb hc h1 h2 h3
  obtain ⟨g1, g2, g3, g4, g5⟩ := h
  refine ⟨fun l hl' => ?_, ?_, ?_, ?_, fun k x e => ?_⟩
  · obtain ⟨s1, s2, s3, s4⟩ := g1 l hl'
    refine ⟨?_, ?_, ?_, fun k hk => ?_⟩
    · rw [dS_ne (by decide), dS_ne (by decide), dS_ne (by decide)]; exact s1
    · rw [dS_ne (by decide), dS_ne (by decide), dS_self, up1_ne hl']; exact s2
    · rw [dS_self, up1_ne hl', dS_ne (by decide), dS_ne (by decide)]; exact s3
    · rw [dS_ne (by decide), dS_self, up1_ne (by omega), dS_ne (by decide)]; exact s4 k hk
  · rw [dS_ne (by decide), dS_ne (by decide), dS_ne (by decide)]; exact g2
  · rw [dS_ne (by decide), dS_ne (by decide), dS_self, up1_self, tkL_app, g3]
  · rw [dS_self, up1_self, List.length_append, ← nI_succ]; rfl
  · rw [dS_ne (by decide), dS_self]
    by_cases q : k = tk.length
    · subst q
      rw [up1_self]
      rw [List.getElem?_append_right (Nat.le_refl _), Nat.sub_self] at e
      have e : some j = some x := e
      cases e; rfl
    · have hk : k < tk.length := by
        have := (List.getElem?_eq_some_iff.mp e).1
        rw [List.length_append] at this
        have : k < tk.length + 1 := this
        omega
      rw [up1_ne (by omega), dS_ne (by decide)]
      rw [List.getElem?_append_left hk] at e
      exact g5 k x e
theorem fil_end {D E0 E1 E2 E : ZD} {rk : Nat → Nat} {i : Nat} (hi : i < dL D) (h0 : E0 65 i = 0) (hs01 : ∀ l : Nat, l ≠ i → same E0 E1 l) (h1 : E1 65 i = 1) (hs12 : stp D rk (rk i) E1 E2) (h2 : fl2 E2 E i (tkD D i)) (hfix : fixD D i = chD D (fixD D) i) : stp D rk (rk i + 1) E0 E ∧ ¬ E 65 i = 0 ∧ good D E i := by
  obtain ⟨g1, g2, g3, g4, g5⟩ := h2
  have e65 : E 65 i = 1 := by
    rw [g2]
    rcases hs12 i with a | ⟨-, a, -⟩
    · rw [a.1]; exact h1
    · omega
  have hne : ¬ E 65 i = 0 := by rw [e65]; decide
  have hg : good D E i := ⟨by rw [g3, hfix]; rfl, g4, g5⟩
  refine ⟨fun l => ?_, hne, hg⟩
  by_cases q : l = i
  · subst q; exact Or.inr ⟨hi, by omega, h0, hne, hg⟩
  · rcases hs12 l with a | ⟨a1, a2, a3, a4, a5⟩
    · exact Or.inl (((hs01 l q).trans a).trans (g1 l q))
    · exact Or.inr ⟨a1, by omega, by rw [← (hs01 l q).1]; exact a3, by rw [(g1 l q).1]; exact a4, a5.same (g1 l q)⟩
theorem sF_all {p : Nat → Bool} {n : Nat} (hn : n ≤ 24) (h : ∀ t : Nat, n ≤ t → p t = false) : sF p n = sF p 24 := by
  have : ∀ m : Nat, sF p (n + m) = sF p n := by
    intro m
    induction m with
    | zero => rfl
    | succ m ih => rw [← Nat.add_assoc, sF_no (h _ (by omega))]; exact ih
  have := this (24 - n)
  rw [show n + (24 - n) = 24 by omega] at this
  exact this.symm
theorem pr_out {D : ZD} {t : Nat} (h : dT D ≤ t) : prD D t = false := by
  cases hp : prD D t with
  | false => rfl
  | true => have := prD_lt hp; omega
theorem fF_no {pr : Nat → Bool} {pl : Nat → Int32} {s : Int32} {i : Nat} (h : ¬ (pr i = true ∧ hasB s (nI i) = true ∧ ∀ j : Nat, fF pr pl s i = some j → pl i < pl j)) : fF pr pl s (i + 1) = fF pr pl s i := if_neg h
theorem fF_yes {pr : Nat → Bool} {pl : Nat → Int32} {s : Int32} {i : Nat} (h : pr i = true ∧ hasB s (nI i) = true ∧ ∀ j : Nat, fF pr pl s i = some j → pl i < pl j) : fF pr pl s (i + 1) = some i := if_pos h
theorem fF_all {D : ZD} {pl : Nat → Int32} {s : Int32} (h : dT D ≤ 24) : fF (prD D) pl s (dT D) = fF (prD D) pl s 24 := by
  have : ∀ m : Nat, fF (prD D) pl s (dT D + m) = fF (prD D) pl s (dT D) := by
    intro m
    induction m with
    | zero => rfl
    | succ m ih => rw [← Nat.add_assoc, fF_no (fun q => by rw [pr_out (by omega)] at q; cases q.1)]; exact ih
  have := this (24 - dT D)
  rw [show dT D + (24 - dT D) = 24 by omega] at this
  exact this.symm
/-- the number of a track, -1 for none -/
def fcI (o : Option Nat) : Int32 := match o with
  | none => -1
  | some j => nI j
theorem fcI_m1 {o : Option Nat} (h : ∀ j : Nat, o = some j → j < 2 ^ 31) : fcI o = -1 ↔ o = none := by
  cases o with
  | none => exact ⟨fun _ => rfl, fun _ => rfl⟩
  | some j =>
    refine ⟨fun q => ?_, fun q => by cases q⟩
    have q : nI j = -1 := q
    have w := nI_pos (h j rfl)
    rw [q] at w
    exact absurd (by decide) w
theorem pcB_0 : pcB 0 = 0 := ctB_none (fun i hi => hasB_0 hi)
theorem pcB_z {s : Int32} (h : pcB s = 0) : s = 0 := hasB_ext fun i hi => by rw [ctB_zero h i hi, hasB_0 hi]

set_option maxRecDepth 100000 in
set_option maxHeartbeats 4000000 in
theorem M_fillAt {l : Launch} (hl0 : l.stackTraces = false) {D : ZD} {J : Nat → Int64} {M : Nat} {r rk : Nat → Nat} (hw : wfR D) (hN : wfN D) (hO : wfO D) (hA : acD D) {i : Nat} (hi : i < dL D) (hF : ∀ l2 : Nat, l2 < dL D → rk l2 < rk i → filP l D J M r rk l2) (hls : ∀ j : Nat, j < 8 → hasB (lsD D (ix (D 58 i))) (nI j) = true → j < dL D ∧ rk j < rk i) : filP l D J M r rk i := by
  have h40 : dR D ≤ 40 := hN.2.2.1.2
  have h16 : dG D ≤ 16 := hN.2.1.2
  have h8 : dL D ≤ 8 := hN.2.2.2.2
  have h24 : dT D ≤ 24 := hN.1.2
  have h41 : D 41 0 = nI (dT D) := hN.1.1
  have hfix := fixD_eq hw h8 h40 hO hA hi
  intro E S hM hE hI
  refine zMet.of' [some (zr (some M)), some (zi (nI i)), none, none, none, none, none] hl0 (by decide) rfl (Nat.le_of_ble_eq_true rfl) rfl ?_
  intro X C N hR hN0 hX F
  subst hX
  refine z_aload_n C rfl dX5_fill_0 ?_
  refine zg5_isFilled C (fun w h => List.mem_cons_of_mem _ (um_wsX50 w h)) hM.1 (List.mem_cons_of_mem _ wm26) dX5_fill_1 ?_
  refine z_ref (hM.q 65 rfl) ?_
  refine z_iload_n C rfl dX5_fill_4 ?_
  refine z_zaload C (hM.k 65 rfl) (hM.b' 65 rfl (⟨i, rfl, by show i < 8; omega⟩) (by decide)) dX5_fill_5 ?_
  refine z_int (hM.t 65 rfl (by decide) _) ?_
  refine z_int (x' := E 65 i) (congrArg _ (nI_clamp (by omega))) ?_
  refine z_if_eq 10 C dX5_fill_6 (by decide) (fun c6 => ?_) (fun c6 => ?_)
  · have h65 : E 65 i = 0 := c6
    refine z_aload_n C rfl dX5_fill_10 ?_
    refine zg5_isFilled C (fun w h => List.mem_cons_of_mem _ (um_wsX50 w h)) hM.1 (List.mem_cons_of_mem _ wm26) dX5_fill_11 ?_
    refine z_ref (hM.q 65 rfl) ?_
    refine z_iload_n C rfl dX5_fill_14 ?_
    refine z_iconst 1 (by decide) C dX5_fill_15 ?_
    refine z_zastore C (hM.k 65 rfl) (hM.b' 65 rfl (⟨i, rfl, by show i < 8; omega⟩) (by decide)) dX5_fill_16 ?_
    refine z_memM (hM.eI 65 rfl (by decide) _ _) (fun S16 hM => ?_)
    obtain ⟨E1, hE1d⟩ : ∃ z : ZD, z = dS E 65 (up1 (E 65) (nI i).toNatClampNeg (vp_nar .boolean 1)) := ⟨_, rfl⟩
    rw [← hE1d] at hM
    rw [show (nI i).toNatClampNeg = i from nI_clamp (by omega)] at hE1d
    have e65 : E1 65 i = 1 := by rw [hE1d, dS_self, up1_self]; decide
    have hs01 : ∀ l : Nat, l ≠ i → same E E1 l := fun l hl => by
      rw [hE1d]
      exact ⟨by rw [dS_self, up1_ne hl], by rw [dS_ne (by decide)], by rw [dS_ne (by decide)], fun _ _ => by rw [dS_ne (by decide)]⟩
    have hE1 : eqF E1 D := by rw [hE1d]; exact hE.dS rfl _
    have hI1 : inv D rk (rk i) E1 := fun l hl hr he => by
      have hne : l ≠ i := by rintro rfl; omega
      have sm := hs01 l hne
      exact (hI l hl (by omega) (by rw [← sm.1]; exact he)).same sm
    have after : ∀ (S2 : ZM) (E2 : ZD), mR E2 J S2 M r → eqF E2 D → stp D rk (rk i) E1 E2 → zW X 7 0 0 S2 54 [some (zr (some M)), some (zi (nI i)), some (zi (mtD D (fixD D) (ix (D 58 i)))), some (zi (nI (dT D))), none, none, none] [] := by
      intro S2 E2 hM hE2 hs2
      have loop2 : ∀ (f : Nat) (left s : Int32) (tk : List Nat) (E3 : ZD) (S3 : ZM) (w4 w5 w6 : Option ZV), pcB left ≤ f → subD D left → tk.length + f ≤ 24 → tk ++ chL (prD D) (plD D (D 59 i)) (fun j => D 42 j) (D 60 i) f left s = tkD D i → mR E3 J S3 M r → eqF E3 D → fl2 E2 E3 i tk → zW X 7 0 0 S3 70 [some (zr (some M)), some (zi (nI i)), some (zi (left)), some (zi (s)), w4, w5, w6] [] := by
        intro f
        induction f with
        | zero =>
          intro left s tk E3 S3 w4 w5 w6 hp hsub hlen hres hM hE3 hf2
          refine z_iload_n C rfl dX5_fill_70 ?_
          refine z_if_eq 239 C dX5_fill_71 (by decide) (fun c71 => ?_) (fun c71 => ?_)
          · refine z_return C F (Nat.le_of_ble_eq_true rfl) (Nat.le_of_ble_eq_true rfl) dX5_fill_239 ?_
            have htk : tk = tkD D i := by rw [← hres, chL_none (first_zero (by rw [c71]; exact pcB_0)), List.append_nil]
            rw [htk] at hf2
            obtain ⟨k1, k2, k3⟩ := fil_end hi h65 hs01 e65 hs2 hf2 hfix
            exact ⟨rfl, E3, hM, hE3, k1, k2, k3⟩
          · exact absurd (pcB_z (Nat.le_zero.mp hp)) c71
        | succ f ih =>
          intro left s tk E3 S3 w4 w5 w6 hp hsub hlen hres hM hE3 hf2
          refine z_iload_n C rfl dX5_fill_70 ?_
          refine z_if_eq 239 C dX5_fill_71 (by decide) (fun c71 => ?_) (fun c71 => ?_)
          · refine z_return C F (Nat.le_of_ble_eq_true rfl) (Nat.le_of_ble_eq_true rfl) dX5_fill_239 ?_
            have htk : tk = tkD D i := by rw [← hres, chL_none (first_zero (by rw [c71]; exact pcB_0)), List.append_nil]
            rw [htk] at hf2
            obtain ⟨k1, k2, k3⟩ := fil_end hi h65 hs01 e65 hs2 hf2 hfix
            exact ⟨rfl, E3, hM, hE3, k1, k2, k3⟩
          · have hpos : 0 < pcB left := by
              rcases Nat.eq_zero_or_pos (pcB left) with q | q
              · exact absurd (pcB_z q) c71
              · exact q
            obtain ⟨j, hj, hj24, hjp, hjb⟩ := first_some (ord := D 59 i) hsub hpos
            have hout := pcB_out (show j < 32 by omega) hjb
            have after2 : ∀ w6 : Option ZV, zW X 7 0 0 S3 149 [some (zr (some M)), some (zi (nI i)), some (zi (left)), some (zi (s)), some (zi (nI j)), some (zi (nI (dT D))), w6] [] := by
              intro w6
              refine z_iload_n C rfl dX5_fill_149 ?_
              refine z_iconst 1 (by decide) C dX5_fill_150 ?_
              refine z_iload C rfl dX5_fill_151 ?_
              refine z_ishl C dX5_fill_153 ?_
              refine z_iconst (-1) (by decide) C dX5_fill_154 ?_
              refine z_ixor C dX5_fill_155 ?_
              refine z_iand C dX5_fill_156 ?_
              refine z_istore_n [_, _, _, _, _, _, _] C (by decide) rfl dX5_fill_157 ?_
              refine z_aload_n C rfl dX5_fill_158 ?_
              refine zg5_limit C (fun w h => List.mem_cons_of_mem _ (um_wsX50 w h)) hM.1 (List.mem_cons_of_mem _ wm21) dX5_fill_159 ?_
              refine z_ref (hM.q 60 rfl) ?_
              refine z_iload_n C rfl dX5_fill_162 ?_
              refine z_iaload C (hM.k 60 rfl) (hM.b' 60 rfl (⟨i, rfl, by show i < 8; omega⟩) (by decide)) dX5_fill_163 ?_
              refine z_int (hM.t 60 rfl (by decide) _) ?_
              refine z_int (x' := D 60 i) ((congrFun (hE3 60 rfl) _).trans (congrArg _ (nI_clamp (by omega)))) ?_
              refine z_if_eq 185 C dX5_fill_164 (by decide) (fun c164 => ?_) (fun c164 => ?_)
              · refine z_iload_n C rfl dX5_fill_185 ?_
                refine z_aload_n C rfl dX5_fill_186 ?_
                refine zg5_length C (fun w h => List.mem_cons_of_mem _ (um_wsX50 w h)) hM.1 (List.mem_cons_of_mem _ wm4) dX5_fill_187 ?_
                refine z_ref (hM.q 42 rfl) ?_
                refine z_iload C rfl dX5_fill_190 ?_
                refine z_iaload C (hM.k 42 rfl) (hM.b' 42 rfl (⟨j, rfl, hj24⟩) (by decide)) dX5_fill_192 ?_
                refine z_int (hM.t 42 rfl (by decide) _) ?_
                refine z_int (x' := D 42 j) ((congrFun (hE3 42 rfl) _).trans (congrArg _ (nI_clamp (by omega)))) ?_
                refine z_iadd C dX5_fill_193 ?_
                refine z_istore_n [_, _, _, _, _, _, _] C (by decide) rfl dX5_fill_194 ?_
                refine z_aload_n C rfl dX5_fill_195 ?_
                refine zg5_kept C (fun w h => List.mem_cons_of_mem _ (um_wsX50 w h)) hM.1 (List.mem_cons_of_mem _ wm22) dX5_fill_196 ?_
                refine z_ref (hM.q 61 rfl) ?_
                refine z_iload_n C rfl dX5_fill_199 ?_
                refine z_dup2 rfl rfl C dX5_fill_200 ?_
                refine z_iaload C (hM.k 61 rfl) (hM.b' 61 rfl (⟨i, rfl, by show i < 8; omega⟩) (by decide)) dX5_fill_201 ?_
                refine z_int (hM.t 61 rfl (by decide) _) ?_
                refine z_int (x' := E3 61 i) (congrArg _ (nI_clamp (by omega))) ?_
                refine z_iconst 1 (by decide) C dX5_fill_202 ?_
                refine z_iload C rfl dX5_fill_203 ?_
                refine z_ishl C dX5_fill_205 ?_
                refine z_ior C dX5_fill_206 ?_
                refine z_iastore C (hM.k 61 rfl) (hM.b' 61 rfl (⟨i, rfl, by show i < 8; omega⟩) (by decide)) dX5_fill_207 ?_
                refine z_memM (hM.eI 61 rfl (by decide) _ _) (fun S207 hM => ?_)
                refine z_aload_n C rfl dX5_fill_208 ?_
                refine zg5_ranked C (fun w h => List.mem_cons_of_mem _ (um_wsX50 w h)) hM.1 (List.mem_cons_of_mem _ wm24) dX5_fill_209 ?_
                refine z_ref (hM.q 63 rfl) ?_
                refine z_bipush 24 (by decide) C dX5_fill_212 ?_
                refine z_iload_n C rfl dX5_fill_214 ?_
                refine z_imul C dX5_fill_215 ?_
                refine z_aload_n C rfl dX5_fill_216 ?_
                refine zg5_many C (fun w h => List.mem_cons_of_mem _ (um_wsX50 w h)) hM.1 (List.mem_cons_of_mem _ wm25) dX5_fill_217 ?_
                refine z_ref (hM.q 64 rfl) ?_
                refine z_iload_n C rfl dX5_fill_220 ?_
                refine z_iaload C (hM.k 64 rfl) (hM.b' 64 rfl (⟨i, rfl, by show i < 8; omega⟩) (by decide)) dX5_fill_221 ?_
                refine z_int (hM.t 64 rfl (by decide) _) ?_
                refine z_int (x' := nI tk.length) (by rw [dS_ne (by decide), nI_clamp (by omega)]; exact hf2.2.2.2.1) ?_
                refine z_iadd C dX5_fill_222 ?_
                have hix : (24 : Int32) * nI i + nI tk.length = nI (24 * i + tk.length) := by rw [show (24 : Int32) * nI i = nI (24 * i) from pk_mul 24 i, nI_add]
                refine z_iload C rfl dX5_fill_223 ?_
                refine z_iastore C (hM.k 63 rfl) (hM.b' 63 rfl (⟨24 * i + tk.length, hix, by show _ < 192; omega⟩) (by decide)) dX5_fill_225 ?_
                refine z_memM (hM.eI 63 rfl (by decide) _ _) (fun S225 hM => ?_)
                refine z_aload_n C rfl dX5_fill_226 ?_
                refine zg5_many C (fun w h => List.mem_cons_of_mem _ (um_wsX50 w h)) hM.1 (List.mem_cons_of_mem _ wm25) dX5_fill_227 ?_
                refine z_ref (hM.q 64 rfl) ?_
                refine z_iload_n C rfl dX5_fill_230 ?_
                refine z_dup2 rfl rfl C dX5_fill_231 ?_
                refine z_iaload C (hM.k 64 rfl) (hM.b' 64 rfl (⟨i, rfl, by show i < 8; omega⟩) (by decide)) dX5_fill_232 ?_
                refine z_int (hM.t 64 rfl (by decide) _) ?_
                refine z_int (x' := nI tk.length) (by rw [dS_ne (by decide), dS_ne (by decide), nI_clamp (by omega)]; exact hf2.2.2.2.1) ?_
                refine z_iconst 1 (by decide) C dX5_fill_233 ?_
                refine z_iadd C dX5_fill_234 ?_
                refine z_iastore C (hM.k 64 rfl) (hM.b' 64 rfl (⟨i, rfl, by show i < 8; omega⟩) (by decide)) dX5_fill_235 ?_
                refine z_memM (hM.eI 64 rfl (by decide) _ _) (fun S235 hM => ?_)
                refine z_goto 70 C dX5_fill_236 (by decide) ?_
                have q := ih (outB left j) (s + D 42 j) (tk ++ [j]) _ _ (some (zi (nI j))) (some (zi (nI (dT D)))) w6 (by omega) (subD_out (by omega) hsub) (by rw [List.length_append]; show tk.length + 1 + f ≤ 24; omega) (by rw [← hres, chL_yes hj (Or.inl c164), List.append_assoc]; rfl) hM (((hE3.dS rfl _).dS rfl _).dS rfl _) (hf2.add (j := j) (by omega) (nI_clamp (by omega)) (by rw [hix]; exact nI_clamp (by omega)) (nI_clamp (by omega)) rfl rfl rfl)
                exact q
              · refine z_iload_n C rfl dX5_fill_167 ?_
                refine z_aload_n C rfl dX5_fill_168 ?_
                refine zg5_length C (fun w h => List.mem_cons_of_mem _ (um_wsX50 w h)) hM.1 (List.mem_cons_of_mem _ wm4) dX5_fill_169 ?_
                refine z_ref (hM.q 42 rfl) ?_
                refine z_iload C rfl dX5_fill_172 ?_
                refine z_iaload C (hM.k 42 rfl) (hM.b' 42 rfl (⟨j, rfl, hj24⟩) (by decide)) dX5_fill_174 ?_
                refine z_int (hM.t 42 rfl (by decide) _) ?_
                refine z_int (x' := D 42 j) ((congrFun (hE3 42 rfl) _).trans (congrArg _ (nI_clamp (by omega)))) ?_
                refine z_iadd C dX5_fill_175 ?_
                refine z_aload_n C rfl dX5_fill_176 ?_
                refine zg5_limit C (fun w h => List.mem_cons_of_mem _ (um_wsX50 w h)) hM.1 (List.mem_cons_of_mem _ wm21) dX5_fill_177 ?_
                refine z_ref (hM.q 60 rfl) ?_
                refine z_iload_n C rfl dX5_fill_180 ?_
                refine z_iaload C (hM.k 60 rfl) (hM.b' 60 rfl (⟨i, rfl, by show i < 8; omega⟩) (by decide)) dX5_fill_181 ?_
                refine z_int (hM.t 60 rfl (by decide) _) ?_
                refine z_int (x' := D 60 i) ((congrFun (hE3 60 rfl) _).trans (congrArg _ (nI_clamp (by omega)))) ?_
                refine z_icmp_gt 236 C dX5_fill_182 (by decide) (fun c182 => ?_) (fun c182 => ?_)
                · refine z_goto 70 C dX5_fill_236 (by decide) ?_
                  have q := ih (outB left j) s tk E3 S3 (some (zi (nI j))) (some (zi (nI (dT D)))) w6 (by omega) (subD_out (by omega) hsub) (by omega) (by rw [← hres, chL_no hj (by rintro (q | q); exact c164 q; exact absurd c182 (Int32.not_lt.mpr q))]) hM hE3 hf2
                  exact q
                · refine z_iload_n C rfl dX5_fill_185 ?_
                  refine z_aload_n C rfl dX5_fill_186 ?_
                  refine zg5_length C (fun w h => List.mem_cons_of_mem _ (um_wsX50 w h)) hM.1 (List.mem_cons_of_mem _ wm4) dX5_fill_187 ?_
                  refine z_ref (hM.q 42 rfl) ?_
                  refine z_iload C rfl dX5_fill_190 ?_
                  refine z_iaload C (hM.k 42 rfl) (hM.b' 42 rfl (⟨j, rfl, hj24⟩) (by decide)) dX5_fill_192 ?_
                  refine z_int (hM.t 42 rfl (by decide) _) ?_
                  refine z_int (x' := D 42 j) ((congrFun (hE3 42 rfl) _).trans (congrArg _ (nI_clamp (by omega)))) ?_
                  refine z_iadd C dX5_fill_193 ?_
                  refine z_istore_n [_, _, _, _, _, _, _] C (by decide) rfl dX5_fill_194 ?_
                  refine z_aload_n C rfl dX5_fill_195 ?_
                  refine zg5_kept C (fun w h => List.mem_cons_of_mem _ (um_wsX50 w h)) hM.1 (List.mem_cons_of_mem _ wm22) dX5_fill_196 ?_
                  refine z_ref (hM.q 61 rfl) ?_
                  refine z_iload_n C rfl dX5_fill_199 ?_
                  refine z_dup2 rfl rfl C dX5_fill_200 ?_
                  refine z_iaload C (hM.k 61 rfl) (hM.b' 61 rfl (⟨i, rfl, by show i < 8; omega⟩) (by decide)) dX5_fill_201 ?_
                  refine z_int (hM.t 61 rfl (by decide) _) ?_
                  refine z_int (x' := E3 61 i) (congrArg _ (nI_clamp (by omega))) ?_
                  refine z_iconst 1 (by decide) C dX5_fill_202 ?_
                  refine z_iload C rfl dX5_fill_203 ?_
                  refine z_ishl C dX5_fill_205 ?_
                  refine z_ior C dX5_fill_206 ?_
                  refine z_iastore C (hM.k 61 rfl) (hM.b' 61 rfl (⟨i, rfl, by show i < 8; omega⟩) (by decide)) dX5_fill_207 ?_
                  refine z_memM (hM.eI 61 rfl (by decide) _ _) (fun S207 hM => ?_)
                  refine z_aload_n C rfl dX5_fill_208 ?_
                  refine zg5_ranked C (fun w h => List.mem_cons_of_mem _ (um_wsX50 w h)) hM.1 (List.mem_cons_of_mem _ wm24) dX5_fill_209 ?_
                  refine z_ref (hM.q 63 rfl) ?_
                  refine z_bipush 24 (by decide) C dX5_fill_212 ?_
                  refine z_iload_n C rfl dX5_fill_214 ?_
                  refine z_imul C dX5_fill_215 ?_
                  refine z_aload_n C rfl dX5_fill_216 ?_
                  refine zg5_many C (fun w h => List.mem_cons_of_mem _ (um_wsX50 w h)) hM.1 (List.mem_cons_of_mem _ wm25) dX5_fill_217 ?_
                  refine z_ref (hM.q 64 rfl) ?_
                  refine z_iload_n C rfl dX5_fill_220 ?_
                  refine z_iaload C (hM.k 64 rfl) (hM.b' 64 rfl (⟨i, rfl, by show i < 8; omega⟩) (by decide)) dX5_fill_221 ?_
                  refine z_int (hM.t 64 rfl (by decide) _) ?_
                  refine z_int (x' := nI tk.length) (by rw [dS_ne (by decide), nI_clamp (by omega)]; exact hf2.2.2.2.1) ?_
                  refine z_iadd C dX5_fill_222 ?_
                  have hix : (24 : Int32) * nI i + nI tk.length = nI (24 * i + tk.length) := by rw [show (24 : Int32) * nI i = nI (24 * i) from pk_mul 24 i, nI_add]
                  refine z_iload C rfl dX5_fill_223 ?_
                  refine z_iastore C (hM.k 63 rfl) (hM.b' 63 rfl (⟨24 * i + tk.length, hix, by show _ < 192; omega⟩) (by decide)) dX5_fill_225 ?_
                  refine z_memM (hM.eI 63 rfl (by decide) _ _) (fun S225 hM => ?_)
                  refine z_aload_n C rfl dX5_fill_226 ?_
                  refine zg5_many C (fun w h => List.mem_cons_of_mem _ (um_wsX50 w h)) hM.1 (List.mem_cons_of_mem _ wm25) dX5_fill_227 ?_
                  refine z_ref (hM.q 64 rfl) ?_
                  refine z_iload_n C rfl dX5_fill_230 ?_
                  refine z_dup2 rfl rfl C dX5_fill_231 ?_
                  refine z_iaload C (hM.k 64 rfl) (hM.b' 64 rfl (⟨i, rfl, by show i < 8; omega⟩) (by decide)) dX5_fill_232 ?_
                  refine z_int (hM.t 64 rfl (by decide) _) ?_
                  refine z_int (x' := nI tk.length) (by rw [dS_ne (by decide), dS_ne (by decide), nI_clamp (by omega)]; exact hf2.2.2.2.1) ?_
                  refine z_iconst 1 (by decide) C dX5_fill_233 ?_
                  refine z_iadd C dX5_fill_234 ?_
                  refine z_iastore C (hM.k 64 rfl) (hM.b' 64 rfl (⟨i, rfl, by show i < 8; omega⟩) (by decide)) dX5_fill_235 ?_
                  refine z_memM (hM.eI 64 rfl (by decide) _ _) (fun S235 hM => ?_)
                  refine z_goto 70 C dX5_fill_236 (by decide) ?_
                  have q := ih (outB left j) (s + D 42 j) (tk ++ [j]) _ _ (some (zi (nI j))) (some (zi (nI (dT D)))) w6 (by omega) (subD_out (by omega) hsub) (by rw [List.length_append]; show tk.length + 1 + f ≤ 24; omega) (by rw [← hres, chL_yes hj (Or.inr (Int32.not_lt.mp c182)), List.append_assoc]; rfl) hM (((hE3.dS rfl _).dS rfl _).dS rfl _) (hf2.add (j := j) (by omega) (nI_clamp (by omega)) (by rw [hix]; exact nI_clamp (by omega)) (nI_clamp (by omega)) rfl rfl rfl)
                  exact q
            have inner : ∀ (m t : Nat) (w6 : Option ZV), t + m = dT D → zW X 7 0 0 S3 80 [some (zr (some M)), some (zi (nI i)), some (zi (left)), some (zi (s)), some (zi (fcI (fF (prD D) (plD D (D 59 i)) left t))), some (zi (nI t)), w6] [] := by
              intro m
              induction m with
              | zero =>
                intro t w6 ht
                obtain rfl : t = dT D := by omega
                refine z_iload C rfl dX5_fill_80 ?_
                refine z_aload_n C rfl dX5_fill_82 ?_
                refine zg5_tracks C (fun w h => List.mem_cons_of_mem _ (um_wsX50 w h)) hM.1 (List.mem_cons_of_mem _ wm34) dX5_fill_83 ?_
                refine z_int (hM.i 41 rfl) ?_
                refine z_int ((congrFun (hE3 41 rfl) 0).trans h41) ?_
                refine z_icmp_ge 149 C dX5_fill_86 (by decide) (fun c86 => ?_) (fun c86 => ?_)
                · have q := after2 w6
                  rw [show nI j = fcI (fF (prD D) (plD D (D 59 i)) left (dT D)) from by rw [fF_all h24, hj]; rfl] at q
                  exact q
                · exact absurd (Int32.le_refl _) c86
              | succ m ihm =>
                intro t w6 ht
                have htd : t < dT D := by omega
                refine z_iload C rfl dX5_fill_80 ?_
                refine z_aload_n C rfl dX5_fill_82 ?_
                refine zg5_tracks C (fun w h => List.mem_cons_of_mem _ (um_wsX50 w h)) hM.1 (List.mem_cons_of_mem _ wm34) dX5_fill_83 ?_
                refine z_int (hM.i 41 rfl) ?_
                refine z_int ((congrFun (hE3 41 rfl) 0).trans h41) ?_
                refine z_icmp_ge 149 C dX5_fill_86 (by decide) (fun c86 => ?_) (fun c86 => ?_)
                · exact absurd c86 (n_ge htd (by omega))
                · refine z_iload_n C rfl dX5_fill_89 ?_
                  refine z_iload C rfl dX5_fill_90 ?_
                  refine z_int rfl ?_
                  refine z_ishr C dX5_fill_92 ?_
                  refine z_iconst 1 (by decide) C dX5_fill_93 ?_
                  refine z_iand C dX5_fill_94 ?_
                  refine z_iconst 1 (by decide) C dX5_fill_95 ?_
                  refine z_icmp_ne 103 C dX5_fill_96 (by decide) (fun c96 => ?_) (fun c96 => ?_)
                  · refine z_iconst 0 (by decide) C dX5_fill_103 ?_
                    refine z_istore [_, _, _, _, _, _, _] C (by decide) rfl dX5_fill_104 ?_
                    refine z_iload C rfl dX5_fill_106 ?_
                    refine z_if_eq 139 C dX5_fill_108 (by decide) (fun _ => ?_) (fun c108 => absurd c108 (by decide))
                    refine z_iload C rfl dX5_fill_139 ?_
                    refine z_istore [_, _, _, _, _, _, _] C (by decide) rfl dX5_fill_141 ?_
                    refine z_inc (1) [_, _, _, _, _, _, _] C rfl (by decide) (by decide) rfl dX5_fill_143 ?_
                    refine z_goto 80 C dX5_fill_146 (by decide) ?_
                    have q := ihm (t + 1) (some (zi 0)) (by omega)
                    rw [nI_succ, fF_no (fun z => c96 ((shr_bit (by omega)).mpr z.2.1))] at q
                    exact q
                  · refine z_iconst 1 (by decide) C dX5_fill_99 ?_
                    refine z_goto 104 C dX5_fill_100 (by decide) ?_
                    refine z_istore [_, _, _, _, _, _, _] C (by decide) rfl dX5_fill_104 ?_
                    refine z_iload C rfl dX5_fill_106 ?_
                    refine z_if_eq 139 C dX5_fill_108 (by decide) (fun c108 => absurd c108 (by decide)) (fun _ => ?_)
                    refine z_iload C rfl dX5_fill_111 ?_
                    refine z_iconst (-1) (by decide) C dX5_fill_113 ?_
                    refine z_icmp_eq 134 C dX5_fill_114 (by decide) (fun c114 => ?_) (fun c114 => ?_)
                    · refine z_iload C rfl dX5_fill_134 ?_
                      refine z_goto 141 C dX5_fill_136 (by decide) ?_
                      refine z_istore [_, _, _, _, _, _, _] C (by decide) rfl dX5_fill_141 ?_
                      refine z_inc (1) [_, _, _, _, _, _, _] C rfl (by decide) (by decide) rfl dX5_fill_143 ?_
                      refine z_goto 80 C dX5_fill_146 (by decide) ?_
                      have hb : hasB left (nI t) = true := (shr_bit (by omega)).mp c96
                      have hpt : prD D t = true := (hsub t (by omega) hb).2
                      have q := ihm (t + 1) (some (zi 1)) (by omega)
                      rw [nI_succ, fF_yes ⟨hpt, hb, fun j9 e9 => by rw [(fcI_m1 (fun j8 e8 => by have := (fF_lt e8).1; omega)).mp c114] at e9; cases e9⟩] at q
                      exact q
                    · obtain ⟨o, ho⟩ : ∃ o : Nat, fF (prD D) (plD D (D 59 i)) left t = some o := by
                        cases hq : fF (prD D) (plD D (D 59 i)) left t with
                        | none => exact absurd (by rw [hq]; rfl) c114
                        | some o => exact ⟨o, rfl⟩
                      refine z_aload_n C rfl dX5_fill_117 ?_
                      refine z_aload_n C rfl dX5_fill_118 ?_
                      refine zg5_order C (fun w h => List.mem_cons_of_mem _ (um_wsX50 w h)) hM.1 (List.mem_cons_of_mem _ wm20) dX5_fill_119 ?_
                      refine z_ref (hM.q 59 rfl) ?_
                      refine z_iload_n C rfl dX5_fill_122 ?_
                      refine z_caload C (hM.k 59 rfl) (hM.b' 59 rfl (⟨i, rfl, by show i < 8; omega⟩) (by decide)) dX5_fill_123 ?_
                      refine z_int (hM.t 59 rfl (by decide) _) ?_
                      refine z_int (x' := D 59 i) ((congrFun (hE3 59 rfl) _).trans (congrArg _ (nI_clamp (by omega)))) ?_
                      refine z_iload C rfl dX5_fill_124 ?_
                      refine z_iload C rfl dX5_fill_126 ?_
                      refine z_int (x' := nI o) (by rw [ho]; rfl) ?_
                      refine z_callM 3 [zi (D 59 i), zi (nI t), zi (nI o)] C rfl (M_isAhead hl0 hM (D 59 i) (by omega) (fF_lt ho).1) rfl (zgoodV LWm_good wm45 wm46 wm47 wm37 wm48) rfl rfl rfl (by decide +kernel) rfl (by rw [hR]; exact ⟨Nat.le_of_ble_eq_true rfl, Nat.le_of_ble_eq_true rfl⟩) hM.1 (by rw [hR]; exact ⟨Nat.le_of_ble_eq_true rfl, Nat.le_of_ble_eq_true rfl⟩) (Nat.le_of_ble_eq_true rfl) dX5_fill_128 (fun v128 S128 h128 => ?_) (fun E128 S128 h128 => ?_)
                      · obtain ⟨b128, rfl, hb128, q128⟩ := h128
                        subst S128
                        rw [show plD E3 = plD D from by funext o9 i9; simp only [plD, hE3 42 rfl, hE3 43 rfl, hE3 44 rfl]] at hb128
                        cases b128 with
                        | false =>
                          have y128 := b_ft hb128
                          refine z_if_eq 139 C dX5_fill_131 (by decide) (fun _ => ?_) (fun c131 => absurd c131 (by decide))
                          refine z_iload C rfl dX5_fill_139 ?_
                          refine z_istore [_, _, _, _, _, _, _] C (by decide) rfl dX5_fill_141 ?_
                          refine z_inc (1) [_, _, _, _, _, _, _] C rfl (by decide) (by decide) rfl dX5_fill_143 ?_
                          refine z_goto 80 C dX5_fill_146 (by decide) ?_
                          have q := ihm (t + 1) (some (zi 1)) (by omega)
                          rw [nI_succ, fF_no (fun z => y128 (z.2.2 o ho))] at q
                          exact q
                        | true =>
                          have y128 := hb128.mp rfl
                          refine z_if_eq 139 C dX5_fill_131 (by decide) (fun c131 => absurd c131 (by decide)) (fun _ => ?_)
                          refine z_iload C rfl dX5_fill_134 ?_
                          refine z_goto 141 C dX5_fill_136 (by decide) ?_
                          refine z_istore [_, _, _, _, _, _, _] C (by decide) rfl dX5_fill_141 ?_
                          refine z_inc (1) [_, _, _, _, _, _, _] C rfl (by decide) (by decide) rfl dX5_fill_143 ?_
                          refine z_goto 80 C dX5_fill_146 (by decide) ?_
                          have hb : hasB left (nI t) = true := (shr_bit (by omega)).mp c96
                          have hpt : prD D t = true := (hsub t (by omega) hb).2
                          have q := ihm (t + 1) (some (zi 1)) (by omega)
                          rw [nI_succ, fF_yes ⟨hpt, hb, fun j9 e9 => by rw [ho] at e9; cases e9; exact y128⟩] at q
                          exact q
                      · exact h128.elim
            refine z_iconst (-1) (by decide) C dX5_fill_74 ?_
            refine z_istore [_, _, _, _, _, _, _] C (by decide) rfl dX5_fill_75 ?_
            refine z_iconst 0 (by decide) C dX5_fill_77 ?_
            refine z_istore [_, _, _, _, _, _, _] C (by decide) rfl dX5_fill_78 ?_
            exact inner (dT D) 0 w6 (by omega)
      refine z_aload_n C rfl dX5_fill_54 ?_
      refine zg5_kept C (fun w h => List.mem_cons_of_mem _ (um_wsX50 w h)) hM.1 (List.mem_cons_of_mem _ wm22) dX5_fill_55 ?_
      refine z_ref (hM.q 61 rfl) ?_
      refine z_iload_n C rfl dX5_fill_58 ?_
      refine z_iconst 0 (by decide) C dX5_fill_59 ?_
      refine z_iastore C (hM.k 61 rfl) (hM.b' 61 rfl (⟨i, rfl, by show i < 8; omega⟩) (by decide)) dX5_fill_60 ?_
      refine z_memM (hM.eI 61 rfl (by decide) _ _) (fun S60 hM => ?_)
      have hE3 : eqF (dS E2 61 (up1 (E2 61) (nI i).toNatClampNeg 0)) D := hE2.dS rfl _
      refine z_aload_n C rfl dX5_fill_61 ?_
      refine zg5_many C (fun w h => List.mem_cons_of_mem _ (um_wsX50 w h)) hM.1 (List.mem_cons_of_mem _ wm25) dX5_fill_62 ?_
      refine z_ref (hM.q 64 rfl) ?_
      refine z_iload_n C rfl dX5_fill_65 ?_
      refine z_iconst 0 (by decide) C dX5_fill_66 ?_
      refine z_iastore C (hM.k 64 rfl) (hM.b' 64 rfl (⟨i, rfl, by show i < 8; omega⟩) (by decide)) dX5_fill_67 ?_
      refine z_memM (hM.eI 64 rfl (by decide) _ _) (fun S67 hM => ?_)
      refine z_iconst 0 (by decide) C dX5_fill_68 ?_
      refine z_istore_n [_, _, _, _, _, _, _] C (by decide) rfl dX5_fill_69 ?_
      refine loop2 24 _ 0 [] _ _ _ _ _ (pcB_24 (subD_mt D _ _)) (subD_mt D _ _) (by decide) rfl hM (hE3.dS rfl _) (fl2.start (nI_clamp (by omega)) (nI_clamp (by omega)))
    have loop1 : ∀ (m t : Nat) (S2 : ZM) (E2 : ZD), t + m = dT D → mR E2 J S2 M r → eqF E2 D → stp D rk (rk i) E1 E2 → zW X 7 0 0 S2 21 [some (zr (some M)), some (zi (nI i)), some (zi (sF (fun t => prD D t && ev D (fixD D) (ix (D 58 i)) t) t)), some (zi (nI t)), none, none, none] [] := by
      intro m
      induction m with
      | zero =>
        intro t S2 E2 ht hM hE2 hs2
        obtain rfl : t = dT D := by omega
        refine z_iload_n C rfl dX5_fill_21 ?_
        refine z_aload_n C rfl dX5_fill_22 ?_
        refine zg5_tracks C (fun w h => List.mem_cons_of_mem _ (um_wsX50 w h)) hM.1 (List.mem_cons_of_mem _ wm34) dX5_fill_23 ?_
        refine z_int (hM.i 41 rfl) ?_
        refine z_int ((congrFun (hE2 41 rfl) 0).trans h41) ?_
        refine z_icmp_ge 54 C dX5_fill_26 (by decide) (fun c26 => ?_) (fun c26 => ?_)
        · have q := after S2 E2 hM hE2 hs2
          rw [show mtD D (fixD D) (ix (D 58 i)) = sF (fun t => prD D t && ev D (fixD D) (ix (D 58 i)) t) (dT D) from (sF_all h24 (fun t ht => by rw [pr_out ht]; rfl)).symm] at q
          exact q
        · exact absurd (Int32.le_refl _) c26
      | succ m ih =>
        intro t S2 E2 ht hM hE2 hs2
        have htd : t < dT D := by omega
        refine z_iload_n C rfl dX5_fill_21 ?_
        refine z_aload_n C rfl dX5_fill_22 ?_
        refine zg5_tracks C (fun w h => List.mem_cons_of_mem _ (um_wsX50 w h)) hM.1 (List.mem_cons_of_mem _ wm34) dX5_fill_23 ?_
        refine z_int (hM.i 41 rfl) ?_
        refine z_int ((congrFun (hE2 41 rfl) 0).trans h41) ?_
        refine z_icmp_ge 54 C dX5_fill_26 (by decide) (fun c26 => ?_) (fun c26 => ?_)
        · exact absurd c26 (n_ge htd (by omega))
        · refine z_iload_n C rfl dX5_fill_29 ?_
          refine z_aload_n C rfl dX5_fill_30 ?_
          refine z_iload_n C rfl dX5_fill_31 ?_
          refine z_iload_n C rfl dX5_fill_32 ?_
          refine z_callM 2 [zi (nI i), zi (nI t)] C rfl (M_isMatch hl0 hw hO h40 h16 h8 h24 hF hi htd hM hE2 (hI1.stp hs2) hls) rfl (zgoodV LWm_good wm42 wm43 wm44 wm37 wm57) rfl rfl rfl (by decide +kernel) rfl (by rw [hR]; exact ⟨by show 43 * rk i + 41 + 1 ≤ 43 * (rk i + 1); omega, by show 8 + (3 + 11) + (1100 * rk i + 946) ≤ 1100 * (rk i + 1); omega⟩) hM.1 (by rw [hR]; exact ⟨Nat.le_of_ble_eq_true rfl, Nat.le_of_ble_eq_true rfl⟩) (Nat.le_of_ble_eq_true rfl) dX5_fill_33 (fun v33 S33 h33 => ?_) (fun E33 S33 h33 => ?_)
          · obtain ⟨b33, rfl, hb33, E4, hM, hE4, hs4⟩ := h33
            cases b33 with
            | false =>
              refine z_if_eq 45 C dX5_fill_36 (by decide) (fun _ => ?_) (fun c36 => absurd c36 (by decide))
              refine z_iconst 0 (by decide) C dX5_fill_45 ?_
              refine z_ior C dX5_fill_46 ?_
              refine z_istore_n [_, _, _, _, _, _, _] C (by decide) rfl dX5_fill_47 ?_
              refine z_inc (1) [_, _, _, _, _, _, _] C rfl (by decide) (by decide) rfl dX5_fill_48 ?_
              refine z_goto 21 C dX5_fill_51 (by decide) ?_
              have q := ih (t + 1) _ E4 (by omega) hM hE4 (hs2.trans hs4)
              rw [nI_succ, sF_no hb33.symm, show sF (fun t => prD D t && ev D (fixD D) (ix (D 58 i)) t) t = sF (fun t => prD D t && ev D (fixD D) (ix (D 58 i)) t) t ||| 0 from Int32.or_zero.symm] at q
              exact q
            | true =>
              refine z_if_eq 45 C dX5_fill_36 (by decide) (fun c36 => absurd c36 (by decide)) (fun _ => ?_)
              refine z_iconst 1 (by decide) C dX5_fill_39 ?_
              refine z_iload_n C rfl dX5_fill_40 ?_
              refine z_ishl C dX5_fill_41 ?_
              refine z_goto 46 C dX5_fill_42 (by decide) ?_
              refine z_ior C dX5_fill_46 ?_
              refine z_istore_n [_, _, _, _, _, _, _] C (by decide) rfl dX5_fill_47 ?_
              refine z_inc (1) [_, _, _, _, _, _, _] C rfl (by decide) (by decide) rfl dX5_fill_48 ?_
              refine z_goto 21 C dX5_fill_51 (by decide) ?_
              have q := ih (t + 1) _ E4 (by omega) hM hE4 (hs2.trans hs4)
              rw [nI_succ, sF_yes hb33.symm] at q
              exact q
          · exact h33.elim
    refine z_iconst 0 (by decide) C dX5_fill_17 ?_
    refine z_istore_n [_, _, _, _, _, _, _] C (by decide) rfl dX5_fill_18 ?_
    refine z_iconst 0 (by decide) C dX5_fill_19 ?_
    refine z_istore_n [_, _, _, _, _, _, _] C (by decide) rfl dX5_fill_20 ?_
    exact loop1 (dT D) 0 _ E1 (by omega) hM hE1 (stp.refl D rk _ E1)
  · refine z_return C F (Nat.le_of_ble_eq_true rfl) (Nat.le_of_ble_eq_true rfl) dX5_fill_9 ?_
    exact ⟨rfl, E, hM, hE, stp.refl D rk _ E, c6, hI i hi (by omega) c6⟩
/-- fill, on every list -/
theorem M_fill {l : Launch} (hl0 : l.stackTraces = false) {D : ZD} {J : Nat → Int64} {M : Nat} {r rk : Nat → Nat} (hw : wfR D) (hN : wfN D) (hO : wfO D) (hA : acD D) (hk : ∀ i j : Nat, i < dL D → j < 8 → hasB (lsD D (ix (D 58 i))) (nI j) = true → j < dL D ∧ rk j < rk i) : ∀ n i : Nat, i < dL D → rk i < n → filP l D J M r rk i := by
  intro n
  induction n with
  | zero => intro i _ h; exact absurd h (Nat.not_lt_zero _)
  | succ n ih =>
    intro i hi hr
    exact M_fillAt hl0 hw hN hO hA hi (fun l2 h2 hr2 => ih l2 h2 (by omega)) (fun j hj hb => hk i j hi hj hb)
