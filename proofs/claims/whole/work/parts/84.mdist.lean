/-! the reference: distances of names -/
theorem dS_dS {D : ZD} {k : Nat} {f g : Nat → Int32} : dS (dS D k f) k g = dS D k g := by
  funext k'
  by_cases q : k' = k
  · subst q; rw [dS_self, dS_self]
  · rw [dS_ne q, dS_ne q, dS_ne q]
theorem lst_nI {a b : Nat} (ha : a < 2 ^ 31) (hb : b < 2 ^ 31) : (if nI a < nI b then nI a else nI b) = nI (min a b) := by
  by_cases h : a < b
  · rw [if_pos ((nI_ltI ha hb).2 h), Nat.min_eq_left (by omega)]
  · rw [if_neg (fun z => h ((nI_ltI ha hb).1 z)), Nat.min_eq_right (by omega)]
theorem idx7 {i j : Nat} : (7 : Int32) * nI i + nI j = nI (7 * i + j) := by
  rw [show (7 : Int32) * nI i = nI (7 * i) from pk_mul 7 i, nI_add]
theorem idx6 {g i : Nat} : (6 : Int32) * nI g + nI (i + 1) - 1 = nI (6 * g + i) := by
  rw [show (6 : Int32) * nI g = nI (6 * g) from pk_mul 6 g, nI_add, ← Nat.add_assoc, nI_pred]
/-- the table as far as row i, place j -/
def tbP (c : Nat → Nat → Nat) (n2 : Nat) (T : Nat → Int32) (i j : Nat) : Prop := ∀ a b : Nat, b ≤ n2 → (a < i ∨ (a = i ∧ b < j)) → T (7 * a + b) = nI (lvN c a b)
theorem tbP.st {c : Nat → Nat → Nat} {n2 : Nat} {T : Nat → Int32} {i j : Nat} (h : tbP c n2 T i j) (h2 : n2 ≤ 6) (hj : j ≤ n2) {p : Nat} {v : Int32} (hp : p = 7 * i + j) (hv : v = nI (lvN c i j)) : tbP c n2 (up1 T p v) i (j + 1) := by
  subst hp hv
  intro a b hb hab
  by_cases q : a = i ∧ b = j
  · obtain ⟨rfl, rfl⟩ := q; exact up1_self
  · rw [up1_ne (by omega)]; exact h a b hb (by omega)
theorem tbP.next {c : Nat → Nat → Nat} {n2 : Nat} {T : Nat → Int32} {i : Nat} (h : tbP c n2 T i (n2 + 1)) : tbP c n2 T (i + 1) 0 := fun a b hb hab => h a b hb (by omega)

set_option maxRecDepth 100000 in
set_option maxHeartbeats 800000 in
theorem M_distanceOf {l : Launch} (hl0 : l.stackTraces = false) {D : ZD} {J : Nat → Int64} {S : ZM} {M : Nat} {r : Nat → Nat} (hM0 : ∃ T0 : Nat → Int32, mR (dS D 72 T0) J S M r) (hQ3 : nmOk D) {g h : Nat} (hg : g < 16) (hh : h < 16) : zMet l yX5_distanceOf (Cond.code yX5_distanceOf cX5_distanceOf 7 (some .int) :: LWm) ({ frames := 1, cells := 0, slots := 0, locals := 21 } : Room) 0 0 [zr (some M), zi (nI g), zi (nI h)] S (zPo (fun v S' => v = some (zi (nI (lvD D g h))) ∧ ∃ T : Nat → Int32, mR (dS D 72 T) J S' M r) (fun _ _ => False)) := by
  refine zMet.of' [some (zr (some M)), some (zi (nI g)), some (zi (nI h)), none, none, none, none] hl0 (by decide) rfl (Nat.le_of_ble_eq_true rfl) rfl ?_
  intro X C N hR hN0 hX F
  subst hX
  obtain ⟨n1, e1, hn1, -⟩ := hQ3 g hg
  obtain ⟨n2, e2, hn2, -⟩ := hQ3 h hh
  obtain ⟨T0, hM⟩ := hM0
  have after : ∀ (T : Nat → Int32) (S1 : ZM) (w4 w5 w6 : Option ZV), mR (dS D 72 T) J S1 M r → tbP (cst (fun j => D 50 (6 * g + j)) (fun j => D 50 (6 * h + j))) n2 T (n1 + 1) 0 → zW X 7 0 0 S1 177 [some (zr (some M)), some (zi (nI g)), some (zi (nI h)), some (zi (nI (n1 + 1))), w4, w5, w6] [] := by
    intro T S1 w4 w5 w6 hM hT
    refine z_aload_n C rfl dX5_distanceOf_177 ?_
    refine zg5_table C (fun w h => List.mem_cons_of_mem _ (um_wsX50 w h)) hM.1 (List.mem_cons_of_mem _ wm32) dX5_distanceOf_178 ?_
    refine z_ref (hM.q 72 rfl) ?_
    refine z_bipush 7 (by decide) C dX5_distanceOf_181 ?_
    refine z_aload_n C rfl dX5_distanceOf_183 ?_
    refine zg5_nameSize C (fun w h => List.mem_cons_of_mem _ (um_wsX50 w h)) hM.1 (List.mem_cons_of_mem _ wm11) dX5_distanceOf_184 ?_
    refine z_ref (hM.q 49 rfl) ?_
    refine z_iload_n C rfl dX5_distanceOf_187 ?_
    refine z_iaload C (hM.k 49 rfl) (hM.b' 49 rfl (⟨g, rfl, by show g < 16; omega⟩) (by decide)) dX5_distanceOf_188 ?_
    refine z_int (hM.t 49 rfl (by decide) _) ?_
    refine z_int (x' := nI n1) ((dS_no (by decide) _).trans ((congrArg _ (nI_clamp (by omega))).trans e1)) ?_
    refine z_imul C dX5_distanceOf_189 ?_
    refine z_aload_n C rfl dX5_distanceOf_190 ?_
    refine zg5_nameSize C (fun w h => List.mem_cons_of_mem _ (um_wsX50 w h)) hM.1 (List.mem_cons_of_mem _ wm11) dX5_distanceOf_191 ?_
    refine z_ref (hM.q 49 rfl) ?_
    refine z_iload_n C rfl dX5_distanceOf_194 ?_
    refine z_iaload C (hM.k 49 rfl) (hM.b' 49 rfl (⟨h, rfl, by show h < 16; omega⟩) (by decide)) dX5_distanceOf_195 ?_
    refine z_int (hM.t 49 rfl (by decide) _) ?_
    refine z_int (x' := nI n2) ((dS_no (by decide) _).trans ((congrArg _ (nI_clamp (by omega))).trans e2)) ?_
    refine z_iadd C dX5_distanceOf_196 ?_
    refine z_iaload C (hM.k 72 rfl) (hM.b' 72 rfl (⟨7 * n1 + n2, idx7, by show _ < 49; omega⟩) (by decide)) dX5_distanceOf_197 ?_
    refine z_int (hM.t 72 rfl (by decide) _) ?_
    refine z_int (x' := nI (lvD D g h)) (by rw [idx7, nI_clamp (by omega)]; refine (congrFun dS_self _).trans ((hT n1 n2 (Nat.le_refl _) (by omega)).trans ?_); unfold lvD; rw [e1, e2, show ix (nI n1) = n1 from nI_clamp (by omega), show ix (nI n2) = n2 from nI_clamp (by omega)]) ?_
    refine z_ireturn C F (Nat.le_of_ble_eq_true rfl) (Nat.le_of_ble_eq_true rfl) dX5_distanceOf_198 ?_
    exact ⟨rfl, T, hM⟩
  have outer : ∀ (m i : Nat) (T : Nat → Int32) (S1 : ZM) (w4 w5 w6 : Option ZV), i + m = n1 + 1 → mR (dS D 72 T) J S1 M r → tbP (cst (fun j => D 50 (6 * g + j)) (fun j => D 50 (6 * h + j))) n2 T i 0 → zW X 7 0 0 S1 2 [some (zr (some M)), some (zi (nI g)), some (zi (nI h)), some (zi (nI i)), w4, w5, w6] [] := by
    intro m
    induction m with
    | zero =>
      intro i T S1 w4 w5 w6 hi hM hT
      obtain rfl : i = n1 + 1 := by omega
      refine z_iload_n C rfl dX5_distanceOf_2 ?_
      refine z_aload_n C rfl dX5_distanceOf_3 ?_
      refine zg5_nameSize C (fun w h => List.mem_cons_of_mem _ (um_wsX50 w h)) hM.1 (List.mem_cons_of_mem _ wm11) dX5_distanceOf_4 ?_
      refine z_ref (hM.q 49 rfl) ?_
      refine z_iload_n C rfl dX5_distanceOf_7 ?_
      refine z_iaload C (hM.k 49 rfl) (hM.b' 49 rfl (⟨g, rfl, by show g < 16; omega⟩) (by decide)) dX5_distanceOf_8 ?_
      refine z_int (hM.t 49 rfl (by decide) _) ?_
      refine z_int (x' := nI n1) ((dS_no (by decide) _).trans ((congrArg _ (nI_clamp (by omega))).trans e1)) ?_
      refine z_icmp_gt 177 C dX5_distanceOf_9 (by decide) (fun c9 => ?_) (fun c9 => ?_)
      · exact after T S1 w4 w5 w6 hM hT
      · exact absurd (nI_lt (by omega) (by omega)) c9
    | succ m ihi =>
      intro i T S1 w4 w5 w6 hi hM hT
      have inner : ∀ (m j : Nat) (T : Nat → Int32) (S1 : ZM) (w5 w6 : Option ZV), j + m = n2 + 1 → mR (dS D 72 T) J S1 M r → tbP (cst (fun j => D 50 (6 * g + j)) (fun j => D 50 (6 * h + j))) n2 T i j → zW X 7 0 0 S1 15 [some (zr (some M)), some (zi (nI g)), some (zi (nI h)), some (zi (nI i)), some (zi (nI j)), w5, w6] [] := by
        intro m
        induction m with
        | zero =>
          intro j T S1 w5 w6 hj hM hT
          obtain rfl : j = n2 + 1 := by omega
          refine z_iload C rfl dX5_distanceOf_15 ?_
          refine z_aload_n C rfl dX5_distanceOf_17 ?_
          refine zg5_nameSize C (fun w h => List.mem_cons_of_mem _ (um_wsX50 w h)) hM.1 (List.mem_cons_of_mem _ wm11) dX5_distanceOf_18 ?_
          refine z_ref (hM.q 49 rfl) ?_
          refine z_iload_n C rfl dX5_distanceOf_21 ?_
          refine z_iaload C (hM.k 49 rfl) (hM.b' 49 rfl (⟨h, rfl, by show h < 16; omega⟩) (by decide)) dX5_distanceOf_22 ?_
          refine z_int (hM.t 49 rfl (by decide) _) ?_
          refine z_int (x' := nI n2) ((dS_no (by decide) _).trans ((congrArg _ (nI_clamp (by omega))).trans e2)) ?_
          refine z_icmp_gt 171 C dX5_distanceOf_23 (by decide) (fun c23 => ?_) (fun c23 => ?_)
          · refine z_inc (1) [_, _, _, _, _, _, _] C rfl (by decide) (by decide) rfl dX5_distanceOf_171 ?_
            refine z_goto 2 C dX5_distanceOf_174 (by decide) ?_
            have q := ihi (i + 1) T S1 (some (zi (nI (n2 + 1)))) w5 w6 (by omega) hM hT.next
            rw [nI_succ] at q
            exact q
          · exact absurd (nI_lt (by omega) (by omega)) c23
        | succ m ihj =>
          intro j T S1 w5 w6 hj hM hT
          have tail : ∀ (best : Int32) (w6 : Option ZV), best = nI (lvN (cst (fun j => D 50 (6 * g + j)) (fun j => D 50 (6 * h + j))) i j) → zW X 7 0 0 S1 151 [some (zr (some M)), some (zi (nI g)), some (zi (nI h)), some (zi (nI i)), some (zi (nI j)), some (zi best), w6] [] := by
            intro best w6 hb
            refine z_aload_n C rfl dX5_distanceOf_151 ?_
            refine zg5_table C (fun w h => List.mem_cons_of_mem _ (um_wsX50 w h)) hM.1 (List.mem_cons_of_mem _ wm32) dX5_distanceOf_152 ?_
            refine z_ref (hM.q 72 rfl) ?_
            refine z_bipush 7 (by decide) C dX5_distanceOf_155 ?_
            refine z_iload_n C rfl dX5_distanceOf_157 ?_
            refine z_imul C dX5_distanceOf_158 ?_
            refine z_iload C rfl dX5_distanceOf_159 ?_
            refine z_iadd C dX5_distanceOf_161 ?_
            refine z_iload C rfl dX5_distanceOf_162 ?_
            refine z_iastore C (hM.k 72 rfl) (hM.b' 72 rfl (⟨7 * i + j, idx7, by show _ < 49; omega⟩) (by decide)) dX5_distanceOf_164 ?_
            refine z_memM (hM.eI 72 rfl (by decide) _ _) (fun S164 hM => ?_)
            rw [dS_dS, dS_self] at hM
            refine z_inc (1) [_, _, _, _, _, _, _] C rfl (by decide) (by decide) rfl dX5_distanceOf_165 ?_
            refine z_goto 15 C dX5_distanceOf_168 (by decide) ?_
            have q := ihj (j + 1) _ _ (some (zi best)) w6 (by omega) hM (hT.st (by omega) (by omega) (by rw [idx7]; exact nI_clamp (by omega)) hb)
            rw [nI_succ] at q
            exact q
          refine z_iload C rfl dX5_distanceOf_15 ?_
          refine z_aload_n C rfl dX5_distanceOf_17 ?_
          refine zg5_nameSize C (fun w h => List.mem_cons_of_mem _ (um_wsX50 w h)) hM.1 (List.mem_cons_of_mem _ wm11) dX5_distanceOf_18 ?_
          refine z_ref (hM.q 49 rfl) ?_
          refine z_iload_n C rfl dX5_distanceOf_21 ?_
          refine z_iaload C (hM.k 49 rfl) (hM.b' 49 rfl (⟨h, rfl, by show h < 16; omega⟩) (by decide)) dX5_distanceOf_22 ?_
          refine z_int (hM.t 49 rfl (by decide) _) ?_
          refine z_int (x' := nI n2) ((dS_no (by decide) _).trans ((congrArg _ (nI_clamp (by omega))).trans e2)) ?_
          refine z_icmp_gt 171 C dX5_distanceOf_23 (by decide) (fun c23 => ?_) (fun c23 => ?_)
          · exact absurd c23 (by rw [Int32.not_lt]; exact nI_le (by omega) (by omega))
          · refine z_iload_n C rfl dX5_distanceOf_26 ?_
            refine z_if_ne 35 C dX5_distanceOf_27 (by decide) (fun c27 => ?_) (fun c27 => ?_)
            · refine z_iload C rfl dX5_distanceOf_35 ?_
              refine z_if_ne 44 C dX5_distanceOf_37 (by decide) (fun c37 => ?_) (fun c37 => ?_)
              · refine z_bipush 99 (by decide) C dX5_distanceOf_44 ?_
                refine z_istore [_, _, _, _, _, _, _] C (by decide) rfl dX5_distanceOf_46 ?_
                refine z_iload_n C rfl dX5_distanceOf_48 ?_
                refine z_if_le 151 C dX5_distanceOf_49 (by decide) (fun c49 => ?_) (fun c49 => ?_)
                · exact absurd c49 (nI_nle (Nat.pos_of_ne_zero (fun z => c27 (by rw [z]; rfl))) (by omega))
                · refine z_iload C rfl dX5_distanceOf_52 ?_
                  refine z_if_le 151 C dX5_distanceOf_54 (by decide) (fun c54 => ?_) (fun c54 => ?_)
                  · exact absurd c54 (nI_nle (Nat.pos_of_ne_zero (fun z => c37 (by rw [z]; rfl))) (by omega))
                  · obtain ⟨a, eib⟩ : ∃ a : Nat, i = a + 1 := ⟨i - 1, by have : i ≠ 0 := fun z => c27 (by rw [z]; rfl); omega⟩
                    obtain ⟨b, ejb⟩ : ∃ b : Nat, j = b + 1 := ⟨j - 1, by have : j ≠ 0 := fun z => c37 (by rw [z]; rfl); omega⟩
                    have ei1 : (6 : Int32) * nI g + nI i - 1 = nI (6 * g + a) := by rw [eib]; exact idx6
                    have ei2 : (6 : Int32) * nI h + nI j - 1 = nI (6 * h + b) := by rw [ejb]; exact idx6
                    have ei3 : (7 : Int32) * (nI i - 1) + nI j = nI (7 * a + (b + 1)) := by rw [eib, ejb, nI_pred]; exact idx7
                    have ei4 : (7 : Int32) * nI i + nI j - 1 = nI (7 * (a + 1) + b) := by rw [eib, ejb, idx7, ← Nat.add_assoc, nI_pred]
                    have ei5 : (7 : Int32) * (nI i - 1) + nI j - 1 = nI (7 * a + b) := by rw [eib, ejb, nI_pred, idx7, ← Nat.add_assoc, nI_pred]
                    refine z_aload_n C rfl dX5_distanceOf_57 ?_
                    refine zg5_names C (fun w h => List.mem_cons_of_mem _ (um_wsX50 w h)) hM.1 (List.mem_cons_of_mem _ wm13) dX5_distanceOf_58 ?_
                    refine z_ref (hM.q 50 rfl) ?_
                    refine z_bipush 6 (by decide) C dX5_distanceOf_61 ?_
                    refine z_iload_n C rfl dX5_distanceOf_63 ?_
                    refine z_imul C dX5_distanceOf_64 ?_
                    refine z_iload_n C rfl dX5_distanceOf_65 ?_
                    refine z_iadd C dX5_distanceOf_66 ?_
                    refine z_iconst 1 (by decide) C dX5_distanceOf_67 ?_
                    refine z_isub C dX5_distanceOf_68 ?_
                    refine z_caload C (hM.k 50 rfl) (hM.b' 50 rfl (⟨6 * g + a, ei1, by show _ < 96; omega⟩) (by decide)) dX5_distanceOf_69 ?_
                    refine z_int (hM.t 50 rfl (by decide) _) ?_
                    refine z_int (x' := D 50 (6 * g + a)) (by rw [ei1, nI_clamp (by omega)]; exact dS_no (by decide) _) ?_
                    refine z_aload_n C rfl dX5_distanceOf_70 ?_
                    refine zg5_names C (fun w h => List.mem_cons_of_mem _ (um_wsX50 w h)) hM.1 (List.mem_cons_of_mem _ wm13) dX5_distanceOf_71 ?_
                    refine z_ref (hM.q 50 rfl) ?_
                    refine z_bipush 6 (by decide) C dX5_distanceOf_74 ?_
                    refine z_iload_n C rfl dX5_distanceOf_76 ?_
                    refine z_imul C dX5_distanceOf_77 ?_
                    refine z_iload C rfl dX5_distanceOf_78 ?_
                    refine z_iadd C dX5_distanceOf_80 ?_
                    refine z_iconst 1 (by decide) C dX5_distanceOf_81 ?_
                    refine z_isub C dX5_distanceOf_82 ?_
                    refine z_caload C (hM.k 50 rfl) (hM.b' 50 rfl (⟨6 * h + b, ei2, by show _ < 96; omega⟩) (by decide)) dX5_distanceOf_83 ?_
                    refine z_int (hM.t 50 rfl (by decide) _) ?_
                    refine z_int (x' := D 50 (6 * h + b)) (by rw [ei2, nI_clamp (by omega)]; exact dS_no (by decide) _) ?_
                    refine z_icmp_ne 91 C dX5_distanceOf_84 (by decide) (fun c84 => ?_) (fun c84 => ?_)
                    · refine z_iconst 1 (by decide) C dX5_distanceOf_91 ?_
                      refine z_istore [_, _, _, _, _, _, _] C (by decide) rfl dX5_distanceOf_92 ?_
                      refine z_aload_n C rfl dX5_distanceOf_94 ?_
                      refine zg5_table C (fun w h => List.mem_cons_of_mem _ (um_wsX50 w h)) hM.1 (List.mem_cons_of_mem _ wm32) dX5_distanceOf_95 ?_
                      refine z_ref (hM.q 72 rfl) ?_
                      refine z_bipush 7 (by decide) C dX5_distanceOf_98 ?_
                      refine z_iload_n C rfl dX5_distanceOf_100 ?_
                      refine z_iconst 1 (by decide) C dX5_distanceOf_101 ?_
                      refine z_isub C dX5_distanceOf_102 ?_
                      refine z_imul C dX5_distanceOf_103 ?_
                      refine z_iload C rfl dX5_distanceOf_104 ?_
                      refine z_iadd C dX5_distanceOf_106 ?_
                      refine z_iaload C (hM.k 72 rfl) (hM.b' 72 rfl (⟨7 * a + (b + 1), ei3, by show _ < 49; omega⟩) (by decide)) dX5_distanceOf_107 ?_
                      refine z_int (hM.t 72 rfl (by decide) _) ?_
                      refine z_int (x' := nI (lvN (cst (fun j => D 50 (6 * g + j)) (fun j => D 50 (6 * h + j))) a (b + 1))) (by rw [ei3, nI_clamp (by omega)]; exact (congrFun dS_self _).trans (hT _ _ (by omega) (by omega))) ?_
                      refine z_aload_n C rfl dX5_distanceOf_108 ?_
                      refine zg5_table C (fun w h => List.mem_cons_of_mem _ (um_wsX50 w h)) hM.1 (List.mem_cons_of_mem _ wm32) dX5_distanceOf_109 ?_
                      refine z_ref (hM.q 72 rfl) ?_
                      refine z_bipush 7 (by decide) C dX5_distanceOf_112 ?_
                      refine z_iload_n C rfl dX5_distanceOf_114 ?_
                      refine z_imul C dX5_distanceOf_115 ?_
                      refine z_iload C rfl dX5_distanceOf_116 ?_
                      refine z_iadd C dX5_distanceOf_118 ?_
                      refine z_iconst 1 (by decide) C dX5_distanceOf_119 ?_
                      refine z_isub C dX5_distanceOf_120 ?_
                      refine z_iaload C (hM.k 72 rfl) (hM.b' 72 rfl (⟨7 * (a + 1) + b, ei4, by show _ < 49; omega⟩) (by decide)) dX5_distanceOf_121 ?_
                      refine z_int (hM.t 72 rfl (by decide) _) ?_
                      refine z_int (x' := nI (lvN (cst (fun j => D 50 (6 * g + j)) (fun j => D 50 (6 * h + j))) (a + 1) b)) (by rw [ei4, nI_clamp (by omega)]; exact (congrFun dS_self _).trans (hT _ _ (by omega) (by omega))) ?_
                      refine z_callS 2 [zi (nI (lvN (cst (fun j => D 50 (6 * g + j)) (fun j => D 50 (6 * h + j))) a (b + 1))), zi (nI (lvN (cst (fun j => D 50 (6 * g + j)) (fun j => D 50 (6 * h + j))) (a + 1) b))] C (M_least hl0 (nI (lvN (cst (fun j => D 50 (6 * g + j)) (fun j => D 50 (6 * h + j))) a (b + 1))) (nI (lvN (cst (fun j => D 50 (6 * g + j)) (fun j => D 50 (6 * h + j))) (a + 1) b))) rfl (zgoodS LWm_good wm88 wm89 wm37 wm90) rfl rfl rfl (by decide +kernel) rfl (by rw [hR]; exact ⟨Nat.le_of_ble_eq_true rfl, Nat.le_of_ble_eq_true rfl⟩) (by rw [hR]; exact ⟨Nat.le_of_ble_eq_true rfl, Nat.le_of_ble_eq_true rfl⟩) (Nat.le_of_ble_eq_true rfl) dX5_distanceOf_122 (fun v122 S122 h122 => ?_) (fun E122 S122 h122 => ?_)
                      · obtain ⟨rfl, q122⟩ := h122
                        subst S122
                        refine z_iconst 1 (by decide) C dX5_distanceOf_125 ?_
                        refine z_iadd C dX5_distanceOf_126 ?_
                        refine z_aload_n C rfl dX5_distanceOf_127 ?_
                        refine zg5_table C (fun w h => List.mem_cons_of_mem _ (um_wsX50 w h)) hM.1 (List.mem_cons_of_mem _ wm32) dX5_distanceOf_128 ?_
                        refine z_ref (hM.q 72 rfl) ?_
                        refine z_bipush 7 (by decide) C dX5_distanceOf_131 ?_
                        refine z_iload_n C rfl dX5_distanceOf_133 ?_
                        refine z_iconst 1 (by decide) C dX5_distanceOf_134 ?_
                        refine z_isub C dX5_distanceOf_135 ?_
                        refine z_imul C dX5_distanceOf_136 ?_
                        refine z_iload C rfl dX5_distanceOf_137 ?_
                        refine z_iadd C dX5_distanceOf_139 ?_
                        refine z_iconst 1 (by decide) C dX5_distanceOf_140 ?_
                        refine z_isub C dX5_distanceOf_141 ?_
                        refine z_iaload C (hM.k 72 rfl) (hM.b' 72 rfl (⟨7 * a + b, ei5, by show _ < 49; omega⟩) (by decide)) dX5_distanceOf_142 ?_
                        refine z_int (hM.t 72 rfl (by decide) _) ?_
                        refine z_int (x' := nI (lvN (cst (fun j => D 50 (6 * g + j)) (fun j => D 50 (6 * h + j))) a b)) (by rw [ei5, nI_clamp (by omega)]; exact (congrFun dS_self _).trans (hT _ _ (by omega) (by omega))) ?_
                        refine z_iload C rfl dX5_distanceOf_143 ?_
                        refine z_iadd C dX5_distanceOf_145 ?_
                        refine z_callS 2 [zi ((if nI (lvN (cst (fun j => D 50 (6 * g + j)) (fun j => D 50 (6 * h + j))) a (b + 1)) < nI (lvN (cst (fun j => D 50 (6 * g + j)) (fun j => D 50 (6 * h + j))) (a + 1) b) then nI (lvN (cst (fun j => D 50 (6 * g + j)) (fun j => D 50 (6 * h + j))) a (b + 1)) else nI (lvN (cst (fun j => D 50 (6 * g + j)) (fun j => D 50 (6 * h + j))) (a + 1) b)) + 1), zi (nI (lvN (cst (fun j => D 50 (6 * g + j)) (fun j => D 50 (6 * h + j))) a b) + 1)] C (M_least hl0 ((if nI (lvN (cst (fun j => D 50 (6 * g + j)) (fun j => D 50 (6 * h + j))) a (b + 1)) < nI (lvN (cst (fun j => D 50 (6 * g + j)) (fun j => D 50 (6 * h + j))) (a + 1) b) then nI (lvN (cst (fun j => D 50 (6 * g + j)) (fun j => D 50 (6 * h + j))) a (b + 1)) else nI (lvN (cst (fun j => D 50 (6 * g + j)) (fun j => D 50 (6 * h + j))) (a + 1) b)) + 1) (nI (lvN (cst (fun j => D 50 (6 * g + j)) (fun j => D 50 (6 * h + j))) a b) + 1)) rfl (zgoodS LWm_good wm88 wm89 wm37 wm90) rfl rfl rfl (by decide +kernel) rfl (by rw [hR]; exact ⟨Nat.le_of_ble_eq_true rfl, Nat.le_of_ble_eq_true rfl⟩) (by rw [hR]; exact ⟨Nat.le_of_ble_eq_true rfl, Nat.le_of_ble_eq_true rfl⟩) (Nat.le_of_ble_eq_true rfl) dX5_distanceOf_146 (fun v146 S146 h146 => ?_) (fun E146 S146 h146 => ?_)
                        · obtain ⟨rfl, q146⟩ := h146
                          subst S146
                          refine z_istore [_, _, _, _, _, _, _] C (by decide) rfl dX5_distanceOf_149 ?_
                          refine tail _ _ ?_
                          subst eib ejb
                          rw [lvN_ss, show (cst (fun j => D 50 (6 * g + j)) (fun j => D 50 (6 * h + j))) a b = 1 from if_neg c84, lst_nI (by have := lvN_le (cst (fun j => D 50 (6 * g + j)) (fun j => D 50 (6 * h + j))) a (b + 1); omega) (by have := lvN_le (cst (fun j => D 50 (6 * g + j)) (fun j => D 50 (6 * h + j))) (a + 1) b; omega), ← nI_succ, show nI (lvN (cst (fun j => D 50 (6 * g + j)) (fun j => D 50 (6 * h + j))) a b) + 1 = nI (lvN (cst (fun j => D 50 (6 * g + j)) (fun j => D 50 (6 * h + j))) a b + 1) from nI_add _ 1, lst_nI (by have := lvN_le (cst (fun j => D 50 (6 * g + j)) (fun j => D 50 (6 * h + j))) a (b + 1); have := Nat.min_le_left (lvN (cst (fun j => D 50 (6 * g + j)) (fun j => D 50 (6 * h + j))) a (b + 1)) (lvN (cst (fun j => D 50 (6 * g + j)) (fun j => D 50 (6 * h + j))) (a + 1) b); omega) (by have := lvN_le (cst (fun j => D 50 (6 * g + j)) (fun j => D 50 (6 * h + j))) a b; omega), Nat.min_comm]
                        · exact h146.elim
                      · exact h122.elim
                    · refine z_iconst 0 (by decide) C dX5_distanceOf_87 ?_
                      refine z_goto 92 C dX5_distanceOf_88 (by decide) ?_
                      refine z_istore [_, _, _, _, _, _, _] C (by decide) rfl dX5_distanceOf_92 ?_
                      refine z_aload_n C rfl dX5_distanceOf_94 ?_
                      refine zg5_table C (fun w h => List.mem_cons_of_mem _ (um_wsX50 w h)) hM.1 (List.mem_cons_of_mem _ wm32) dX5_distanceOf_95 ?_
                      refine z_ref (hM.q 72 rfl) ?_
                      refine z_bipush 7 (by decide) C dX5_distanceOf_98 ?_
                      refine z_iload_n C rfl dX5_distanceOf_100 ?_
                      refine z_iconst 1 (by decide) C dX5_distanceOf_101 ?_
                      refine z_isub C dX5_distanceOf_102 ?_
                      refine z_imul C dX5_distanceOf_103 ?_
                      refine z_iload C rfl dX5_distanceOf_104 ?_
                      refine z_iadd C dX5_distanceOf_106 ?_
                      refine z_iaload C (hM.k 72 rfl) (hM.b' 72 rfl (⟨7 * a + (b + 1), ei3, by show _ < 49; omega⟩) (by decide)) dX5_distanceOf_107 ?_
                      refine z_int (hM.t 72 rfl (by decide) _) ?_
                      refine z_int (x' := nI (lvN (cst (fun j => D 50 (6 * g + j)) (fun j => D 50 (6 * h + j))) a (b + 1))) (by rw [ei3, nI_clamp (by omega)]; exact (congrFun dS_self _).trans (hT _ _ (by omega) (by omega))) ?_
                      refine z_aload_n C rfl dX5_distanceOf_108 ?_
                      refine zg5_table C (fun w h => List.mem_cons_of_mem _ (um_wsX50 w h)) hM.1 (List.mem_cons_of_mem _ wm32) dX5_distanceOf_109 ?_
                      refine z_ref (hM.q 72 rfl) ?_
                      refine z_bipush 7 (by decide) C dX5_distanceOf_112 ?_
                      refine z_iload_n C rfl dX5_distanceOf_114 ?_
                      refine z_imul C dX5_distanceOf_115 ?_
                      refine z_iload C rfl dX5_distanceOf_116 ?_
                      refine z_iadd C dX5_distanceOf_118 ?_
                      refine z_iconst 1 (by decide) C dX5_distanceOf_119 ?_
                      refine z_isub C dX5_distanceOf_120 ?_
                      refine z_iaload C (hM.k 72 rfl) (hM.b' 72 rfl (⟨7 * (a + 1) + b, ei4, by show _ < 49; omega⟩) (by decide)) dX5_distanceOf_121 ?_
                      refine z_int (hM.t 72 rfl (by decide) _) ?_
                      refine z_int (x' := nI (lvN (cst (fun j => D 50 (6 * g + j)) (fun j => D 50 (6 * h + j))) (a + 1) b)) (by rw [ei4, nI_clamp (by omega)]; exact (congrFun dS_self _).trans (hT _ _ (by omega) (by omega))) ?_
                      refine z_callS 2 [zi (nI (lvN (cst (fun j => D 50 (6 * g + j)) (fun j => D 50 (6 * h + j))) a (b + 1))), zi (nI (lvN (cst (fun j => D 50 (6 * g + j)) (fun j => D 50 (6 * h + j))) (a + 1) b))] C (M_least hl0 (nI (lvN (cst (fun j => D 50 (6 * g + j)) (fun j => D 50 (6 * h + j))) a (b + 1))) (nI (lvN (cst (fun j => D 50 (6 * g + j)) (fun j => D 50 (6 * h + j))) (a + 1) b))) rfl (zgoodS LWm_good wm88 wm89 wm37 wm90) rfl rfl rfl (by decide +kernel) rfl (by rw [hR]; exact ⟨Nat.le_of_ble_eq_true rfl, Nat.le_of_ble_eq_true rfl⟩) (by rw [hR]; exact ⟨Nat.le_of_ble_eq_true rfl, Nat.le_of_ble_eq_true rfl⟩) (Nat.le_of_ble_eq_true rfl) dX5_distanceOf_122 (fun v122 S122 h122 => ?_) (fun E122 S122 h122 => ?_)
                      · obtain ⟨rfl, q122⟩ := h122
                        subst S122
                        refine z_iconst 1 (by decide) C dX5_distanceOf_125 ?_
                        refine z_iadd C dX5_distanceOf_126 ?_
                        refine z_aload_n C rfl dX5_distanceOf_127 ?_
                        refine zg5_table C (fun w h => List.mem_cons_of_mem _ (um_wsX50 w h)) hM.1 (List.mem_cons_of_mem _ wm32) dX5_distanceOf_128 ?_
                        refine z_ref (hM.q 72 rfl) ?_
                        refine z_bipush 7 (by decide) C dX5_distanceOf_131 ?_
                        refine z_iload_n C rfl dX5_distanceOf_133 ?_
                        refine z_iconst 1 (by decide) C dX5_distanceOf_134 ?_
                        refine z_isub C dX5_distanceOf_135 ?_
                        refine z_imul C dX5_distanceOf_136 ?_
                        refine z_iload C rfl dX5_distanceOf_137 ?_
                        refine z_iadd C dX5_distanceOf_139 ?_
                        refine z_iconst 1 (by decide) C dX5_distanceOf_140 ?_
                        refine z_isub C dX5_distanceOf_141 ?_
                        refine z_iaload C (hM.k 72 rfl) (hM.b' 72 rfl (⟨7 * a + b, ei5, by show _ < 49; omega⟩) (by decide)) dX5_distanceOf_142 ?_
                        refine z_int (hM.t 72 rfl (by decide) _) ?_
                        refine z_int (x' := nI (lvN (cst (fun j => D 50 (6 * g + j)) (fun j => D 50 (6 * h + j))) a b)) (by rw [ei5, nI_clamp (by omega)]; exact (congrFun dS_self _).trans (hT _ _ (by omega) (by omega))) ?_
                        refine z_iload C rfl dX5_distanceOf_143 ?_
                        refine z_iadd C dX5_distanceOf_145 ?_
                        refine z_callS 2 [zi ((if nI (lvN (cst (fun j => D 50 (6 * g + j)) (fun j => D 50 (6 * h + j))) a (b + 1)) < nI (lvN (cst (fun j => D 50 (6 * g + j)) (fun j => D 50 (6 * h + j))) (a + 1) b) then nI (lvN (cst (fun j => D 50 (6 * g + j)) (fun j => D 50 (6 * h + j))) a (b + 1)) else nI (lvN (cst (fun j => D 50 (6 * g + j)) (fun j => D 50 (6 * h + j))) (a + 1) b)) + 1), zi (nI (lvN (cst (fun j => D 50 (6 * g + j)) (fun j => D 50 (6 * h + j))) a b) + 0)] C (M_least hl0 ((if nI (lvN (cst (fun j => D 50 (6 * g + j)) (fun j => D 50 (6 * h + j))) a (b + 1)) < nI (lvN (cst (fun j => D 50 (6 * g + j)) (fun j => D 50 (6 * h + j))) (a + 1) b) then nI (lvN (cst (fun j => D 50 (6 * g + j)) (fun j => D 50 (6 * h + j))) a (b + 1)) else nI (lvN (cst (fun j => D 50 (6 * g + j)) (fun j => D 50 (6 * h + j))) (a + 1) b)) + 1) (nI (lvN (cst (fun j => D 50 (6 * g + j)) (fun j => D 50 (6 * h + j))) a b) + 0)) rfl (zgoodS LWm_good wm88 wm89 wm37 wm90) rfl rfl rfl (by decide +kernel) rfl (by rw [hR]; exact ⟨Nat.le_of_ble_eq_true rfl, Nat.le_of_ble_eq_true rfl⟩) (by rw [hR]; exact ⟨Nat.le_of_ble_eq_true rfl, Nat.le_of_ble_eq_true rfl⟩) (Nat.le_of_ble_eq_true rfl) dX5_distanceOf_146 (fun v146 S146 h146 => ?_) (fun E146 S146 h146 => ?_)
                        · obtain ⟨rfl, q146⟩ := h146
                          subst S146
                          refine z_istore [_, _, _, _, _, _, _] C (by decide) rfl dX5_distanceOf_149 ?_
                          refine tail _ _ ?_
                          subst eib ejb
                          rw [lvN_ss, show (cst (fun j => D 50 (6 * g + j)) (fun j => D 50 (6 * h + j))) a b = 0 from if_pos c84, lst_nI (by have := lvN_le (cst (fun j => D 50 (6 * g + j)) (fun j => D 50 (6 * h + j))) a (b + 1); omega) (by have := lvN_le (cst (fun j => D 50 (6 * g + j)) (fun j => D 50 (6 * h + j))) (a + 1) b; omega), ← nI_succ, show nI (lvN (cst (fun j => D 50 (6 * g + j)) (fun j => D 50 (6 * h + j))) a b) + 0 = nI (lvN (cst (fun j => D 50 (6 * g + j)) (fun j => D 50 (6 * h + j))) a b + 0) from nI_add _ 0, lst_nI (by have := lvN_le (cst (fun j => D 50 (6 * g + j)) (fun j => D 50 (6 * h + j))) a (b + 1); have := Nat.min_le_left (lvN (cst (fun j => D 50 (6 * g + j)) (fun j => D 50 (6 * h + j))) a (b + 1)) (lvN (cst (fun j => D 50 (6 * g + j)) (fun j => D 50 (6 * h + j))) (a + 1) b); omega) (by have := lvN_le (cst (fun j => D 50 (6 * g + j)) (fun j => D 50 (6 * h + j))) a b; omega), Nat.min_comm]
                        · exact h146.elim
                      · exact h122.elim
              · refine z_iload_n C rfl dX5_distanceOf_40 ?_
                refine z_goto 46 C dX5_distanceOf_41 (by decide) ?_
                refine z_istore [_, _, _, _, _, _, _] C (by decide) rfl dX5_distanceOf_46 ?_
                refine z_iload_n C rfl dX5_distanceOf_48 ?_
                refine z_if_le 151 C dX5_distanceOf_49 (by decide) (fun c49 => ?_) (fun c49 => ?_)
                · exact absurd c49 (nI_nle (Nat.pos_of_ne_zero (fun z => c27 (by rw [z]; rfl))) (by omega))
                · refine z_iload C rfl dX5_distanceOf_52 ?_
                  refine z_if_le 151 C dX5_distanceOf_54 (by decide) (fun c54 => ?_) (fun c54 => ?_)
                  · refine tail _ _ ?_
                    rw [show j = 0 from nI_inj (by omega) (by omega) c37, lvN_s0]
                  · exact absurd (by rw [c37]; decide) c54
            · refine z_iload C rfl dX5_distanceOf_30 ?_
              refine z_goto 46 C dX5_distanceOf_32 (by decide) ?_
              refine z_istore [_, _, _, _, _, _, _] C (by decide) rfl dX5_distanceOf_46 ?_
              refine z_iload_n C rfl dX5_distanceOf_48 ?_
              refine z_if_le 151 C dX5_distanceOf_49 (by decide) (fun c49 => ?_) (fun c49 => ?_)
              · refine tail _ _ ?_
                rw [show i = 0 from nI_inj (by omega) (by omega) c27, lvN_0]
              · exact absurd (by rw [c27]; decide) c49
      refine z_iload_n C rfl dX5_distanceOf_2 ?_
      refine z_aload_n C rfl dX5_distanceOf_3 ?_
      refine zg5_nameSize C (fun w h => List.mem_cons_of_mem _ (um_wsX50 w h)) hM.1 (List.mem_cons_of_mem _ wm11) dX5_distanceOf_4 ?_
      refine z_ref (hM.q 49 rfl) ?_
      refine z_iload_n C rfl dX5_distanceOf_7 ?_
      refine z_iaload C (hM.k 49 rfl) (hM.b' 49 rfl (⟨g, rfl, by show g < 16; omega⟩) (by decide)) dX5_distanceOf_8 ?_
      refine z_int (hM.t 49 rfl (by decide) _) ?_
      refine z_int (x' := nI n1) ((dS_no (by decide) _).trans ((congrArg _ (nI_clamp (by omega))).trans e1)) ?_
      refine z_icmp_gt 177 C dX5_distanceOf_9 (by decide) (fun c9 => ?_) (fun c9 => ?_)
      · exact absurd c9 (by rw [Int32.not_lt]; exact nI_le (by omega) (by omega))
      · refine z_iconst 0 (by decide) C dX5_distanceOf_12 ?_
        refine z_istore [_, _, _, _, _, _, _] C (by decide) rfl dX5_distanceOf_13 ?_
        exact inner (n2 + 1) 0 T S1 w5 w6 (by omega) hM hT
  refine z_iconst 0 (by decide) C dX5_distanceOf_0 ?_
  refine z_istore_n [_, _, _, _, _, _, _] C (by decide) rfl dX5_distanceOf_1 ?_
  exact outer (n1 + 1) 0 T0 S none none none (by omega) hM (fun a b _ hab => by omega)
theorem M_distX {l : Launch} (hl0 : l.stackTraces = false) {D : ZD} {J : Nat → Int64} {S : ZM} {M : Nat} {r : Nat → Nat} (hM0 : ∃ T0 : Nat → Int32, mR (dS D 72 T0) J S M r) (hQ3 : nmOk D) {x y : Int32} {g h : Nat} (ex : x = nI g) (ey : y = nI h) (hg : g < 16) (hh : h < 16) : zMet l yX5_distanceOf (Cond.code yX5_distanceOf cX5_distanceOf 7 (some .int) :: LWm) ({ frames := 1, cells := 0, slots := 0, locals := 21 } : Room) 0 0 [zr (some M), zi x, zi y] S (zPo (fun v S' => v = some (zi (nI (lvD D g h))) ∧ ∃ T : Nat → Int32, mR (dS D 72 T) J S' M r) (fun _ _ => False)) := by
  subst ex ey
  exact M_distanceOf hl0 hM0 hQ3 hg hh
theorem mR.tb {D : ZD} {J : Nat → Int64} {S : ZM} {M : Nat} {r : Nat → Nat} (h : mR D J S M r) : ∃ T0 : Nat → Int32, mR (dS D 72 T0) J S M r := by
  refine ⟨D 72, ?_⟩
  rw [show dS D 72 (D 72) = D from by
    funext k
    by_cases q : k = 72
    · subst q; exact dS_self
    · exact dS_ne q]
  exact h
theorem wfM.tb {D : ZD} (h : wfM D) (T : Nat → Int32) : wfM (dS D 72 T) := fun l hl => by
  have e : core (dS D 72 T) = core D := core_dS (by decide)
  rw [dL_of e] at hl
  rw [good_of e]
  obtain ⟨g1, g2, g3⟩ := h l hl
  exact ⟨(dS_no (by decide) _).trans g1, (dS_no (by decide) _).trans g2, fun j x q => (dS_no (by decide) _).trans (g3 j x q)⟩
theorem okM.tb {D : ZD} {J : Nat → Int64} {S : ZM} {M : Nat} {r : Nat → Nat} {T : Nat → Int32} (h : mR (dS D 72 T) J S M r) (h39 : D 39 0 = 0) (hW : wfM D) : okM J S M r D := ⟨_, h, (dS_no (by decide) 0).trans h39, (eqJ.refl D).dS rfl T, hW.tb T⟩
/-- the reference has thrown, and is as it was but for what no answer rests on -/
def flM (J : Nat → Int64) (S' : ZM) (M : Nat) (r : Nat → Nat) (X : ZD) (e : Int32) : Prop := ∃ D' : ZD, mR (s39 D' e) J S' M r ∧ D' 39 0 = 0 ∧ eqJ D' X ∧ wfM D'
theorem flM.tb {D : ZD} {J : Nat → Int64} {S : ZM} {M : Nat} {r : Nat → Nat} {T : Nat → Int32} {e : Int32} (h : mR (s39 (dS D 72 T) e) J S M r) (h39 : D 39 0 = 0) (hW : wfM D) : flM J S M r D e := ⟨_, h, (dS_no (by decide) 0).trans h39, (eqJ.refl D).dS rfl T, hW.tb T⟩
theorem flM.of {D : ZD} {J : Nat → Int64} {S : ZM} {M : Nat} {r : Nat → Nat} {e : Int32} (h : mR (s39 D e) J S M r) (h39 : D 39 0 = 0) (hW : wfM D) : flM J S M r D e := ⟨D, h, h39, eqJ.refl D, hW⟩
theorem okM.of {D : ZD} {J : Nat → Int64} {S : ZM} {M : Nat} {r : Nat → Nat} (h : mR D J S M r) (h39 : D 39 0 = 0) (hW : wfM D) : okM J S M r D := ⟨D, h, h39, eqJ.refl D, hW⟩
theorem lvD_le {D : ZD} (hQ3 : nmOk D) {g h : Nat} (hg : g < 16) (hh : h < 16) : lvD D g h ≤ 12 := by
  obtain ⟨n1, e1, hn1, -⟩ := hQ3 g hg
  obtain ⟨n2, e2, hn2, -⟩ := hQ3 h hh
  have := lvN_le (cst (fun j => D 50 (6 * g + j)) (fun j => D 50 (6 * h + j))) (ix (D 49 g)) (ix (D 49 h))
  have a1 : ix (D 49 g) = n1 := by rw [e1]; exact nI_clamp (by omega)
  have a2 : ix (D 49 h) = n2 := by rw [e2]; exact nI_clamp (by omega)
  unfold lvD
  omega
set_option maxRecDepth 100000 in
set_option maxHeartbeats 800000 in
theorem M_distance {l : Launch} (hl0 : l.stackTraces = false) {D : ZD} {J : Nat → Int64} {S : ZM} {M : Nat} {r : Nat → Nat} (hM0 : iM D J S M r) (h39 : D 39 0 = 0) (hC : wC D) (hQ3 : nmOk D) (hW : wfM D) (x y : Int32) : zMet l yX5_distance (Cond.code yX5_distance cX5_distance 3 (some .int) :: LWm) ({ frames := 2, cells := 0, slots := 0, locals := 47 } : Room) 0 0 [zr (some M), zi x, zi y] S (zPo (fun v S' => (hasTg D x ∧ hasTg D y ∧ v = some (zi (nI (lvD D (ix x) (ix y)))) ∧ okM J S' M r D) ∨ (¬ (hasTg D x ∧ hasTg D y) ∧ v = some (zi 0) ∧ mR (s39 D 1) J S' M r)) (fun _ _ => False)) := by
  refine zMet.of' [some (zr (some M)), some (zi x), some (zi y)] hl0 (by decide) rfl (Nat.le_of_ble_eq_true rfl) rfl ?_
  intro X C N hR hN0 hX F
  subst hX
  have hN := hC.1
  obtain ⟨w0, hM⟩ := id hM0
  refine z_aload_n C rfl dX5_distance_0 ?_
  refine z_iconst 0 (by decide) C dX5_distance_1 ?_
  refine zp5_thrown C (fun w h => List.mem_cons_of_mem _ (um_wsX50 w h)) hM.1 (List.mem_cons_of_mem _ wm33) dX5_distance_2 ?_
  have hM := hM0.th h39
  refine z_aload_n C rfl dX5_distance_5 ?_
  refine z_aload_n C rfl dX5_distance_6 ?_
  refine z_iload_n C rfl dX5_distance_7 ?_
  refine z_callM 1 [zi x] C rfl (M_noTag hl0 hM hN x) rfl (zgoodV LWm_good wm80 wm81 wm82 wm37 wm83) rfl rfl rfl (by decide +kernel) rfl (by rw [hR]; exact ⟨Nat.le_of_ble_eq_true rfl, Nat.le_of_ble_eq_true rfl⟩) hM.1 (by rw [hR]; exact ⟨Nat.le_of_ble_eq_true rfl, Nat.le_of_ble_eq_true rfl⟩) (Nat.le_of_ble_eq_true rfl) dX5_distance_8 (fun v8 S8 h8 => ?_) (fun E8 S8 h8 => ?_)
  · obtain ⟨b8, rfl, hb8, q8⟩ := h8
    subst S8
    cases b8 with
    | false =>
      have y8 := hb8.mp rfl
      refine z_if_ne 22 C dX5_distance_11 (by decide) (fun c11 => absurd c11 (by decide)) (fun _ => ?_)
      refine z_aload_n C rfl dX5_distance_14 ?_
      refine z_iload_n C rfl dX5_distance_15 ?_
      refine z_callM 1 [zi y] C rfl (M_noTag hl0 hM hN y) rfl (zgoodV LWm_good wm80 wm81 wm82 wm37 wm83) rfl rfl rfl (by decide +kernel) rfl (by rw [hR]; exact ⟨Nat.le_of_ble_eq_true rfl, Nat.le_of_ble_eq_true rfl⟩) hM.1 (by rw [hR]; exact ⟨Nat.le_of_ble_eq_true rfl, Nat.le_of_ble_eq_true rfl⟩) (Nat.le_of_ble_eq_true rfl) dX5_distance_16 (fun v16 S16 h16 => ?_) (fun E16 S16 h16 => ?_)
      · obtain ⟨b16, rfl, hb16, q16⟩ := h16
        subst S16
        cases b16 with
        | false =>
          have y16 := hb16.mp rfl
          refine z_if_eq 26 C dX5_distance_19 (by decide) (fun _ => ?_) (fun c19 => absurd c19 (by decide))
          refine z_iconst 0 (by decide) C dX5_distance_26 ?_
          refine z_iconst 1 (by decide) C dX5_distance_27 ?_
          refine z_callM 2 [zi (0), zi 1] C rfl (M_fails0 hl0 hM h39 0 1 (by decide)) rfl (zgoodV LWm_good wm64 wm65 wm66 wm37 wm67) rfl rfl rfl (by decide +kernel) rfl (by rw [hR]; exact ⟨Nat.le_of_ble_eq_true rfl, Nat.le_of_ble_eq_true rfl⟩) hM.1 (by rw [hR]; exact ⟨Nat.le_of_ble_eq_true rfl, Nat.le_of_ble_eq_true rfl⟩) (Nat.le_of_ble_eq_true rfl) dX5_distance_28 (fun v28 S28 h28 => ?_) (fun E28 S28 h28 => ?_)
          · obtain ⟨rfl, q28⟩ := h28
            subst S28
            refine z_if_eq 38 C dX5_distance_31 (by decide) (fun _ => ?_) (fun c31 => absurd c31 (by decide))
            refine z_aload_n C rfl dX5_distance_38 ?_
            refine z_iload_n C rfl dX5_distance_39 ?_
            refine z_iload_n C rfl dX5_distance_40 ?_
            refine z_callM 2 [zi x, zi y] C rfl (M_distX hl0 (hM.tb) hQ3 (x := x) (y := y) y8.d.2.2.1 y16.d.2.2.1 y8.d.1 y16.d.1) rfl (zgoodV LWm_good wm91 wm92 wm93 wm37 wm94) rfl rfl rfl (by decide +kernel) rfl (by rw [hR]; exact ⟨Nat.le_of_ble_eq_true rfl, Nat.le_of_ble_eq_true rfl⟩) hM.1 (by rw [hR]; exact ⟨Nat.le_of_ble_eq_true rfl, Nat.le_of_ble_eq_true rfl⟩) (Nat.le_of_ble_eq_true rfl) dX5_distance_41 (fun v41 S41 h41 => ?_) (fun E41 S41 h41 => ?_)
            · obtain ⟨rfl, T41, hM⟩ := h41
              refine z_ireturn C F (Nat.le_of_ble_eq_true rfl) (Nat.le_of_ble_eq_true rfl) dX5_distance_44 ?_
              exact Or.inl ⟨y8, y16, rfl, okM.tb hM h39 hW⟩
            · exact h41.elim
          · exact h28.elim
        | true =>
          have y16 := b_tf hb16
          refine z_if_eq 26 C dX5_distance_19 (by decide) (fun c19 => absurd c19 (by decide)) (fun _ => ?_)
          refine z_iconst 1 (by decide) C dX5_distance_22 ?_
          refine z_goto 27 C dX5_distance_23 (by decide) ?_
          refine z_iconst 1 (by decide) C dX5_distance_27 ?_
          refine z_callM 2 [zi (1), zi 1] C rfl (M_fails1 hl0 hM h39 1 1 (by decide)) rfl (zgoodV LWm_good wm64 wm65 wm66 wm37 wm67) rfl rfl rfl (by decide +kernel) rfl (by rw [hR]; exact ⟨Nat.le_of_ble_eq_true rfl, Nat.le_of_ble_eq_true rfl⟩) hM.1 (by rw [hR]; exact ⟨Nat.le_of_ble_eq_true rfl, Nat.le_of_ble_eq_true rfl⟩) (Nat.le_of_ble_eq_true rfl) dX5_distance_28 (fun v28 S28 h28 => ?_) (fun E28 S28 h28 => ?_)
          · obtain ⟨rfl, hM⟩ := h28
            refine z_if_eq 38 C dX5_distance_31 (by decide) (fun c31 => absurd c31 (by decide)) (fun _ => ?_)
            refine z_iconst 0 (by decide) C dX5_distance_34 ?_
            refine z_goto 44 C dX5_distance_35 (by decide) ?_
            refine z_ireturn C F (Nat.le_of_ble_eq_true rfl) (Nat.le_of_ble_eq_true rfl) dX5_distance_44 ?_
            first | exact Or.inr ⟨fun z => y8 z.1, rfl, hM⟩ | exact Or.inr ⟨fun z => y16 z.2, rfl, hM⟩
          · exact h28.elim
      · exact h16.elim
    | true =>
      have y8 := b_tf hb8
      refine z_if_ne 22 C dX5_distance_11 (by decide) (fun _ => ?_) (fun c11 => absurd c11 (by decide))
      refine z_iconst 1 (by decide) C dX5_distance_22 ?_
      refine z_goto 27 C dX5_distance_23 (by decide) ?_
      refine z_iconst 1 (by decide) C dX5_distance_27 ?_
      refine z_callM 2 [zi (1), zi 1] C rfl (M_fails1 hl0 hM h39 1 1 (by decide)) rfl (zgoodV LWm_good wm64 wm65 wm66 wm37 wm67) rfl rfl rfl (by decide +kernel) rfl (by rw [hR]; exact ⟨Nat.le_of_ble_eq_true rfl, Nat.le_of_ble_eq_true rfl⟩) hM.1 (by rw [hR]; exact ⟨Nat.le_of_ble_eq_true rfl, Nat.le_of_ble_eq_true rfl⟩) (Nat.le_of_ble_eq_true rfl) dX5_distance_28 (fun v28 S28 h28 => ?_) (fun E28 S28 h28 => ?_)
      · obtain ⟨rfl, hM⟩ := h28
        refine z_if_eq 38 C dX5_distance_31 (by decide) (fun c31 => absurd c31 (by decide)) (fun _ => ?_)
        refine z_iconst 0 (by decide) C dX5_distance_34 ?_
        refine z_goto 44 C dX5_distance_35 (by decide) ?_
        refine z_ireturn C F (Nat.le_of_ble_eq_true rfl) (Nat.le_of_ble_eq_true rfl) dX5_distance_44 ?_
        first | exact Or.inr ⟨fun z => y8 z.1, rfl, hM⟩ | exact Or.inr ⟨fun z => y16 z.2, rfl, hM⟩
      · exact h28.elim
  · exact h8.elim
set_option maxRecDepth 100000 in
set_option maxHeartbeats 800000 in
theorem M_distanceByTrying {l : Launch} (hl0 : l.stackTraces = false) {D : ZD} {J : Nat → Int64} {S : ZM} {M : Nat} {r : Nat → Nat} (hM0 : iM D J S M r) (h39 : D 39 0 = 0) (hC : wC D) (hQ3 : nmOk D) (hW : wfM D) (x y : Int32) : zMet l yX5_distanceByTrying (Cond.code yX5_distanceByTrying cX5_distanceByTrying 3 (some .int) :: LWm) ({ frames := 3, cells := 0, slots := 0, locals := 69 } : Room) 0 0 [zr (some M), zi x, zi y] S (zPo (fun v S' => (hasTg D x ∧ hasTg D y ∧ v = some (zi (nI (lvD D (ix x) (ix y)))) ∧ okM J S' M r D) ∨ (¬ (hasTg D x ∧ hasTg D y) ∧ v = some (zi 0) ∧ mR (s39 D 1) J S' M r)) (fun _ _ => False)) := by
  refine zMet.of' [some (zr (some M)), some (zi x), some (zi y)] hl0 (by decide) rfl (Nat.le_of_ble_eq_true rfl) rfl ?_
  intro X C N hR hN0 hX F
  subst hX
  refine z_aload_n C rfl dX5_distanceByTrying_0 ?_
  refine z_iload_n C rfl dX5_distanceByTrying_1 ?_
  refine z_iload_n C rfl dX5_distanceByTrying_2 ?_
  refine z_callM 2 [zi x, zi y] C rfl (M_distance hl0 hM0 h39 hC hQ3 hW x y) rfl (zgoodV LWm_good wm122 wm123 wm124 wm37 wm125) rfl rfl rfl (by decide +kernel) rfl (by rw [hR]; exact ⟨Nat.le_of_ble_eq_true rfl, Nat.le_of_ble_eq_true rfl⟩) hM0.k (by rw [hR]; exact ⟨Nat.le_of_ble_eq_true rfl, Nat.le_of_ble_eq_true rfl⟩) (Nat.le_of_ble_eq_true rfl) dX5_distanceByTrying_3 (fun v3 S3 h3 => ?_) (fun E3 S3 h3 => ?_)
  · obtain ⟨w3, rfl⟩ : ∃ w3 : Int32, v3 = some (zi w3) := by
      rcases h3 with ⟨-, -, e, -⟩ | ⟨-, e, -⟩
      · exact ⟨_, e⟩
      · exact ⟨_, e⟩
    refine z_ireturn C F (Nat.le_of_ble_eq_true rfl) (Nat.le_of_ble_eq_true rfl) dX5_distanceByTrying_6 ?_
    exact h3
  · exact h3.elim
def itI (D : ZD) (g : Nat) (o : Option Nat) : Int32 := match o with
  | none => 99
  | some b => nI (lvD D g b)
theorem nrD_all {D : ZD} {g : Nat} (h : dG D ≤ 16) : nrD D g (dG D) = nrD D g 16 := by
  have : ∀ m : Nat, nrD D g (dG D + m) = nrD D g (dG D) := by
    intro m
    induction m with
    | zero => rfl
    | succ m ih => rw [← Nat.add_assoc, nrD_no (fun z => by have := z.1; omega)]; exact ih
  have := this (16 - dG D)
  rw [show dG D + (16 - dG D) = 16 by omega] at this
  exact this.symm
set_option maxRecDepth 100000 in
set_option maxHeartbeats 800000 in
theorem M_nearest {l : Launch} (hl0 : l.stackTraces = false) {D : ZD} {J : Nat → Int64} {S : ZM} {M : Nat} {r : Nat → Nat} (hM0 : iM D J S M r) (h39 : D 39 0 = 0) (hC : wC D) (hQ3 : nmOk D) (hW : wfM D) (x : Int32) : zMet l yX5_nearest (Cond.code yX5_nearest cX5_nearest 5 (some .int) :: LWm) ({ frames := 2, cells := 0, slots := 0, locals := 47 } : Room) 0 0 [zr (some M), zi x] S (zPo (fun v S' => (hasTg D x ∧ ∃ b : Nat, nrD D (ix x) 16 = some b ∧ v = some (zi (nI b)) ∧ okM J S' M r D) ∨ (¬ hasTg D x ∧ v = some (zi 0) ∧ flM J S' M r D 1) ∨ (hasTg D x ∧ nrD D (ix x) 16 = none ∧ v = some (zi 0) ∧ flM J S' M r D 2)) (fun _ _ => False)) := by
  refine zMet.of' [some (zr (some M)), some (zi x), none, none, none] hl0 (by decide) rfl (Nat.le_of_ble_eq_true rfl) rfl ?_
  intro X C N hR hN0 hX F
  subst hX
  have hN := hC.1
  obtain ⟨w0, hM⟩ := id hM0
  refine z_aload_n C rfl dX5_nearest_0 ?_
  refine z_iconst 0 (by decide) C dX5_nearest_1 ?_
  refine zp5_thrown C (fun w h => List.mem_cons_of_mem _ (um_wsX50 w h)) hM.1 (List.mem_cons_of_mem _ wm33) dX5_nearest_2 ?_
  have hM := hM0.th h39
  refine z_aload_n C rfl dX5_nearest_5 ?_
  refine z_aload_n C rfl dX5_nearest_6 ?_
  refine z_iload_n C rfl dX5_nearest_7 ?_
  refine z_callM 1 [zi x] C rfl (M_noTag hl0 hM hN x) rfl (zgoodV LWm_good wm80 wm81 wm82 wm37 wm83) rfl rfl rfl (by decide +kernel) rfl (by rw [hR]; exact ⟨Nat.le_of_ble_eq_true rfl, Nat.le_of_ble_eq_true rfl⟩) hM.1 (by rw [hR]; exact ⟨Nat.le_of_ble_eq_true rfl, Nat.le_of_ble_eq_true rfl⟩) (Nat.le_of_ble_eq_true rfl) dX5_nearest_8 (fun v8 S8 h8 => ?_) (fun E8 S8 h8 => ?_)
  · obtain ⟨b8, rfl, hb8, q8⟩ := h8
    subst S8
    refine z_iconst 1 (by decide) C dX5_nearest_11 ?_
    cases b8 with
    | false =>
      have y8 := hb8.mp rfl
      refine z_callM 2 [zi (bI false), zi 1] C rfl (M_fails0 hl0 hM h39 (bI false) 1 (by decide)) rfl (zgoodV LWm_good wm64 wm65 wm66 wm37 wm67) rfl rfl rfl (by decide +kernel) rfl (by rw [hR]; exact ⟨Nat.le_of_ble_eq_true rfl, Nat.le_of_ble_eq_true rfl⟩) hM.1 (by rw [hR]; exact ⟨Nat.le_of_ble_eq_true rfl, Nat.le_of_ble_eq_true rfl⟩) (Nat.le_of_ble_eq_true rfl) dX5_nearest_12 (fun v12 S12 h12 => ?_) (fun E12 S12 h12 => ?_)
      · obtain ⟨rfl, q12⟩ := h12
        subst S12
        refine z_if_eq 20 C dX5_nearest_15 (by decide) (fun _ => ?_) (fun c15 => absurd c15 (by decide))
        obtain ⟨w1, w2, w3, w4⟩ := y8.d
        have hd48 : D 48 0 = nI (dG D) := hN.2.1.1
        have h16 : dG D ≤ 16 := hN.2.1.2
        have after : ∀ (T : Nat → Int32) (S1 : ZM), mR (dS D 72 T) J S1 M r → zW X 5 (0 + 0 + 0) (0 + 0 + 0) S1 81 [some (zr (some M)), some (zi x), some (zi (fcI (nrD D (ix x) (dG D)))), some (zi (itI D (ix x) (nrD D (ix x) (dG D)))), some (zi (nI (dG D)))] [] := by
          intro T S1 hM
          have h39 : (dS D 72 T) 39 0 = 0 := (dS_no (by decide) 0).trans h39
          refine z_aload_n C rfl dX5_nearest_81 ?_
          refine z_iload_n C rfl dX5_nearest_82 ?_
          refine z_iconst (-1) (by decide) C dX5_nearest_83 ?_
          refine z_icmp_ne 91 C dX5_nearest_84 (by decide) (fun c84 => ?_) (fun c84 => ?_)
          · obtain ⟨b9, hb9⟩ : ∃ b : Nat, nrD D (ix x) 16 = some b := by
              cases hq : nrD D (ix x) 16 with
              | none => exact absurd ((fcI_m1 (fun j q => by have := (nrD_lt q).1; omega)).mpr (by rw [nrD_all h16]; exact hq)) c84
              | some b => exact ⟨b, rfl⟩
            refine z_iconst 0 (by decide) C dX5_nearest_91 ?_
            refine z_iconst 2 (by decide) C dX5_nearest_92 ?_
            refine z_callM 2 [zi (0), zi 2] C rfl (M_fails0 hl0 hM h39 0 2 (by decide)) rfl (zgoodV LWm_good wm64 wm65 wm66 wm37 wm67) rfl rfl rfl (by decide +kernel) rfl (by rw [hR]; exact ⟨Nat.le_of_ble_eq_true rfl, Nat.le_of_ble_eq_true rfl⟩) hM.1 (by rw [hR]; exact ⟨Nat.le_of_ble_eq_true rfl, Nat.le_of_ble_eq_true rfl⟩) (Nat.le_of_ble_eq_true rfl) dX5_nearest_93 (fun v93 S93 h93 => ?_) (fun E93 S93 h93 => ?_)
            · obtain ⟨rfl, q93⟩ := h93
              subst S93
              refine z_if_eq 103 C dX5_nearest_96 (by decide) (fun _ => ?_) (fun c96 => absurd c96 (by decide))
              refine z_iload_n C rfl dX5_nearest_103 ?_
              refine z_ireturn C F (Nat.le_of_ble_eq_true rfl) (Nat.le_of_ble_eq_true rfl) dX5_nearest_104 ?_
              exact Or.inl ⟨y8, b9, hb9, by rw [nrD_all h16, hb9]; rfl, okM.tb hM h39 hW⟩
            · exact h93.elim
          · have hnone : nrD D (ix x) 16 = none := by rw [← nrD_all h16]; exact (fcI_m1 (fun j q => by have := (nrD_lt q).1; omega)).mp c84
            have h39b : D 39 0 = 0 := h39
            refine z_iconst 1 (by decide) C dX5_nearest_87 ?_
            refine z_goto 92 C dX5_nearest_88 (by decide) ?_
            refine z_iconst 2 (by decide) C dX5_nearest_92 ?_
            refine z_callM 2 [zi (1), zi 2] C rfl (M_fails1 hl0 hM h39 1 2 (by decide)) rfl (zgoodV LWm_good wm64 wm65 wm66 wm37 wm67) rfl rfl rfl (by decide +kernel) rfl (by rw [hR]; exact ⟨Nat.le_of_ble_eq_true rfl, Nat.le_of_ble_eq_true rfl⟩) hM.1 (by rw [hR]; exact ⟨Nat.le_of_ble_eq_true rfl, Nat.le_of_ble_eq_true rfl⟩) (Nat.le_of_ble_eq_true rfl) dX5_nearest_93 (fun v93 S93 h93 => ?_) (fun E93 S93 h93 => ?_)
            · obtain ⟨rfl, hM⟩ := h93
              refine z_if_eq 103 C dX5_nearest_96 (by decide) (fun c96 => absurd c96 (by decide)) (fun _ => ?_)
              refine z_iconst 0 (by decide) C dX5_nearest_99 ?_
              refine z_goto 104 C dX5_nearest_100 (by decide) ?_
              refine z_ireturn C F (Nat.le_of_ble_eq_true rfl) (Nat.le_of_ble_eq_true rfl) dX5_nearest_104 ?_
              exact Or.inr (Or.inr ⟨y8, hnone, rfl, flM.tb hM h39 hW⟩)
            · exact h93.elim
        have loop : ∀ (m k : Nat) (T : Nat → Int32) (S1 : ZM), k + m = dG D → mR (dS D 72 T) J S1 M r → zW X 5 (0 + 0 + 0) (0 + 0 + 0) S1 28 [some (zr (some M)), some (zi x), some (zi (fcI (nrD D (ix x) k))), some (zi (itI D (ix x) (nrD D (ix x) k))), some (zi (nI k))] [] := by
          intro m
          induction m with
          | zero =>
            intro k T S1 hk hM
            obtain rfl : k = dG D := by omega
            refine z_iload C rfl dX5_nearest_28 ?_
            refine z_aload_n C rfl dX5_nearest_30 ?_
            refine zg5_tags C (fun w h => List.mem_cons_of_mem _ (um_wsX50 w h)) hM.1 (List.mem_cons_of_mem _ wm39) dX5_nearest_31 ?_
            refine z_int (hM.i 48 rfl) ?_
            refine z_int ((dS_no (by decide) 0).trans hd48) ?_
            refine z_icmp_ge 81 C dX5_nearest_34 (by decide) (fun c34 => ?_) (fun c34 => ?_)
            · exact after T S1 hM
            · exact absurd (Int32.le_refl _) c34
          | succ m ih =>
            intro k T S1 hk hM
            have hkd : k < dG D := by omega
            refine z_iload C rfl dX5_nearest_28 ?_
            refine z_aload_n C rfl dX5_nearest_30 ?_
            refine zg5_tags C (fun w h => List.mem_cons_of_mem _ (um_wsX50 w h)) hM.1 (List.mem_cons_of_mem _ wm39) dX5_nearest_31 ?_
            refine z_int (hM.i 48 rfl) ?_
            refine z_int ((dS_no (by decide) 0).trans hd48) ?_
            refine z_icmp_ge 81 C dX5_nearest_34 (by decide) (fun c34 => ?_) (fun c34 => ?_)
            · exact absurd c34 (n_ge hkd (by omega))
            · refine z_iload C rfl dX5_nearest_37 ?_
              refine z_iload_n C rfl dX5_nearest_39 ?_
              refine z_icmp_eq 75 C dX5_nearest_40 (by decide) (fun c40 => ?_) (fun c40 => ?_)
              · refine z_inc (1) [_, _, _, _, _] C rfl (by decide) (by decide) rfl dX5_nearest_75 ?_
                refine z_goto 28 C dX5_nearest_78 (by decide) ?_
                have q := ih (k + 1) T _ (by omega) hM
                rw [nrD_no (fun z => z.2.2 (by rw [w3] at c40; exact nI_inj (by omega) (by omega) c40)), nI_succ] at q
                exact q
              · refine z_aload_n C rfl dX5_nearest_43 ?_
                refine zg5_isGone C (fun w h => List.mem_cons_of_mem _ (um_wsX50 w h)) hM.1 (List.mem_cons_of_mem _ wm14) dX5_nearest_44 ?_
                refine z_ref (hM.q 51 rfl) ?_
                refine z_iload C rfl dX5_nearest_47 ?_
                refine z_zaload C (hM.k 51 rfl) (hM.b' 51 rfl (⟨k, rfl, by show k < 16; omega⟩) (by decide)) dX5_nearest_49 ?_
                refine z_int (hM.t 51 rfl (by decide) _) ?_
                refine z_int (x' := D 51 k) ((dS_no (by decide) _).trans (congrArg _ (nI_clamp (by omega)))) ?_
                refine z_if_ne 75 C dX5_nearest_50 (by decide) (fun c50 => ?_) (fun c50 => ?_)
                · refine z_inc (1) [_, _, _, _, _] C rfl (by decide) (by decide) rfl dX5_nearest_75 ?_
                  refine z_goto 28 C dX5_nearest_78 (by decide) ?_
                  have q := ih (k + 1) T _ (by omega) hM
                  rw [nrD_no (fun z => c50 z.2.1), nI_succ] at q
                  exact q
                · refine z_aload_n C rfl dX5_nearest_53 ?_
                  refine z_iload_n C rfl dX5_nearest_54 ?_
                  refine z_iload C rfl dX5_nearest_55 ?_
                  refine z_callM 2 [zi x, zi (nI k)] C rfl (M_distX hl0 (⟨_, hM⟩) hQ3 (x := x) (y := (nI k)) w3 rfl w1 (by omega)) rfl (zgoodV LWm_good wm91 wm92 wm93 wm37 wm94) rfl rfl rfl (by decide +kernel) rfl (by rw [hR]; exact ⟨Nat.le_of_ble_eq_true rfl, Nat.le_of_ble_eq_true rfl⟩) hM.1 (by rw [hR]; exact ⟨Nat.le_of_ble_eq_true rfl, Nat.le_of_ble_eq_true rfl⟩) (Nat.le_of_ble_eq_true rfl) dX5_nearest_57 (fun v57 S57 h57 => ?_) (fun E57 S57 h57 => ?_)
                  · obtain ⟨rfl, T57, hM⟩ := h57
                    refine z_iload_n C rfl dX5_nearest_60 ?_
                    refine z_icmp_ge 75 C dX5_nearest_61 (by decide) (fun c61 => ?_) (fun c61 => ?_)
                    · refine z_inc (1) [_, _, _, _, _] C rfl (by decide) (by decide) rfl dX5_nearest_75 ?_
                      refine z_goto 28 C dX5_nearest_78 (by decide) ?_
                      have hok : okG D (ix x) k := ⟨hkd, c50, fun z => c40 (by rw [z]; exact w3.symm)⟩
                      have q := ih (k + 1) T57 _ (by omega) hM
                      rw [show nrD D (ix x) (k + 1) = nrD D (ix x) k from by
                        cases hq : nrD D (ix x) k with
                        | none =>
                          rw [hq] at c61
                          have c61 : nI 99 ≤ nI (lvD D (ix x) k) := c61
                          have := lvD_le hQ3 w1 (show k < 16 by omega)
                          exact absurd c61 (n_ge (by omega) (by decide))
                        | some b =>
                          rw [hq] at c61
                          have c61 : nI (lvD D (ix x) b) ≤ nI (lvD D (ix x) k) := c61
                          have hb := (nrD_lt hq).1
                          have l1 := lvD_le hQ3 w1 (show k < 16 by omega)
                          have l2 := lvD_le hQ3 w1 (show b < 16 by omega)
                          exact nrD_old hq (by have := (nI_leI (by omega) (by omega)).1 c61; omega), nI_succ] at q
                      exact q
                    · refine z_iload C rfl dX5_nearest_64 ?_
                      refine z_istore_n [_, _, _, _, _] C (by decide) rfl dX5_nearest_66 ?_
                      refine z_aload_n C rfl dX5_nearest_67 ?_
                      refine z_iload_n C rfl dX5_nearest_68 ?_
                      refine z_iload C rfl dX5_nearest_69 ?_
                      refine z_callM 2 [zi x, zi (nI k)] C rfl (M_distX hl0 (⟨_, hM⟩) hQ3 (x := x) (y := (nI k)) w3 rfl w1 (by omega)) rfl (zgoodV LWm_good wm91 wm92 wm93 wm37 wm94) rfl rfl rfl (by decide +kernel) rfl (by rw [hR]; exact ⟨Nat.le_of_ble_eq_true rfl, Nat.le_of_ble_eq_true rfl⟩) hM.1 (by rw [hR]; exact ⟨Nat.le_of_ble_eq_true rfl, Nat.le_of_ble_eq_true rfl⟩) (Nat.le_of_ble_eq_true rfl) dX5_nearest_71 (fun v71 S71 h71 => ?_) (fun E71 S71 h71 => ?_)
                      · obtain ⟨rfl, T71, hM⟩ := h71
                        refine z_istore_n [_, _, _, _, _] C (by decide) rfl dX5_nearest_74 ?_
                        refine z_inc (1) [_, _, _, _, _] C rfl (by decide) (by decide) rfl dX5_nearest_75 ?_
                        refine z_goto 28 C dX5_nearest_78 (by decide) ?_
                        have hok : okG D (ix x) k := ⟨hkd, c50, fun z => c40 (by rw [z]; exact w3.symm)⟩
                        have q := ih (k + 1) T71 _ (by omega) hM
                        rw [show nrD D (ix x) (k + 1) = some k from by
                          cases hq : nrD D (ix x) k with
                          | none => exact nrD_first hok hq
                          | some b =>
                            rw [hq] at c61
                            have c61 : ¬ nI (lvD D (ix x) b) ≤ nI (lvD D (ix x) k) := c61
                            have hb := (nrD_lt hq).1
                            have l1 := lvD_le hQ3 w1 (show k < 16 by omega)
                            have l2 := lvD_le hQ3 w1 (show b < 16 by omega)
                            exact nrD_new hok hq (Nat.lt_of_not_le (fun z => c61 (nI_le z (by omega)))), nI_succ] at q
                        exact q
                      · exact h71.elim
                  · exact h57.elim
        refine z_iconst (-1) (by decide) C dX5_nearest_20 ?_
        refine z_istore_n [_, _, _, _, _] C (by decide) rfl dX5_nearest_21 ?_
        refine z_bipush 99 (by decide) C dX5_nearest_22 ?_
        refine z_istore_n [_, _, _, _, _] C (by decide) rfl dX5_nearest_24 ?_
        refine z_iconst 0 (by decide) C dX5_nearest_25 ?_
        refine z_istore [_, _, _, _, _] C (by decide) rfl dX5_nearest_26 ?_
        obtain ⟨T0, hM⟩ := hM.tb
        exact loop (dG D) 0 T0 _ (by omega) hM
      · exact h12.elim
    | true =>
      have y8 := b_tf hb8
      refine z_callM 2 [zi (bI true), zi 1] C rfl (M_fails1 hl0 hM h39 (bI true) 1 (by decide)) rfl (zgoodV LWm_good wm64 wm65 wm66 wm37 wm67) rfl rfl rfl (by decide +kernel) rfl (by rw [hR]; exact ⟨Nat.le_of_ble_eq_true rfl, Nat.le_of_ble_eq_true rfl⟩) hM.1 (by rw [hR]; exact ⟨Nat.le_of_ble_eq_true rfl, Nat.le_of_ble_eq_true rfl⟩) (Nat.le_of_ble_eq_true rfl) dX5_nearest_12 (fun v12 S12 h12 => ?_) (fun E12 S12 h12 => ?_)
      · obtain ⟨rfl, hM⟩ := h12
        refine z_if_eq 20 C dX5_nearest_15 (by decide) (fun c15 => absurd c15 (by decide)) (fun _ => ?_)
        refine z_iconst 0 (by decide) C dX5_nearest_18 ?_
        refine z_ireturn C F (Nat.le_of_ble_eq_true rfl) (Nat.le_of_ble_eq_true rfl) dX5_nearest_19 ?_
        exact Or.inr (Or.inl ⟨y8, rfl, flM.of hM h39 hW⟩)
      · exact h12.elim
  · exact h8.elim
