/-! what the start gives -/
theorem ka_prim {args : Array Value} {s : State} {t : FieldType} (h : (Cond.arrayClass t).before args s = true) : ∃ c : ClassId, ArrOfT s c t ∧ s.vm.findClass ("[" ++ t.toString) = some c := by
  obtain ⟨c, k, comp, h1, h2, h3⟩ := Cond.arrayClass_spec h
  exact ⟨c, fun N z => ⟨(fun _ h => by cases h), k, h2, comp, h3⟩, h1⟩
theorem ka_obj {args : Array Value} {s : State} {n : String} (h : (Cond.arrayOver (.object n)).before args s = true) : ∃ c : ClassId, ArrOfT s c (.object n) ∧ va_RA s c (.object n) := by
  obtain ⟨comp, c, k, h1, h2, h3, h4, h5⟩ := Cond.arrayOver_spec h
  exact ⟨c, fun N z => ⟨(fun _ h => by cases h), k, h3, comp, h4⟩, k, comp, h3, h4, h1, h5⟩
theorem ka_arr {args : Array Value} {s : State} {t : FieldType} (h : (Cond.arrayOver (.array t)).before args s = true) : ∃ c : ClassId, ArrOfT s c (.array t) ∧ s.vm.findClass ("[" ++ (FieldType.array t).toString) = some c := by
  have h : (Cond.arrayOver (.array t)).holds args s none s [] = true := h
  simp only [Cond.holds, Cond.value, beq_iff_eq] at h
  cases hc : s.vm.findClass (FieldType.array t).toString with
  | none => simp [hc] at h
  | some comp =>
    simp only [hc, Option.bind_some, Option.bind_eq_some_iff, Option.map_eq_some_iff] at h
    obtain ⟨c, hi, k, hk, hb⟩ := h
    cases hkind : k.kind with
    | array component ty =>
      rw [hkind] at hb
      simp at hb
      exact ⟨c, fun N z => ⟨(fun _ h => by cases h), k, hk, component, by rw [hkind, hb.1]⟩, hb.2⟩
    | _ => rw [hkind] at hb; simp at hb
theorem K_start {s : State} {args : Array Value} (hts : ∀ w ∈ lw_tbl, w.before args s = true) : ∃ G : zG, va_K (zDD G) vwCl (ztys G) s := by
  have at9 : ∀ (i : Nat) (w : Cond), lw_tbl[i]? = some w → w.before args s = true := fun i w h => hts w (List.mem_of_getElem? h)
  obtain ⟨c0, i0, k0⟩ := u_known (C := RJ0) (T := TJ0) (N := 2) (n := 4) hts (sub_ix [204, 206] (by decide +kernel)) (at9 202 _ (by decide +kernel))
  obtain ⟨c1, i1, k1⟩ := u_known (C := RJx00060) (T := TJx00060) (N := 6) (n := 6) hts (sub_ix [170, 172, 174, 176, 178, 180] (by decide +kernel)) (at9 129 _ (by decide +kernel))
  obtain ⟨c2, i2, k2⟩ := u_known (C := RX0) (T := TX0) (N := 3) (n := 3) hts (sub_ix [596, 598, 600] (by decide +kernel)) (at9 585 _ (by decide +kernel))
  obtain ⟨c3, i3, k3⟩ := u_known (C := RX1) (T := TX1) (N := 7) (n := 7) hts (sub_ix [517, 519, 521, 523, 525, 527, 529] (by decide +kernel)) (at9 498 _ (by decide +kernel))
  obtain ⟨c4, i4, k4⟩ := u_known (C := RX2) (T := TX2) (N := 6) (n := 6) hts (sub_ix [415, 417, 419, 421, 423, 425] (by decide +kernel)) (at9 398 _ (by decide +kernel))
  obtain ⟨c5, i5, k5⟩ := u_known (C := RX3) (T := TX3) (N := 6) (n := 6) hts (sub_ix [271, 273, 275, 277, 279, 281] (by decide +kernel)) (at9 254 _ (by decide +kernel))
  obtain ⟨c6, i6, k6⟩ := u_known (C := RX4) (T := TX4) (N := 17) (n := 17) hts (sub_ix [81, 83, 85, 87, 89, 91, 93, 95, 97, 99, 101, 103, 105, 107, 109, 111, 113] (by decide +kernel)) (at9 47 _ (by decide +kernel))
  obtain ⟨a0, p0, q0⟩ := ka_prim (t := .int) (at9 116 _ (by decide +kernel))
  obtain ⟨a1, p1, q1⟩ := ka_prim (t := .char) (at9 428 _ (by decide +kernel))
  obtain ⟨a5, p5, q5⟩ := ka_obj (n := RX0) (at9 61 _ (by decide +kernel))
  obtain ⟨a6, p6, q6⟩ := ka_obj (n := RX1) (at9 59 _ (by decide +kernel))
  obtain ⟨a7, p7, q7⟩ := ka_obj (n := RX2) (at9 57 _ (by decide +kernel))
  obtain ⟨a8, p8, q8⟩ := ka_obj (n := RX3) (at9 55 _ (by decide +kernel))
  obtain ⟨a9, p9, q9⟩ := ka_arr (t := .int) (at9 63 _ (by decide +kernel))
  refine ⟨(fun k => [c0, c1, c2, c3, c4, c5, c6].getD k c0, fun k => [i0, i1, i2, i3, i4, i5, i6].getD k i0, fun k => [a0, a1, a0, a0, a0, a5, a6, a7, a8, a9].getD k a0), fun c q h => ?_, fun k q h => ?_⟩
  · match c, h with
    | 0, h => obtain rfl := Option.some.inj h; exact k0
    | 1, h => obtain rfl := Option.some.inj h; exact k1
    | 2, h => obtain rfl := Option.some.inj h; exact k2
    | 3, h => obtain rfl := Option.some.inj h; exact k3
    | 4, h => obtain rfl := Option.some.inj h; exact k4
    | 5, h => obtain rfl := Option.some.inj h; exact k5
    | 6, h => obtain rfl := Option.some.inj h; exact k6
    | c + 7, h => cases h
  · match k, h with
    | 0, h => obtain rfl := Option.some.inj h; exact ⟨p0, q0⟩
    | 1, h => obtain rfl := Option.some.inj h; exact ⟨p1, q1⟩
    | 2, h => obtain rfl := Option.some.inj h; exact ⟨p0, q0⟩
    | 3, h => obtain rfl := Option.some.inj h; exact ⟨p0, q0⟩
    | 4, h => obtain rfl := Option.some.inj h; exact ⟨p0, q0⟩
    | 5, h => obtain rfl := Option.some.inj h; exact ⟨p5, q5⟩
    | 6, h => obtain rfl := Option.some.inj h; exact ⟨p6, q6⟩
    | 7, h => obtain rfl := Option.some.inj h; exact ⟨p7, q7⟩
    | 8, h => obtain rfl := Option.some.inj h; exact ⟨p8, q8⟩
    | 9, h => obtain rfl := Option.some.inj h; exact ⟨p9, q9⟩
    | k + 10, h => cases h
theorem N_start {s : State} {args : Array Value} (hg : (Jvm.Cond.and given_1 narrow_1).before args s = true) : zNc s := by
  have hs := flat_of_before _ hg
  have key : (zEx.all fun E => zEx.all fun T => decide (E = T) || (flatC (Jvm.Cond.and given_1 narrow_1)).any (fun v => decide (v = Cond.not (Cond.castable E T)))) = true := by decide +kernel
  intro E hE T hT hne
  have h1 := List.all_eq_true.mp (List.all_eq_true.mp key E hE) T hT
  rw [decide_eq_false hne, Bool.false_or] at h1
  obtain ⟨v, hv, e⟩ := List.any_eq_true.mp h1
  have e := of_decide_eq_true e
  subst e
  exact va_Nc.of (hs _ hv)
theorem AO_of {args : Array Value} {s : State} {t : FieldType} (h : (Cond.arrayOver t).before args s = true) : (Cond.arrayOver t).before #[] s = true := by simpa only [Cond.before, Cond.holds, Cond.value] using h
theorem E_start {s : State} {args : Array Value} {cur : Nat} (hts : ∀ w ∈ lw_tbl, w.before args s = true) (hg : (Jvm.Cond.and given_1 narrow_1).before args s = true) (hf : s.vm.findClass RX4 = some cur) : zE (fun q => s.heap.size ≤ q) s := by
  have hs := flat_of_before _ hg
  have at9 : ∀ (i : Nat) (w : Cond), lw_tbl[i]? = some w → w.before args s = true := fun i w h => hts w (List.mem_of_getElem? h)
  have isr : ∀ w : Cond, (flatC (Jvm.Cond.and given_1 narrow_1)).any (fun v => decide (v = w)) = true → w.before args s = true := fun w h => by
    obtain ⟨v, hv, e⟩ := List.any_eq_true.mp h
    have e := of_decide_eq_true e
    subst e
    exact hs _ hv
  refine ⟨vx_Zqof (at9 146 _ (by decide +kernel)) (at9 27 _ (by decide +kernel)) (isr _ (by decide +kernel)) (fun a ha => Nat.not_le.mpr ha), vx_Zqof (at9 148 _ (by decide +kernel)) (at9 27 _ (by decide +kernel)) (isr _ (by decide +kernel)) (fun a ha => Nat.not_le.mpr ha), fun q hq => ?_, ⟨AO_of (t := .object RX0) (at9 61 _ (by decide +kernel)), AO_of (t := .object RX1) (at9 59 _ (by decide +kernel)), AO_of (t := .object RX2) (at9 57 _ (by decide +kernel)), AO_of (t := .object RX3) (at9 55 _ (by decide +kernel)), AO_of (t := .array .int) (at9 63 _ (by decide +kernel))⟩, fun E hE => va_Nw.of rfl (sub_ix [224, 240, 365, 467, 692, 656] (A := zEx.map fun E => Cond.castable E E) (by decide +kernel) _ (List.mem_map.mpr ⟨E, hE, rfl⟩) |> hts _), fun Y hY => va_Nw.of rfl (sub_ix [187, 189, 191] (A := zUp.map fun Y => Cond.declares ⟨Y, "<init>", "(Ljava/lang/String;)V"⟩) (by decide +kernel) _ (List.mem_map.mpr ⟨Y, hY, rfl⟩) |> hts _)⟩
  have h1 := hts _ (sub_ix [231, 247, 372, 387, 392, 397, 437, 438, 443, 452, 457, 474, 489, 532, 533, 558, 567, 583, 584, 611, 677, 699, 718, 742, 776, 808, 799] (A := zStrs.map fun q => Cond.stringRef q.1 q.2.1 q.2.2) (by decide +kernel) _ (List.mem_map.mpr ⟨q, hq, rfl⟩))
  have hq1 : q.1 = RX4 := of_decide_eq_true (List.all_eq_true.mp (show (zStrs.all fun q => decide (q.1 = RX4)) = true from by decide +kernel) q hq)
  obtain ⟨k, cf, i, a, -, -, -, -, -, hev⟩ := Cond.stringRef_spec (by rw [hq1]; exact hf) h1
  exact ⟨a, vk_R.of h1 hev⟩
