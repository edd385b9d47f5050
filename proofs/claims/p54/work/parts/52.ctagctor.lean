/-! the class: the constructor of its tags -/

set_option maxRecDepth 100000 in
set_option maxHeartbeats 4000000 in
theorem C_X2_init {l : Launch} (hl0 : l.stackTraces = false) {S : ZM} {a : Nat} (hk : mK S a = 4) (num : Int32) : zMet l yX2_init (Cond.code yX2_init cX2_init 2 none :: LWc) ({ frames := 1, cells := 2, slots := 30, locals := 40 } : Room) 2 30 [zr (some a), zi num] S (zPo (fun v S' => v = none ∧ ∃ nm ah : Nat, zkn (mK S nm) = false ∧ zkn (mK S ah) = false ∧ ah ≠ nm ∧ S' = tgS S a nm ah num) (fun _ _ => False)) := by
  refine zMet.of' [some (zr (some a)), some (zi num)] hl0 (by decide) rfl (Nat.le_of_ble_eq_true rfl) rfl ?_
  intro X C N hR hN0 hX F
  subst hX
  refine z_aload_n C rfl dX2_init_0 ?_
  refine z_objInit C (List.mem_cons_of_mem _ wc14) (List.mem_cons_of_mem _ wc1) (List.mem_cons_of_mem _ wc2) (by rw [hR]; exact Nat.le_of_ble_eq_true rfl) (by rw [hR]; exact Nat.le_of_ble_eq_true rfl) dX2_init_1 ?_
  refine z_aload_n C rfl dX2_init_4 ?_
  refine z_bipush 6 (by decide) C dX2_init_5 ?_
  refine z_newarr_char 6 C (List.mem_cons_of_mem _ wc15) (by decide) rfl (by decide) (by rw [hR]; exact Nat.le_of_ble_eq_true rfl) (by rw [hR]; exact Nat.le_of_ble_eq_true rfl) dX2_init_7 (fun a7 f7 => ?_)
  have hk7 : mK (nA S a7 11 6) a = 4 := (up1_ne (fun q => by rw [← q, hk] at f7; cases f7)).trans hk
  refine zp2_name C (fun w h => List.mem_cons_of_mem _ (uc_wsX20 w h)) hk7 (hN0 rfl) rfl (List.mem_cons_of_mem _ wc16) dX2_init_9 ?_
  refine z_aload_n C rfl dX2_init_12 ?_
  refine z_iconst 0 (by decide) C dX2_init_13 ?_
  refine zp2_letters C (fun w h => List.mem_cons_of_mem _ (uc_wsX20 w h)) hk7 (List.mem_cons_of_mem _ wc17) dX2_init_14 ?_
  refine z_aload_n C rfl dX2_init_17 ?_
  refine z_null C dX2_init_18 ?_
  refine zp2_becomes C (fun w h => List.mem_cons_of_mem _ (uc_wsX20 w h)) hk7 (List.mem_cons_of_mem _ wc18) dX2_init_19 ?_
  refine z_aload_n C rfl dX2_init_22 ?_
  refine z_bipush 24 (by decide) C dX2_init_23 ?_
  refine z_newarr_int 24 C (List.mem_cons_of_mem _ wc19) (by decide) rfl (by decide) (by rw [hR]; exact Nat.le_of_ble_eq_true rfl) (by rw [hR]; exact Nat.le_of_ble_eq_true rfl) dX2_init_25 (fun a25 f25 => ?_)
  have hk25 : mK (nA (sQ (sI (sQ (nA S a7 11 6) 11 a (some a7)) 12 a 0) 13 a none) a25 10 24) a = 4 := (up1_ne (fun q => by
    rw [← q] at f25
    rw [show mK (sQ (sI (sQ (nA S a7 11 6) 11 a (some a7)) 12 a 0) 13 a none) a = 4 from hk7] at f25
    cases f25)).trans hk7
  have f25b : a25 ≠ a7 ∧ zkn (mK S a25) = false := by
    have f : zkn (up1 S.1 a7 11 a25) = false := f25
    by_cases e : a25 = a7
    · subst e; rw [up1_self] at f; cases f
    · rw [up1_ne e] at f; exact ⟨e, f⟩
  refine zp2_tagSetsAhead C (fun w h => List.mem_cons_of_mem _ (uc_wsX20 w h)) hk25 (hN0 rfl) rfl (List.mem_cons_of_mem _ wc20) dX2_init_27 ?_
  refine z_aload_n C rfl dX2_init_30 ?_
  refine z_null C dX2_init_31 ?_
  refine zp2_goneEarlier C (fun w h => List.mem_cons_of_mem _ (uc_wsX20 w h)) hk25 (List.mem_cons_of_mem _ wc21) dX2_init_32 ?_
  refine z_aload_n C rfl dX2_init_35 ?_
  refine z_iload_n C rfl dX2_init_36 ?_
  refine zp2_number C (fun w h => List.mem_cons_of_mem _ (uc_wsX20 w h)) hk25 (hN0 rfl) rfl (List.mem_cons_of_mem _ wc22) dX2_init_37 ?_
  refine z_return C F (Nat.le_of_ble_eq_true rfl) (Nat.le_of_ble_eq_true rfl) dX2_init_40 ?_
  exact ⟨rfl, a7, a25, f7, f25b.2, f25b.1, rfl⟩
