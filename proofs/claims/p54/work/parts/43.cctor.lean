/-! the class: constructors of its objects -/
def rsz (S : ZM) (o : Option Nat) : Int32 := o.elim 0 (mI S 8)
def rls (S : ZM) (o : Option Nat) : Int32 := o.elim 0 (mI S 9)
abbrev rlA (S : ZM) (a : Nat) (num kind asked : Int32) (one oth : Option Nat) : ZM := sQ (sQ (sI (sI (sI S 3 a num) 4 a kind) 5 a asked) 6 a one) 7 a oth
abbrev rlS (S : ZM) (a : Nat) (num kind asked : Int32) (one oth : Option Nat) : ZM := sI (sI (rlA S a num kind asked one oth) 8 a (1 + rsz S one + rsz S oth)) 9 a ((if kind = 5 then 1 <<< (asked &&& 31) else 0) ||| rls S one ||| rls S oth)
theorem rl_8 {S : ZM} {a b : Nat} {num kind asked : Int32} {one oth : Option Nat} : mI (rlA S a num kind asked one oth) 8 b = mI S 8 b := by
  show mI (sI (sI (sI S 3 a num) 4 a kind) 5 a asked) 8 b = _
  rw [mI_sI_k (by decide), mI_sI_k (by decide), mI_sI_k (by decide)]
theorem rl_9 {S : ZM} {a b : Nat} {num kind asked x : Int32} {one oth : Option Nat} : mI (sI (rlA S a num kind asked one oth) 8 a x) 9 b = mI S 9 b := by
  rw [mI_sI_k (by decide)]
  show mI (sI (sI (sI S 3 a num) 4 a kind) 5 a asked) 9 b = _
  rw [mI_sI_k (by decide), mI_sI_k (by decide), mI_sI_k (by decide)]
abbrev trS (S : ZM) (a : Nat) (num len rate : Int32) : ZM := sI (sI (sI (sI (sI (sI S 19 a 0) 20 a (-1)) 21 a 0) 16 a num) 17 a len) 18 a rate
abbrev crS (S : ZM) (a : Nat) (r : Option Nat) (o y : Int32) : ZM := sI (sI (sQ S 0 a r) 1 a o) 2 a y
abbrev tgS (S : ZM) (a nm ah : Nat) (num : Int32) : ZM := sI (sQ (sQ (nA (sQ (sI (sQ (nA S nm 11 6) 11 a (some nm)) 12 a 0) 13 a none) ah 10 24) 14 a (some ah)) 15 a none) 10 a num

set_option maxRecDepth 100000 in
set_option maxHeartbeats 4000000 in
theorem C_X3_init {l : Launch} (hl0 : l.stackTraces = false) {S : ZM} {a : Nat} (hk : mK S a = 5) (num len rate : Int32) : zMet l yX3_init (Cond.code yX3_init cX3_init 4 none :: LWc) ({ frames := 1, cells := 0, slots := 0, locals := 40 } : Room) 0 0 [zr (some a), zi num, zi len, zi rate] S (zPo (fun v S' => v = none ∧ S' = trS S a num len rate) (fun _ _ => False)) := by
  refine zMet.of' [some (zr (some a)), some (zi num), some (zi len), some (zi rate)] hl0 (by decide) rfl (Nat.le_of_ble_eq_true rfl) rfl ?_
  intro X C N hR hN0 hX F
  subst hX
  refine z_aload_n C rfl dX3_init_0 ?_
  refine z_objInit C (List.mem_cons_of_mem _ wc23) (List.mem_cons_of_mem _ wc1) (List.mem_cons_of_mem _ wc2) (by rw [hR]; exact Nat.le_of_ble_eq_true rfl) (by rw [hR]; exact Nat.le_of_ble_eq_true rfl) dX3_init_1 ?_
  refine z_aload_n C rfl dX3_init_4 ?_
  refine z_iconst 0 (by decide) C dX3_init_5 ?_
  refine zp3_plays C (fun w h => List.mem_cons_of_mem _ (uc_wsX30 w h)) hk (List.mem_cons_of_mem _ wc24) dX3_init_6 ?_
  refine z_aload_n C rfl dX3_init_9 ?_
  refine z_iconst (-1) (by decide) C dX3_init_10 ?_
  refine zp3_lastDay C (fun w h => List.mem_cons_of_mem _ (uc_wsX30 w h)) hk (List.mem_cons_of_mem _ wc25) dX3_init_11 ?_
  refine z_aload_n C rfl dX3_init_14 ?_
  refine z_iconst 0 (by decide) C dX3_init_15 ?_
  refine zp3_tagSet C (fun w h => List.mem_cons_of_mem _ (uc_wsX30 w h)) hk (List.mem_cons_of_mem _ wc26) dX3_init_16 ?_
  refine z_aload_n C rfl dX3_init_19 ?_
  refine z_iload_n C rfl dX3_init_20 ?_
  refine zp3_number C (fun w h => List.mem_cons_of_mem _ (uc_wsX30 w h)) hk (hN0 rfl) rfl (List.mem_cons_of_mem _ wc27) dX3_init_21 ?_
  refine z_aload_n C rfl dX3_init_24 ?_
  refine z_iload_n C rfl dX3_init_25 ?_
  refine zp3_length C (fun w h => List.mem_cons_of_mem _ (uc_wsX30 w h)) hk (hN0 rfl) rfl (List.mem_cons_of_mem _ wc28) dX3_init_26 ?_
  refine z_aload_n C rfl dX3_init_29 ?_
  refine z_iload_n C rfl dX3_init_30 ?_
  refine zp3_rating C (fun w h => List.mem_cons_of_mem _ (uc_wsX30 w h)) hk (List.mem_cons_of_mem _ wc29) dX3_init_31 ?_
  refine z_return C F (Nat.le_of_ble_eq_true rfl) (Nat.le_of_ble_eq_true rfl) dX3_init_34 ?_
  exact ⟨rfl, rfl⟩
set_option maxRecDepth 100000 in
set_option maxHeartbeats 4000000 in
theorem C_X0_init {l : Launch} (hl0 : l.stackTraces = false) {S : ZM} {a : Nat} (hk : mK S a = 2) (r : Option Nat) (o y : Int32) (ho1 : narrow .char (.int o) = .int o) (ho2 : fits .char (.int o) = true) : zMet l yX0_init (Cond.code yX0_init cX0_init 4 none :: LWc) ({ frames := 1, cells := 0, slots := 0, locals := 40 } : Room) 0 0 [zr (some a), zr r, zi o, zi y] S (zPo (fun v S' => v = none ∧ S' = crS S a r o y) (fun _ _ => False)) := by
  refine zMet.of' [some (zr (some a)), some (zr r), some (zi o), some (zi y)] hl0 (by decide) rfl (Nat.le_of_ble_eq_true rfl) rfl ?_
  intro X C N hR hN0 hX F
  subst hX
  refine z_aload_n C rfl dX0_init_0 ?_
  refine z_objInit C (List.mem_cons_of_mem _ wc0) (List.mem_cons_of_mem _ wc1) (List.mem_cons_of_mem _ wc2) (by rw [hR]; exact Nat.le_of_ble_eq_true rfl) (by rw [hR]; exact Nat.le_of_ble_eq_true rfl) dX0_init_1 ?_
  refine z_aload_n C rfl dX0_init_4 ?_
  refine z_aload_n C rfl dX0_init_5 ?_
  refine zp0_rule C (fun w h => List.mem_cons_of_mem _ (uc_wsX00 w h)) hk (List.mem_cons_of_mem _ wc3) dX0_init_6 ?_
  refine z_aload_n C rfl dX0_init_9 ?_
  refine z_iload_n C rfl dX0_init_10 ?_
  refine zp0_order C (fun w h => List.mem_cons_of_mem _ (uc_wsX00 w h)) hk ho1 ho2 (List.mem_cons_of_mem _ wc4) dX0_init_11 ?_
  refine z_aload_n C rfl dX0_init_14 ?_
  refine z_iload_n C rfl dX0_init_15 ?_
  refine zp0_limit C (fun w h => List.mem_cons_of_mem _ (uc_wsX00 w h)) hk (List.mem_cons_of_mem _ wc5) dX0_init_16 ?_
  refine z_return C F (Nat.le_of_ble_eq_true rfl) (Nat.le_of_ble_eq_true rfl) dX0_init_19 ?_
  exact ⟨rfl, rfl⟩
set_option maxRecDepth 100000 in
set_option maxHeartbeats 4000000 in
theorem C_X1_init {l : Launch} (hl0 : l.stackTraces = false) {S : ZM} {a : Nat} (hk : mK S a = 3) (num kind asked : Int32) (one oth : Option Nat) (h1 : ∀ b : Nat, one = some b → mK S b = 3) (h2 : ∀ b : Nat, oth = some b → mK S b = 3) : zMet l yX1_init (Cond.code yX1_init cX1_init 6 none :: LWc) ({ frames := 1, cells := 0, slots := 0, locals := 40 } : Room) 0 0 [zr (some a), zi num, zi kind, zi asked, zr one, zr oth] S (zPo (fun v S' => v = none ∧ S' = rlS S a num kind asked one oth) (fun _ _ => False)) := by
  refine zMet.of' [some (zr (some a)), some (zi num), some (zi kind), some (zi asked), some (zr one), some (zr oth)] hl0 (by decide) rfl (Nat.le_of_ble_eq_true rfl) rfl ?_
  intro X C N hR hN0 hX F
  subst hX
  refine z_aload_n C rfl dX1_init_0 ?_
  refine z_objInit C (List.mem_cons_of_mem _ wc6) (List.mem_cons_of_mem _ wc1) (List.mem_cons_of_mem _ wc2) (by rw [hR]; exact Nat.le_of_ble_eq_true rfl) (by rw [hR]; exact Nat.le_of_ble_eq_true rfl) dX1_init_1 ?_
  refine z_aload_n C rfl dX1_init_4 ?_
  refine z_iload_n C rfl dX1_init_5 ?_
  refine zp1_number C (fun w h => List.mem_cons_of_mem _ (uc_wsX10 w h)) hk (hN0 rfl) rfl (List.mem_cons_of_mem _ wc7) dX1_init_6 ?_
  refine z_aload_n C rfl dX1_init_9 ?_
  refine z_iload_n C rfl dX1_init_10 ?_
  refine zp1_kind C (fun w h => List.mem_cons_of_mem _ (uc_wsX10 w h)) hk (hN0 rfl) rfl (List.mem_cons_of_mem _ wc8) dX1_init_11 ?_
  refine z_aload_n C rfl dX1_init_14 ?_
  refine z_iload_n C rfl dX1_init_15 ?_
  refine zp1_asked C (fun w h => List.mem_cons_of_mem _ (uc_wsX10 w h)) hk (hN0 rfl) rfl (List.mem_cons_of_mem _ wc9) dX1_init_16 ?_
  refine z_aload_n C rfl dX1_init_19 ?_
  refine z_aload C rfl dX1_init_20 ?_
  refine zp1_one C (fun w h => List.mem_cons_of_mem _ (uc_wsX10 w h)) hk (hN0 rfl) rfl (List.mem_cons_of_mem _ wc10) dX1_init_22 ?_
  refine z_aload_n C rfl dX1_init_25 ?_
  refine z_aload C rfl dX1_init_26 ?_
  refine zp1_other C (fun w h => List.mem_cons_of_mem _ (uc_wsX10 w h)) hk (hN0 rfl) rfl (List.mem_cons_of_mem _ wc11) dX1_init_28 ?_
  refine z_aload_n C rfl dX1_init_31 ?_
  refine z_iconst 1 (by decide) C dX1_init_32 ?_
  refine z_aload C rfl dX1_init_33 ?_
  refine z_ifnonnull 42 C dX1_init_35 (by decide) (fun a35 c35 => ?_) (fun c35 => ?_)
  · refine z_aload C rfl dX1_init_42 ?_
    refine z_ref c35 ?_
    refine zg1_size C (fun w h => List.mem_cons_of_mem _ (uc_wsX10 w h)) (h1 _ c35) (List.mem_cons_of_mem _ wc12) dX1_init_44 ?_
    refine z_int (x' := rsz S one) (by rw [c35]; exact rl_8) ?_
    refine z_iadd C dX1_init_47 ?_
    refine z_aload C rfl dX1_init_48 ?_
    refine z_ifnonnull 57 C dX1_init_50 (by decide) (fun a50 c50 => ?_) (fun c50 => ?_)
    · refine z_aload C rfl dX1_init_57 ?_
      refine z_ref c50 ?_
      refine zg1_size C (fun w h => List.mem_cons_of_mem _ (uc_wsX10 w h)) (h2 _ c50) (List.mem_cons_of_mem _ wc12) dX1_init_59 ?_
      refine z_int (x' := rsz S oth) (by rw [c50]; exact rl_8) ?_
      refine z_iadd C dX1_init_62 ?_
      refine zp1_size C (fun w h => List.mem_cons_of_mem _ (uc_wsX10 w h)) hk (hN0 rfl) rfl (List.mem_cons_of_mem _ wc12) dX1_init_63 ?_
      refine z_aload_n C rfl dX1_init_66 ?_
      refine z_iload_n C rfl dX1_init_67 ?_
      refine z_iconst 5 (by decide) C dX1_init_68 ?_
      refine z_icmp_ne 78 C dX1_init_69 (by decide) (fun c69 => ?_) (fun c69 => ?_)
      · refine z_iconst 0 (by decide) C dX1_init_78 ?_
        refine z_int (x' := if kind = 5 then 1 <<< (asked &&& 31) else 0) (if_neg c69).symm ?_
        refine z_aload C rfl dX1_init_79 ?_
        refine z_ifnonnull 88 C dX1_init_81 (by decide) (fun a81 c81 => ?_) (fun c81 => ?_)
        · refine z_aload C rfl dX1_init_88 ?_
          refine z_ref c81 ?_
          refine zg1_listSet C (fun w h => List.mem_cons_of_mem _ (uc_wsX10 w h)) (h1 _ c81) (List.mem_cons_of_mem _ wc13) dX1_init_90 ?_
          refine z_int (x' := rls S one) (by rw [c81]; exact rl_9) ?_
          refine z_ior C dX1_init_93 ?_
          refine z_aload C rfl dX1_init_94 ?_
          refine z_ifnonnull 103 C dX1_init_96 (by decide) (fun a96 c96 => ?_) (fun c96 => ?_)
          · refine z_aload C rfl dX1_init_103 ?_
            refine z_ref c96 ?_
            refine zg1_listSet C (fun w h => List.mem_cons_of_mem _ (uc_wsX10 w h)) (h2 _ c96) (List.mem_cons_of_mem _ wc13) dX1_init_105 ?_
            refine z_int (x' := rls S oth) (by rw [c96]; exact rl_9) ?_
            refine z_ior C dX1_init_108 ?_
            refine zp1_listSet C (fun w h => List.mem_cons_of_mem _ (uc_wsX10 w h)) hk (hN0 rfl) rfl (List.mem_cons_of_mem _ wc13) dX1_init_109 ?_
            refine z_return C F (Nat.le_of_ble_eq_true rfl) (Nat.le_of_ble_eq_true rfl) dX1_init_112 ?_
            exact ⟨rfl, rfl⟩
          · refine z_iconst 0 (by decide) C dX1_init_99 ?_
            refine z_int (x' := rls S oth) (by rw [c96]; rfl) ?_
            refine z_goto 108 C dX1_init_100 (by decide) ?_
            refine z_ior C dX1_init_108 ?_
            refine zp1_listSet C (fun w h => List.mem_cons_of_mem _ (uc_wsX10 w h)) hk (hN0 rfl) rfl (List.mem_cons_of_mem _ wc13) dX1_init_109 ?_
            refine z_return C F (Nat.le_of_ble_eq_true rfl) (Nat.le_of_ble_eq_true rfl) dX1_init_112 ?_
            exact ⟨rfl, rfl⟩
        · refine z_iconst 0 (by decide) C dX1_init_84 ?_
          refine z_int (x' := rls S one) (by rw [c81]; rfl) ?_
          refine z_goto 93 C dX1_init_85 (by decide) ?_
          refine z_ior C dX1_init_93 ?_
          refine z_aload C rfl dX1_init_94 ?_
          refine z_ifnonnull 103 C dX1_init_96 (by decide) (fun a96 c96 => ?_) (fun c96 => ?_)
          · refine z_aload C rfl dX1_init_103 ?_
            refine z_ref c96 ?_
            refine zg1_listSet C (fun w h => List.mem_cons_of_mem _ (uc_wsX10 w h)) (h2 _ c96) (List.mem_cons_of_mem _ wc13) dX1_init_105 ?_
            refine z_int (x' := rls S oth) (by rw [c96]; exact rl_9) ?_
            refine z_ior C dX1_init_108 ?_
            refine zp1_listSet C (fun w h => List.mem_cons_of_mem _ (uc_wsX10 w h)) hk (hN0 rfl) rfl (List.mem_cons_of_mem _ wc13) dX1_init_109 ?_
            refine z_return C F (Nat.le_of_ble_eq_true rfl) (Nat.le_of_ble_eq_true rfl) dX1_init_112 ?_
            exact ⟨rfl, rfl⟩
          · refine z_iconst 0 (by decide) C dX1_init_99 ?_
            refine z_int (x' := rls S oth) (by rw [c96]; rfl) ?_
            refine z_goto 108 C dX1_init_100 (by decide) ?_
            refine z_ior C dX1_init_108 ?_
            refine zp1_listSet C (fun w h => List.mem_cons_of_mem _ (uc_wsX10 w h)) hk (hN0 rfl) rfl (List.mem_cons_of_mem _ wc13) dX1_init_109 ?_
            refine z_return C F (Nat.le_of_ble_eq_true rfl) (Nat.le_of_ble_eq_true rfl) dX1_init_112 ?_
            exact ⟨rfl, rfl⟩
      · refine z_iconst 1 (by decide) C dX1_init_72 ?_
        refine z_iload_n C rfl dX1_init_73 ?_
        refine z_ishl C dX1_init_74 ?_
        refine z_int (x' := if kind = 5 then 1 <<< (asked &&& 31) else 0) (if_pos (by first | exact c69 | exact Decidable.not_not.1 c69)).symm ?_
        refine z_goto 79 C dX1_init_75 (by decide) ?_
        refine z_aload C rfl dX1_init_79 ?_
        refine z_ifnonnull 88 C dX1_init_81 (by decide) (fun a81 c81 => ?_) (fun c81 => ?_)
        · refine z_aload C rfl dX1_init_88 ?_
          refine z_ref c81 ?_
          refine zg1_listSet C (fun w h => List.mem_cons_of_mem _ (uc_wsX10 w h)) (h1 _ c81) (List.mem_cons_of_mem _ wc13) dX1_init_90 ?_
          refine z_int (x' := rls S one) (by rw [c81]; exact rl_9) ?_
          refine z_ior C dX1_init_93 ?_
          refine z_aload C rfl dX1_init_94 ?_
          refine z_ifnonnull 103 C dX1_init_96 (by decide) (fun a96 c96 => ?_) (fun c96 => ?_)
          · refine z_aload C rfl dX1_init_103 ?_
            refine z_ref c96 ?_
            refine zg1_listSet C (fun w h => List.mem_cons_of_mem _ (uc_wsX10 w h)) (h2 _ c96) (List.mem_cons_of_mem _ wc13) dX1_init_105 ?_
            refine z_int (x' := rls S oth) (by rw [c96]; exact rl_9) ?_
            refine z_ior C dX1_init_108 ?_
            refine zp1_listSet C (fun w h => List.mem_cons_of_mem _ (uc_wsX10 w h)) hk (hN0 rfl) rfl (List.mem_cons_of_mem _ wc13) dX1_init_109 ?_
            refine z_return C F (Nat.le_of_ble_eq_true rfl) (Nat.le_of_ble_eq_true rfl) dX1_init_112 ?_
            exact ⟨rfl, rfl⟩
          · refine z_iconst 0 (by decide) C dX1_init_99 ?_
            refine z_int (x' := rls S oth) (by rw [c96]; rfl) ?_
            refine z_goto 108 C dX1_init_100 (by decide) ?_
            refine z_ior C dX1_init_108 ?_
            refine zp1_listSet C (fun w h => List.mem_cons_of_mem _ (uc_wsX10 w h)) hk (hN0 rfl) rfl (List.mem_cons_of_mem _ wc13) dX1_init_109 ?_
            refine z_return C F (Nat.le_of_ble_eq_true rfl) (Nat.le_of_ble_eq_true rfl) dX1_init_112 ?_
            exact ⟨rfl, rfl⟩
        · refine z_iconst 0 (by decide) C dX1_init_84 ?_
          refine z_int (x' := rls S one) (by rw [c81]; rfl) ?_
          refine z_goto 93 C dX1_init_85 (by decide) ?_
          refine z_ior C dX1_init_93 ?_
          refine z_aload C rfl dX1_init_94 ?_
          refine z_ifnonnull 103 C dX1_init_96 (by decide) (fun a96 c96 => ?_) (fun c96 => ?_)
          · refine z_aload C rfl dX1_init_103 ?_
            refine z_ref c96 ?_
            refine zg1_listSet C (fun w h => List.mem_cons_of_mem _ (uc_wsX10 w h)) (h2 _ c96) (List.mem_cons_of_mem _ wc13) dX1_init_105 ?_
            refine z_int (x' := rls S oth) (by rw [c96]; exact rl_9) ?_
            refine z_ior C dX1_init_108 ?_
            refine zp1_listSet C (fun w h => List.mem_cons_of_mem _ (uc_wsX10 w h)) hk (hN0 rfl) rfl (List.mem_cons_of_mem _ wc13) dX1_init_109 ?_
            refine z_return C F (Nat.le_of_ble_eq_true rfl) (Nat.le_of_ble_eq_true rfl) dX1_init_112 ?_
            exact ⟨rfl, rfl⟩
          · refine z_iconst 0 (by decide) C dX1_init_99 ?_
            refine z_int (x' := rls S oth) (by rw [c96]; rfl) ?_
            refine z_goto 108 C dX1_init_100 (by decide) ?_
            refine z_ior C dX1_init_108 ?_
            refine zp1_listSet C (fun w h => List.mem_cons_of_mem _ (uc_wsX10 w h)) hk (hN0 rfl) rfl (List.mem_cons_of_mem _ wc13) dX1_init_109 ?_
            refine z_return C F (Nat.le_of_ble_eq_true rfl) (Nat.le_of_ble_eq_true rfl) dX1_init_112 ?_
            exact ⟨rfl, rfl⟩
    · refine z_iconst 0 (by decide) C dX1_init_53 ?_
      refine z_int (x' := rsz S oth) (by rw [c50]; rfl) ?_
      refine z_goto 62 C dX1_init_54 (by decide) ?_
      refine z_iadd C dX1_init_62 ?_
      refine zp1_size C (fun w h => List.mem_cons_of_mem _ (uc_wsX10 w h)) hk (hN0 rfl) rfl (List.mem_cons_of_mem _ wc12) dX1_init_63 ?_
      refine z_aload_n C rfl dX1_init_66 ?_
      refine z_iload_n C rfl dX1_init_67 ?_
      refine z_iconst 5 (by decide) C dX1_init_68 ?_
      refine z_icmp_ne 78 C dX1_init_69 (by decide) (fun c69 => ?_) (fun c69 => ?_)
      · refine z_iconst 0 (by decide) C dX1_init_78 ?_
        refine z_int (x' := if kind = 5 then 1 <<< (asked &&& 31) else 0) (if_neg c69).symm ?_
        refine z_aload C rfl dX1_init_79 ?_
        refine z_ifnonnull 88 C dX1_init_81 (by decide) (fun a81 c81 => ?_) (fun c81 => ?_)
        · refine z_aload C rfl dX1_init_88 ?_
          refine z_ref c81 ?_
          refine zg1_listSet C (fun w h => List.mem_cons_of_mem _ (uc_wsX10 w h)) (h1 _ c81) (List.mem_cons_of_mem _ wc13) dX1_init_90 ?_
          refine z_int (x' := rls S one) (by rw [c81]; exact rl_9) ?_
          refine z_ior C dX1_init_93 ?_
          refine z_aload C rfl dX1_init_94 ?_
          refine z_ifnonnull 103 C dX1_init_96 (by decide) (fun a96 c96 => ?_) (fun c96 => ?_)
          · refine z_aload C rfl dX1_init_103 ?_
            refine z_ref c96 ?_
            refine zg1_listSet C (fun w h => List.mem_cons_of_mem _ (uc_wsX10 w h)) (h2 _ c96) (List.mem_cons_of_mem _ wc13) dX1_init_105 ?_
            refine z_int (x' := rls S oth) (by rw [c96]; exact rl_9) ?_
            refine z_ior C dX1_init_108 ?_
            refine zp1_listSet C (fun w h => List.mem_cons_of_mem _ (uc_wsX10 w h)) hk (hN0 rfl) rfl (List.mem_cons_of_mem _ wc13) dX1_init_109 ?_
            refine z_return C F (Nat.le_of_ble_eq_true rfl) (Nat.le_of_ble_eq_true rfl) dX1_init_112 ?_
            exact ⟨rfl, rfl⟩
          · refine z_iconst 0 (by decide) C dX1_init_99 ?_
            refine z_int (x' := rls S oth) (by rw [c96]; rfl) ?_
            refine z_goto 108 C dX1_init_100 (by decide) ?_
            refine z_ior C dX1_init_108 ?_
            refine zp1_listSet C (fun w h => List.mem_cons_of_mem _ (uc_wsX10 w h)) hk (hN0 rfl) rfl (List.mem_cons_of_mem _ wc13) dX1_init_109 ?_
            refine z_return C F (Nat.le_of_ble_eq_true rfl) (Nat.le_of_ble_eq_true rfl) dX1_init_112 ?_
            exact ⟨rfl, rfl⟩
        · refine z_iconst 0 (by decide) C dX1_init_84 ?_
          refine z_int (x' := rls S one) (by rw [c81]; rfl) ?_
          refine z_goto 93 C dX1_init_85 (by decide) ?_
          refine z_ior C dX1_init_93 ?_
          refine z_aload C rfl dX1_init_94 ?_
          refine z_ifnonnull 103 C dX1_init_96 (by decide) (fun a96 c96 => ?_) (fun c96 => ?_)
          · refine z_aload C rfl dX1_init_103 ?_
            refine z_ref c96 ?_
            refine zg1_listSet C (fun w h => List.mem_cons_of_mem _ (uc_wsX10 w h)) (h2 _ c96) (List.mem_cons_of_mem _ wc13) dX1_init_105 ?_
            refine z_int (x' := rls S oth) (by rw [c96]; exact rl_9) ?_
            refine z_ior C dX1_init_108 ?_
            refine zp1_listSet C (fun w h => List.mem_cons_of_mem _ (uc_wsX10 w h)) hk (hN0 rfl) rfl (List.mem_cons_of_mem _ wc13) dX1_init_109 ?_
            refine z_return C F (Nat.le_of_ble_eq_true rfl) (Nat.le_of_ble_eq_true rfl) dX1_init_112 ?_
            exact ⟨rfl, rfl⟩
          · refine z_iconst 0 (by decide) C dX1_init_99 ?_
            refine z_int (x' := rls S oth) (by rw [c96]; rfl) ?_
            refine z_goto 108 C dX1_init_100 (by decide) ?_
            refine z_ior C dX1_init_108 ?_
            refine zp1_listSet C (fun w h => List.mem_cons_of_mem _ (uc_wsX10 w h)) hk (hN0 rfl) rfl (List.mem_cons_of_mem _ wc13) dX1_init_109 ?_
            refine z_return C F (Nat.le_of_ble_eq_true rfl) (Nat.le_of_ble_eq_true rfl) dX1_init_112 ?_
            exact ⟨rfl, rfl⟩
      · refine z_iconst 1 (by decide) C dX1_init_72 ?_
        refine z_iload_n C rfl dX1_init_73 ?_
        refine z_ishl C dX1_init_74 ?_
        refine z_int (x' := if kind = 5 then 1 <<< (asked &&& 31) else 0) (if_pos (by first | exact c69 | exact Decidable.not_not.1 c69)).symm ?_
        refine z_goto 79 C dX1_init_75 (by decide) ?_
        refine z_aload C rfl dX1_init_79 ?_
        refine z_ifnonnull 88 C dX1_init_81 (by decide) (fun a81 c81 => ?_) (fun c81 => ?_)
        · refine z_aload C rfl dX1_init_88 ?_
          refine z_ref c81 ?_
          refine zg1_listSet C (fun w h => List.mem_cons_of_mem _ (uc_wsX10 w h)) (h1 _ c81) (List.mem_cons_of_mem _ wc13) dX1_init_90 ?_
          refine z_int (x' := rls S one) (by rw [c81]; exact rl_9) ?_
          refine z_ior C dX1_init_93 ?_
          refine z_aload C rfl dX1_init_94 ?_
          refine z_ifnonnull 103 C dX1_init_96 (by decide) (fun a96 c96 => ?_) (fun c96 => ?_)
          · refine z_aload C rfl dX1_init_103 ?_
            refine z_ref c96 ?_
            refine zg1_listSet C (fun w h => List.mem_cons_of_mem _ (uc_wsX10 w h)) (h2 _ c96) (List.mem_cons_of_mem _ wc13) dX1_init_105 ?_
            refine z_int (x' := rls S oth) (by rw [c96]; exact rl_9) ?_
            refine z_ior C dX1_init_108 ?_
            refine zp1_listSet C (fun w h => List.mem_cons_of_mem _ (uc_wsX10 w h)) hk (hN0 rfl) rfl (List.mem_cons_of_mem _ wc13) dX1_init_109 ?_
            refine z_return C F (Nat.le_of_ble_eq_true rfl) (Nat.le_of_ble_eq_true rfl) dX1_init_112 ?_
            exact ⟨rfl, rfl⟩
          · refine z_iconst 0 (by decide) C dX1_init_99 ?_
            refine z_int (x' := rls S oth) (by rw [c96]; rfl) ?_
            refine z_goto 108 C dX1_init_100 (by decide) ?_
            refine z_ior C dX1_init_108 ?_
            refine zp1_listSet C (fun w h => List.mem_cons_of_mem _ (uc_wsX10 w h)) hk (hN0 rfl) rfl (List.mem_cons_of_mem _ wc13) dX1_init_109 ?_
            refine z_return C F (Nat.le_of_ble_eq_true rfl) (Nat.le_of_ble_eq_true rfl) dX1_init_112 ?_
            exact ⟨rfl, rfl⟩
        · refine z_iconst 0 (by decide) C dX1_init_84 ?_
          refine z_int (x' := rls S one) (by rw [c81]; rfl) ?_
          refine z_goto 93 C dX1_init_85 (by decide) ?_
          refine z_ior C dX1_init_93 ?_
          refine z_aload C rfl dX1_init_94 ?_
          refine z_ifnonnull 103 C dX1_init_96 (by decide) (fun a96 c96 => ?_) (fun c96 => ?_)
          · refine z_aload C rfl dX1_init_103 ?_
            refine z_ref c96 ?_
            refine zg1_listSet C (fun w h => List.mem_cons_of_mem _ (uc_wsX10 w h)) (h2 _ c96) (List.mem_cons_of_mem _ wc13) dX1_init_105 ?_
            refine z_int (x' := rls S oth) (by rw [c96]; exact rl_9) ?_
            refine z_ior C dX1_init_108 ?_
            refine zp1_listSet C (fun w h => List.mem_cons_of_mem _ (uc_wsX10 w h)) hk (hN0 rfl) rfl (List.mem_cons_of_mem _ wc13) dX1_init_109 ?_
            refine z_return C F (Nat.le_of_ble_eq_true rfl) (Nat.le_of_ble_eq_true rfl) dX1_init_112 ?_
            exact ⟨rfl, rfl⟩
          · refine z_iconst 0 (by decide) C dX1_init_99 ?_
            refine z_int (x' := rls S oth) (by rw [c96]; rfl) ?_
            refine z_goto 108 C dX1_init_100 (by decide) ?_
            refine z_ior C dX1_init_108 ?_
            refine zp1_listSet C (fun w h => List.mem_cons_of_mem _ (uc_wsX10 w h)) hk (hN0 rfl) rfl (List.mem_cons_of_mem _ wc13) dX1_init_109 ?_
            refine z_return C F (Nat.le_of_ble_eq_true rfl) (Nat.le_of_ble_eq_true rfl) dX1_init_112 ?_
            exact ⟨rfl, rfl⟩
  · refine z_iconst 0 (by decide) C dX1_init_38 ?_
    refine z_int (x' := rsz S one) (by rw [c35]; rfl) ?_
    refine z_goto 47 C dX1_init_39 (by decide) ?_
    refine z_iadd C dX1_init_47 ?_
    refine z_aload C rfl dX1_init_48 ?_
    refine z_ifnonnull 57 C dX1_init_50 (by decide) (fun a50 c50 => ?_) (fun c50 => ?_)
    · refine z_aload C rfl dX1_init_57 ?_
      refine z_ref c50 ?_
      refine zg1_size C (fun w h => List.mem_cons_of_mem _ (uc_wsX10 w h)) (h2 _ c50) (List.mem_cons_of_mem _ wc12) dX1_init_59 ?_
      refine z_int (x' := rsz S oth) (by rw [c50]; exact rl_8) ?_
      refine z_iadd C dX1_init_62 ?_
      refine zp1_size C (fun w h => List.mem_cons_of_mem _ (uc_wsX10 w h)) hk (hN0 rfl) rfl (List.mem_cons_of_mem _ wc12) dX1_init_63 ?_
      refine z_aload_n C rfl dX1_init_66 ?_
      refine z_iload_n C rfl dX1_init_67 ?_
      refine z_iconst 5 (by decide) C dX1_init_68 ?_
      refine z_icmp_ne 78 C dX1_init_69 (by decide) (fun c69 => ?_) (fun c69 => ?_)
      · refine z_iconst 0 (by decide) C dX1_init_78 ?_
        refine z_int (x' := if kind = 5 then 1 <<< (asked &&& 31) else 0) (if_neg c69).symm ?_
        refine z_aload C rfl dX1_init_79 ?_
        refine z_ifnonnull 88 C dX1_init_81 (by decide) (fun a81 c81 => ?_) (fun c81 => ?_)
        · refine z_aload C rfl dX1_init_88 ?_
          refine z_ref c81 ?_
          refine zg1_listSet C (fun w h => List.mem_cons_of_mem _ (uc_wsX10 w h)) (h1 _ c81) (List.mem_cons_of_mem _ wc13) dX1_init_90 ?_
          refine z_int (x' := rls S one) (by rw [c81]; exact rl_9) ?_
          refine z_ior C dX1_init_93 ?_
          refine z_aload C rfl dX1_init_94 ?_
          refine z_ifnonnull 103 C dX1_init_96 (by decide) (fun a96 c96 => ?_) (fun c96 => ?_)
          · refine z_aload C rfl dX1_init_103 ?_
            refine z_ref c96 ?_
            refine zg1_listSet C (fun w h => List.mem_cons_of_mem _ (uc_wsX10 w h)) (h2 _ c96) (List.mem_cons_of_mem _ wc13) dX1_init_105 ?_
            refine z_int (x' := rls S oth) (by rw [c96]; exact rl_9) ?_
            refine z_ior C dX1_init_108 ?_
            refine zp1_listSet C (fun w h => List.mem_cons_of_mem _ (uc_wsX10 w h)) hk (hN0 rfl) rfl (List.mem_cons_of_mem _ wc13) dX1_init_109 ?_
            refine z_return C F (Nat.le_of_ble_eq_true rfl) (Nat.le_of_ble_eq_true rfl) dX1_init_112 ?_
            exact ⟨rfl, rfl⟩
          · refine z_iconst 0 (by decide) C dX1_init_99 ?_
            refine z_int (x' := rls S oth) (by rw [c96]; rfl) ?_
            refine z_goto 108 C dX1_init_100 (by decide) ?_
            refine z_ior C dX1_init_108 ?_
            refine zp1_listSet C (fun w h => List.mem_cons_of_mem _ (uc_wsX10 w h)) hk (hN0 rfl) rfl (List.mem_cons_of_mem _ wc13) dX1_init_109 ?_
            refine z_return C F (Nat.le_of_ble_eq_true rfl) (Nat.le_of_ble_eq_true rfl) dX1_init_112 ?_
            exact ⟨rfl, rfl⟩
        · refine z_iconst 0 (by decide) C dX1_init_84 ?_
          refine z_int (x' := rls S one) (by rw [c81]; rfl) ?_
          refine z_goto 93 C dX1_init_85 (by decide) ?_
          refine z_ior C dX1_init_93 ?_
          refine z_aload C rfl dX1_init_94 ?_
          refine z_ifnonnull 103 C dX1_init_96 (by decide) (fun a96 c96 => ?_) (fun c96 => ?_)
          · refine z_aload C rfl dX1_init_103 ?_
            refine z_ref c96 ?_
            refine zg1_listSet C (fun w h => List.mem_cons_of_mem _ (uc_wsX10 w h)) (h2 _ c96) (List.mem_cons_of_mem _ wc13) dX1_init_105 ?_
            refine z_int (x' := rls S oth) (by rw [c96]; exact rl_9) ?_
            refine z_ior C dX1_init_108 ?_
            refine zp1_listSet C (fun w h => List.mem_cons_of_mem _ (uc_wsX10 w h)) hk (hN0 rfl) rfl (List.mem_cons_of_mem _ wc13) dX1_init_109 ?_
            refine z_return C F (Nat.le_of_ble_eq_true rfl) (Nat.le_of_ble_eq_true rfl) dX1_init_112 ?_
            exact ⟨rfl, rfl⟩
          · refine z_iconst 0 (by decide) C dX1_init_99 ?_
            refine z_int (x' := rls S oth) (by rw [c96]; rfl) ?_
            refine z_goto 108 C dX1_init_100 (by decide) ?_
            refine z_ior C dX1_init_108 ?_
            refine zp1_listSet C (fun w h => List.mem_cons_of_mem _ (uc_wsX10 w h)) hk (hN0 rfl) rfl (List.mem_cons_of_mem _ wc13) dX1_init_109 ?_
            refine z_return C F (Nat.le_of_ble_eq_true rfl) (Nat.le_of_ble_eq_true rfl) dX1_init_112 ?_
            exact ⟨rfl, rfl⟩
      · refine z_iconst 1 (by decide) C dX1_init_72 ?_
        refine z_iload_n C rfl dX1_init_73 ?_
        refine z_ishl C dX1_init_74 ?_
        refine z_int (x' := if kind = 5 then 1 <<< (asked &&& 31) else 0) (if_pos (by first | exact c69 | exact Decidable.not_not.1 c69)).symm ?_
        refine z_goto 79 C dX1_init_75 (by decide) ?_
        refine z_aload C rfl dX1_init_79 ?_
        refine z_ifnonnull 88 C dX1_init_81 (by decide) (fun a81 c81 => ?_) (fun c81 => ?_)
        · refine z_aload C rfl dX1_init_88 ?_
          refine z_ref c81 ?_
          refine zg1_listSet C (fun w h => List.mem_cons_of_mem _ (uc_wsX10 w h)) (h1 _ c81) (List.mem_cons_of_mem _ wc13) dX1_init_90 ?_
          refine z_int (x' := rls S one) (by rw [c81]; exact rl_9) ?_
          refine z_ior C dX1_init_93 ?_
          refine z_aload C rfl dX1_init_94 ?_
          refine z_ifnonnull 103 C dX1_init_96 (by decide) (fun a96 c96 => ?_) (fun c96 => ?_)
          · refine z_aload C rfl dX1_init_103 ?_
            refine z_ref c96 ?_
            refine zg1_listSet C (fun w h => List.mem_cons_of_mem _ (uc_wsX10 w h)) (h2 _ c96) (List.mem_cons_of_mem _ wc13) dX1_init_105 ?_
            refine z_int (x' := rls S oth) (by rw [c96]; exact rl_9) ?_
            refine z_ior C dX1_init_108 ?_
            refine zp1_listSet C (fun w h => List.mem_cons_of_mem _ (uc_wsX10 w h)) hk (hN0 rfl) rfl (List.mem_cons_of_mem _ wc13) dX1_init_109 ?_
            refine z_return C F (Nat.le_of_ble_eq_true rfl) (Nat.le_of_ble_eq_true rfl) dX1_init_112 ?_
            exact ⟨rfl, rfl⟩
          · refine z_iconst 0 (by decide) C dX1_init_99 ?_
            refine z_int (x' := rls S oth) (by rw [c96]; rfl) ?_
            refine z_goto 108 C dX1_init_100 (by decide) ?_
            refine z_ior C dX1_init_108 ?_
            refine zp1_listSet C (fun w h => List.mem_cons_of_mem _ (uc_wsX10 w h)) hk (hN0 rfl) rfl (List.mem_cons_of_mem _ wc13) dX1_init_109 ?_
            refine z_return C F (Nat.le_of_ble_eq_true rfl) (Nat.le_of_ble_eq_true rfl) dX1_init_112 ?_
            exact ⟨rfl, rfl⟩
        · refine z_iconst 0 (by decide) C dX1_init_84 ?_
          refine z_int (x' := rls S one) (by rw [c81]; rfl) ?_
          refine z_goto 93 C dX1_init_85 (by decide) ?_
          refine z_ior C dX1_init_93 ?_
          refine z_aload C rfl dX1_init_94 ?_
          refine z_ifnonnull 103 C dX1_init_96 (by decide) (fun a96 c96 => ?_) (fun c96 => ?_)
          · refine z_aload C rfl dX1_init_103 ?_
            refine z_ref c96 ?_
            refine zg1_listSet C (fun w h => List.mem_cons_of_mem _ (uc_wsX10 w h)) (h2 _ c96) (List.mem_cons_of_mem _ wc13) dX1_init_105 ?_
            refine z_int (x' := rls S oth) (by rw [c96]; exact rl_9) ?_
            refine z_ior C dX1_init_108 ?_
            refine zp1_listSet C (fun w h => List.mem_cons_of_mem _ (uc_wsX10 w h)) hk (hN0 rfl) rfl (List.mem_cons_of_mem _ wc13) dX1_init_109 ?_
            refine z_return C F (Nat.le_of_ble_eq_true rfl) (Nat.le_of_ble_eq_true rfl) dX1_init_112 ?_
            exact ⟨rfl, rfl⟩
          · refine z_iconst 0 (by decide) C dX1_init_99 ?_
            refine z_int (x' := rls S oth) (by rw [c96]; rfl) ?_
            refine z_goto 108 C dX1_init_100 (by decide) ?_
            refine z_ior C dX1_init_108 ?_
            refine zp1_listSet C (fun w h => List.mem_cons_of_mem _ (uc_wsX10 w h)) hk (hN0 rfl) rfl (List.mem_cons_of_mem _ wc13) dX1_init_109 ?_
            refine z_return C F (Nat.le_of_ble_eq_true rfl) (Nat.le_of_ble_eq_true rfl) dX1_init_112 ?_
            exact ⟨rfl, rfl⟩
    · refine z_iconst 0 (by decide) C dX1_init_53 ?_
      refine z_int (x' := rsz S oth) (by rw [c50]; rfl) ?_
      refine z_goto 62 C dX1_init_54 (by decide) ?_
      refine z_iadd C dX1_init_62 ?_
      refine zp1_size C (fun w h => List.mem_cons_of_mem _ (uc_wsX10 w h)) hk (hN0 rfl) rfl (List.mem_cons_of_mem _ wc12) dX1_init_63 ?_
      refine z_aload_n C rfl dX1_init_66 ?_
      refine z_iload_n C rfl dX1_init_67 ?_
      refine z_iconst 5 (by decide) C dX1_init_68 ?_
      refine z_icmp_ne 78 C dX1_init_69 (by decide) (fun c69 => ?_) (fun c69 => ?_)
      · refine z_iconst 0 (by decide) C dX1_init_78 ?_
        refine z_int (x' := if kind = 5 then 1 <<< (asked &&& 31) else 0) (if_neg c69).symm ?_
        refine z_aload C rfl dX1_init_79 ?_
        refine z_ifnonnull 88 C dX1_init_81 (by decide) (fun a81 c81 => ?_) (fun c81 => ?_)
        · refine z_aload C rfl dX1_init_88 ?_
          refine z_ref c81 ?_
          refine zg1_listSet C (fun w h => List.mem_cons_of_mem _ (uc_wsX10 w h)) (h1 _ c81) (List.mem_cons_of_mem _ wc13) dX1_init_90 ?_
          refine z_int (x' := rls S one) (by rw [c81]; exact rl_9) ?_
          refine z_ior C dX1_init_93 ?_
          refine z_aload C rfl dX1_init_94 ?_
          refine z_ifnonnull 103 C dX1_init_96 (by decide) (fun a96 c96 => ?_) (fun c96 => ?_)
          · refine z_aload C rfl dX1_init_103 ?_
            refine z_ref c96 ?_
            refine zg1_listSet C (fun w h => List.mem_cons_of_mem _ (uc_wsX10 w h)) (h2 _ c96) (List.mem_cons_of_mem _ wc13) dX1_init_105 ?_
            refine z_int (x' := rls S oth) (by rw [c96]; exact rl_9) ?_
            refine z_ior C dX1_init_108 ?_
            refine zp1_listSet C (fun w h => List.mem_cons_of_mem _ (uc_wsX10 w h)) hk (hN0 rfl) rfl (List.mem_cons_of_mem _ wc13) dX1_init_109 ?_
            refine z_return C F (Nat.le_of_ble_eq_true rfl) (Nat.le_of_ble_eq_true rfl) dX1_init_112 ?_
            exact ⟨rfl, rfl⟩
          · refine z_iconst 0 (by decide) C dX1_init_99 ?_
            refine z_int (x' := rls S oth) (by rw [c96]; rfl) ?_
            refine z_goto 108 C dX1_init_100 (by decide) ?_
            refine z_ior C dX1_init_108 ?_
            refine zp1_listSet C (fun w h => List.mem_cons_of_mem _ (uc_wsX10 w h)) hk (hN0 rfl) rfl (List.mem_cons_of_mem _ wc13) dX1_init_109 ?_
            refine z_return C F (Nat.le_of_ble_eq_true rfl) (Nat.le_of_ble_eq_true rfl) dX1_init_112 ?_
            exact ⟨rfl, rfl⟩
        · refine z_iconst 0 (by decide) C dX1_init_84 ?_
          refine z_int (x' := rls S one) (by rw [c81]; rfl) ?_
          refine z_goto 93 C dX1_init_85 (by decide) ?_
          refine z_ior C dX1_init_93 ?_
          refine z_aload C rfl dX1_init_94 ?_
          refine z_ifnonnull 103 C dX1_init_96 (by decide) (fun a96 c96 => ?_) (fun c96 => ?_)
          · refine z_aload C rfl dX1_init_103 ?_
            refine z_ref c96 ?_
            refine zg1_listSet C (fun w h => List.mem_cons_of_mem _ (uc_wsX10 w h)) (h2 _ c96) (List.mem_cons_of_mem _ wc13) dX1_init_105 ?_
            refine z_int (x' := rls S oth) (by rw [c96]; exact rl_9) ?_
            refine z_ior C dX1_init_108 ?_
            refine zp1_listSet C (fun w h => List.mem_cons_of_mem _ (uc_wsX10 w h)) hk (hN0 rfl) rfl (List.mem_cons_of_mem _ wc13) dX1_init_109 ?_
            refine z_return C F (Nat.le_of_ble_eq_true rfl) (Nat.le_of_ble_eq_true rfl) dX1_init_112 ?_
            exact ⟨rfl, rfl⟩
          · refine z_iconst 0 (by decide) C dX1_init_99 ?_
            refine z_int (x' := rls S oth) (by rw [c96]; rfl) ?_
            refine z_goto 108 C dX1_init_100 (by decide) ?_
            refine z_ior C dX1_init_108 ?_
            refine zp1_listSet C (fun w h => List.mem_cons_of_mem _ (uc_wsX10 w h)) hk (hN0 rfl) rfl (List.mem_cons_of_mem _ wc13) dX1_init_109 ?_
            refine z_return C F (Nat.le_of_ble_eq_true rfl) (Nat.le_of_ble_eq_true rfl) dX1_init_112 ?_
            exact ⟨rfl, rfl⟩
      · refine z_iconst 1 (by decide) C dX1_init_72 ?_
        refine z_iload_n C rfl dX1_init_73 ?_
        refine z_ishl C dX1_init_74 ?_
        refine z_int (x' := if kind = 5 then 1 <<< (asked &&& 31) else 0) (if_pos (by first | exact c69 | exact Decidable.not_not.1 c69)).symm ?_
        refine z_goto 79 C dX1_init_75 (by decide) ?_
        refine z_aload C rfl dX1_init_79 ?_
        refine z_ifnonnull 88 C dX1_init_81 (by decide) (fun a81 c81 => ?_) (fun c81 => ?_)
        · refine z_aload C rfl dX1_init_88 ?_
          refine z_ref c81 ?_
          refine zg1_listSet C (fun w h => List.mem_cons_of_mem _ (uc_wsX10 w h)) (h1 _ c81) (List.mem_cons_of_mem _ wc13) dX1_init_90 ?_
          refine z_int (x' := rls S one) (by rw [c81]; exact rl_9) ?_
          refine z_ior C dX1_init_93 ?_
          refine z_aload C rfl dX1_init_94 ?_
          refine z_ifnonnull 103 C dX1_init_96 (by decide) (fun a96 c96 => ?_) (fun c96 => ?_)
          · refine z_aload C rfl dX1_init_103 ?_
            refine z_ref c96 ?_
            refine zg1_listSet C (fun w h => List.mem_cons_of_mem _ (uc_wsX10 w h)) (h2 _ c96) (List.mem_cons_of_mem _ wc13) dX1_init_105 ?_
            refine z_int (x' := rls S oth) (by rw [c96]; exact rl_9) ?_
            refine z_ior C dX1_init_108 ?_
            refine zp1_listSet C (fun w h => List.mem_cons_of_mem _ (uc_wsX10 w h)) hk (hN0 rfl) rfl (List.mem_cons_of_mem _ wc13) dX1_init_109 ?_
            refine z_return C F (Nat.le_of_ble_eq_true rfl) (Nat.le_of_ble_eq_true rfl) dX1_init_112 ?_
            exact ⟨rfl, rfl⟩
          · refine z_iconst 0 (by decide) C dX1_init_99 ?_
            refine z_int (x' := rls S oth) (by rw [c96]; rfl) ?_
            refine z_goto 108 C dX1_init_100 (by decide) ?_
            refine z_ior C dX1_init_108 ?_
            refine zp1_listSet C (fun w h => List.mem_cons_of_mem _ (uc_wsX10 w h)) hk (hN0 rfl) rfl (List.mem_cons_of_mem _ wc13) dX1_init_109 ?_
            refine z_return C F (Nat.le_of_ble_eq_true rfl) (Nat.le_of_ble_eq_true rfl) dX1_init_112 ?_
            exact ⟨rfl, rfl⟩
        · refine z_iconst 0 (by decide) C dX1_init_84 ?_
          refine z_int (x' := rls S one) (by rw [c81]; rfl) ?_
          refine z_goto 93 C dX1_init_85 (by decide) ?_
          refine z_ior C dX1_init_93 ?_
          refine z_aload C rfl dX1_init_94 ?_
          refine z_ifnonnull 103 C dX1_init_96 (by decide) (fun a96 c96 => ?_) (fun c96 => ?_)
          · refine z_aload C rfl dX1_init_103 ?_
            refine z_ref c96 ?_
            refine zg1_listSet C (fun w h => List.mem_cons_of_mem _ (uc_wsX10 w h)) (h2 _ c96) (List.mem_cons_of_mem _ wc13) dX1_init_105 ?_
            refine z_int (x' := rls S oth) (by rw [c96]; exact rl_9) ?_
            refine z_ior C dX1_init_108 ?_
            refine zp1_listSet C (fun w h => List.mem_cons_of_mem _ (uc_wsX10 w h)) hk (hN0 rfl) rfl (List.mem_cons_of_mem _ wc13) dX1_init_109 ?_
            refine z_return C F (Nat.le_of_ble_eq_true rfl) (Nat.le_of_ble_eq_true rfl) dX1_init_112 ?_
            exact ⟨rfl, rfl⟩
          · refine z_iconst 0 (by decide) C dX1_init_99 ?_
            refine z_int (x' := rls S oth) (by rw [c96]; rfl) ?_
            refine z_goto 108 C dX1_init_100 (by decide) ?_
            refine z_ior C dX1_init_108 ?_
            refine zp1_listSet C (fun w h => List.mem_cons_of_mem _ (uc_wsX10 w h)) hk (hN0 rfl) rfl (List.mem_cons_of_mem _ wc13) dX1_init_109 ?_
            refine z_return C F (Nat.le_of_ble_eq_true rfl) (Nat.le_of_ble_eq_true rfl) dX1_init_112 ?_
            exact ⟨rfl, rfl⟩
