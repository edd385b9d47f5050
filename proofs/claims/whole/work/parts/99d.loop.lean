/-! the law's loop -/
theorem lim_4 {i N : Nat} (hi : i ≤ 4096) (hN : N ≤ 2048) (c : ¬ nI N - 4 < nI i) : i + 4 ≤ N := by
  by_cases h : 4 ≤ N
  · obtain ⟨a, rfl⟩ : ∃ a : Nat, N = a + 4 := ⟨N - 4, by omega⟩
    rw [show nI (a + 4) - 4 = nI a from by rw [← nI_add]; exact Int32.add_sub_cancel _ _, nI_ltI (by omega) (by omega)] at c
    omega
  · have : nI N - 4 < 0 := by
      have h4 : N = 0 ∨ N = 1 ∨ N = 2 ∨ N = 3 := by omega
      rcases h4 with rfl | rfl | rfl | rfl <;> decide
    exact absurd (Int32.lt_of_lt_of_le this (nI_pos' (by omega))) c
theorem and63 (x : Int32) : ∃ j : Nat, j < 64 ∧ x &&& 63 = nI j := by
  refine ⟨x.toBitVec.toNat % 64, Nat.mod_lt _ (by decide), ?_⟩
  apply Int32.toBitVec_inj.mp
  apply BitVec.eq_of_toNat_eq
  rw [Int32.toBitVec_and, BitVec.toNat_and]
  show _ &&& 63 = (BitVec.ofNat 32 (x.toBitVec.toNat % 64)).toNat
  rw [show (63 : Nat) = 2 ^ 6 - 1 from rfl, Nat.and_two_pow_sub_one_eq_mod, BitVec.toNat_ofNat]
  omega
set_option maxRecDepth 100000 in
set_option maxHeartbeats 4000000 in
theorem law_turn {X : zX} (hl0 : (xl X).stackTraces = false) {F G : Nat → Bool} {s o1 o2 M : Nat} {r : Nat → Nat} {V : Nat → Int32} {N : Nat} {S : ZM} {D : ZD} {J : Nat → Int64} {lk : ZL} {as L T : Nat → Nat} {k n i : Nat} {q6 q7 q8 : Option ZV} (C : zC X RL cL_law 9 LWl) (Nc : zNc (xs X)) (hR : xR X = room_1) (hF : LF F G s o1 o2 M r) (hI : LI D J lk as (rsOff F S) L T) (hM : iM D J S M r) (hA : LA F s o1 o2 V N S) (hXs : LX X s N V) (hN : N ≤ 2048) (hE : ∀ (S : ZM) (ls : List (Option ZV)), zW X 9 k n S 3260 ls []) (hi4 : i ≤ 4096) : (i + 4 ≤ N → k + 100 ≤ 60000 ∧ n + 1000 ≤ 600000) → (i + 4 ≤ N → LK X F G s o1 o2 M r V N L k n i) → zW X 9 k n S 28 [some (zr (some s)), some (zr (some (L 0))), some (zr (some M)), some (zr (some o1)), some (zr (some o2)), some (zi (nI i)), q6, q7, q8] [] := by
  intro hk0 kk0
  refine z_iload C rfl dL_law_28 ?_
  refine z_aload_n C rfl dL_law_30 ?_
  refine z_slen C hXs dL_law_31 ?_
  refine z_iconst 4 (by decide) C dL_law_32 ?_
  refine z_isub C dL_law_33 ?_
  refine z_icmp_gt 3260 C dL_law_34 (by decide) (fun c => hE _ _) (fun c => ?_)
  have hi4N := lim_4 hi4 hN c
  have hi : i + 3 < N := by omega
  have hk := hk0 hi4N
  have kk := kk0 hi4N
  refine z_aload_n C rfl dL_law_37 ?_
  refine z_iload C rfl dL_law_38 ?_
  refine z_sld C hXs (nI_in (by omega) (by omega)) dL_law_40 ?_
  refine z_int (x' := V i) (by rw [nI_clamp (by omega)]) ?_
  refine z_bipush 63 (by decide) C dL_law_41 ?_
  refine z_iand C dL_law_43 ?_
  obtain ⟨j, hj, ej⟩ := and63 (V i)
  refine z_int ej ?_
  clear ej
  by_cases hj50 : j ≤ 50
  · match j, hj50 with
    | 0, _ => exact z_tableIn (off := 220) 264 C dL_law_44 (by decide) (by decide) (by rfl) (by decide) (K_addTrack hl0 C Nc hR hF hI hM hA hXs hi hN hk kk)
    | 1, _ => exact z_tableIn (off := 288) 332 C dL_law_44 (by decide) (by decide) (by rfl) (by decide) (K_removeTrack hl0 C Nc hR hF hI hM hA hXs hi hN hk kk)
    | 2, _ => exact z_tableIn (off := 344) 388 C dL_law_44 (by decide) (by decide) (by rfl) (by decide) (K_setRating hl0 C Nc hR hF hI hM hA hXs hi hN hk kk)
    | 3, _ => exact z_tableIn (off := 412) 456 C dL_law_44 (by decide) (by decide) (by rfl) (by decide) (K_play hl0 C Nc hR hF hI hM hA hXs hi hN hk kk)
    | 4, _ => exact z_tableIn (off := 468) 512 C dL_law_44 (by decide) (by decide) (by rfl) (by decide) (K_pass hl0 C Nc hR hF hI hM hA hXs hi hN hk kk)
    | 5, _ => exact z_tableIn (off := 524) 568 C dL_law_44 (by decide) (by decide) (by rfl) (by decide) (K_addTag hl0 C Nc hR hF hI hM hA hXs hi hN hk kk)
    | 6, _ => exact z_tableIn (off := 568) 612 C dL_law_44 (by decide) (by decide) (by rfl) (by decide) (K_letter hl0 C Nc hR hF hI hM hA hXs hi hN hk kk)
    | 7, _ => exact z_tableIn (off := 638) 682 C dL_law_44 (by decide) (by decide) (by rfl) (by decide) (K_tag hl0 C Nc hR hF hI hM hA hXs hi hN hk kk)
    | 8, _ => exact z_tableIn (off := 706) 750 C dL_law_44 (by decide) (by decide) (by rfl) (by decide) (K_untag hl0 C Nc hR hF hI hM hA hXs hi hN hk kk)
    | 9, _ => exact z_tableIn (off := 774) 818 C dL_law_44 (by decide) (by decide) (by rfl) (by decide) (K_tidy hl0 C Nc hR hF hI hM hA hXs hi hN hk kk)
    | 10, _ => exact z_tableIn (off := 842) 886 C dL_law_44 (by decide) (by decide) (by rfl) (by decide) (K_undoTidy hl0 C Nc hR hF hI hM hA hXs hi hN hk kk)
    | 11, _ => exact z_tableIn (off := 886) 930 C dL_law_44 (by decide) (by decide) (by rfl) (by decide) (K_hasTag hl0 C Nc hR hF hI hM hA hXs hi hN hk kk)
    | 12, _ => exact z_tableIn (off := 942) 986 C dL_law_44 (by decide) (by decide) (by rfl) (by decide) (K_rated hl0 C Nc hR hF hI hM hA hXs hi hN hk kk)
    | 13, _ => exact z_tableIn (off := 998) 1042 C dL_law_44 (by decide) (by decide) (by rfl) (by decide) (K_playedAtMost hl0 C Nc hR hF hI hM hA hXs hi hN hk kk)
    | 14, _ => exact z_tableIn (off := 1054) 1098 C dL_law_44 (by decide) (by decide) (by rfl) (by decide) (K_asLongAs hl0 C Nc hR hF hI hM hA hXs hi hN hk kk)
    | 15, _ => exact z_tableIn (off := 1110) 1154 C dL_law_44 (by decide) (by decide) (by rfl) (by decide) (K_playedWithin hl0 C Nc hR hF hI hM hA hXs hi hN hk kk)
    | 16, _ => exact z_tableIn (off := 1166) 1210 C dL_law_44 (by decide) (by decide) (by rfl) (by decide) (K_inList hl0 C Nc hR hF hI hM hA hXs hi hN hk kk)
    | 17, _ => exact z_tableIn (off := 1222) 1266 C dL_law_44 (by decide) (by decide) (by rfl) (by decide) (K_both hl0 C Nc hR hF hI hM hA hXs hi hN hk kk)
    | 18, _ => exact z_tableIn (off := 1290) 1334 C dL_law_44 (by decide) (by decide) (by rfl) (by decide) (K_either hl0 C Nc hR hF hI hM hA hXs hi hN hk kk)
    | 19, _ => exact z_tableIn (off := 1358) 1402 C dL_law_44 (by decide) (by decide) (by rfl) (by decide) (K_not hl0 C Nc hR hF hI hM hA hXs hi hN hk kk)
    | 20, _ => exact z_tableIn (off := 1414) 1458 C dL_law_44 (by decide) (by decide) (by rfl) (by decide) (K_addList hl0 C Nc hR hF hI hM hA hXs hi hN hk kk)
    | 21, _ => exact z_tableIn (off := 1496) 1540 C dL_law_44 (by decide) (by decide) (by rfl) (by decide) (K_setRule hl0 C Nc hR hF hI hM hA hXs hi hN hk kk)
    | 22, _ => exact z_tableIn (off := 1564) 1608 C dL_law_44 (by decide) (by decide) (by rfl) (by decide) (K_setOrder hl0 C Nc hR hF hI hM hA hXs hi hN hk kk)
    | 23, _ => exact z_tableIn (off := 1634) 1678 C dL_law_44 (by decide) (by decide) (by rfl) (by decide) (K_setLimit hl0 C Nc hR hF hI hM hA hXs hi hN hk kk)
    | 24, _ => exact z_tableIn (off := 1702) 1746 C dL_law_44 (by decide) (by decide) (by rfl) (by decide) (K_tracks hl0 C Nc hR hF hI hM hA hXs hi hN hk kk)
    | 25, _ => exact z_tableIn (off := 1715) 1759 C dL_law_44 (by decide) (by decide) (by rfl) (by decide) (K_today hl0 C Nc hR hF hI hM hA hXs hi hN hk kk)
    | 26, _ => exact z_tableIn (off := 1728) 1772 C dL_law_44 (by decide) (by decide) (by rfl) (by decide) (K_lengthOf hl0 C Nc hR hF hI hM hA hXs hi hN hk kk)
    | 27, _ => exact z_tableIn (off := 1784) 1828 C dL_law_44 (by decide) (by decide) (by rfl) (by decide) (K_ratingOf hl0 C Nc hR hF hI hM hA hXs hi hN hk kk)
    | 28, _ => exact z_tableIn (off := 1840) 1884 C dL_law_44 (by decide) (by decide) (by rfl) (by decide) (K_playsOf hl0 C Nc hR hF hI hM hA hXs hi hN hk kk)
    | 29, _ => exact z_tableIn (off := 1896) 1940 C dL_law_44 (by decide) (by decide) (by rfl) (by decide) (K_playedLast hl0 C Nc hR hF hI hM hA hXs hi hN hk kk)
    | 30, _ => exact z_tableIn (off := 1952) 1996 C dL_law_44 (by decide) (by decide) (by rfl) (by decide) (K_tagBits hl0 C Nc hR hF hI hM hA hXs hi hN hk kk)
    | 31, _ => exact z_tableIn (off := 2008) 2052 C dL_law_44 (by decide) (by decide) (by rfl) (by decide) (K_nameLength hl0 C Nc hR hF hI hM hA hXs hi hN hk kk)
    | 32, _ => exact z_tableIn (off := 2064) 2108 C dL_law_44 (by decide) (by decide) (by rfl) (by decide) (K_nameAt hl0 C Nc hR hF hI hM hA hXs hi hN hk kk)
    | 33, _ => exact z_tableIn (off := 2132) 2176 C dL_law_44 (by decide) (by decide) (by rfl) (by decide) (K_distance hl0 C Nc hR hF hI hM hA hXs hi hN hk kk)
    | 34, _ => exact z_tableIn (off := 2200) 2244 C dL_law_44 (by decide) (by decide) (by rfl) (by decide) (K_distanceByTrying hl0 C Nc hR hF hI hM hA hXs hi hN hk kk)
    | 35, _ => exact z_tableIn (off := 2268) 2312 C dL_law_44 (by decide) (by decide) (by rfl) (by decide) (K_nearest hl0 C Nc hR hF hI hM hA hXs hi hN hk kk)
    | 36, _ => exact z_tableIn (off := 2324) 2368 C dL_law_44 (by decide) (by decide) (by rfl) (by decide) (K_sizeOf hl0 C Nc hR hF hI hM hA hXs hi hN hk kk)
    | 37, _ => exact z_tableIn (off := 2380) 2424 C dL_law_44 (by decide) (by decide) (by rfl) (by decide) (K_holds hl0 C Nc hR hF hI hM hA hXs hi hN hk kk)
    | 38, _ => exact z_tableIn (off := 2455) 2499 C dL_law_44 (by decide) (by decide) (by rfl) (by decide) (K_matches hl0 C Nc hR hF hI hM hA hXs hi hN hk kk)
    | 39, _ => exact z_tableIn (off := 2511) 2555 C dL_law_44 (by decide) (by decide) (by rfl) (by decide) (K_size hl0 C Nc hR hF hI hM hA hXs hi hN hk kk)
    | 40, _ => exact z_tableIn (off := 2567) 2611 C dL_law_44 (by decide) (by decide) (by rfl) (by decide) (K_trackAt hl0 C Nc hR hF hI hM hA hXs hi hN hk kk)
    | 41, _ => exact z_tableIn (off := 2635) 2679 C dL_law_44 (by decide) (by decide) (by rfl) (by decide) (K_contains hl0 C Nc hR hF hI hM hA hXs hi hN hk kk)
    | 42, _ => exact z_tableIn (off := 2710) 2754 C dL_law_44 (by decide) (by decide) (by rfl) (by decide) (K_containsByRounds hl0 C Nc hR hF hI hM hA hXs hi hN hk kk)
    | 43, _ => exact z_tableIn (off := 2785) 2829 C dL_law_44 (by decide) (by decide) (by rfl) (by decide) (K_secondsOf hl0 C Nc hR hF hI hM hA hXs hi hN hk kk)
    | 44, _ => exact z_tableIn (off := 2841) 2885 C dL_law_44 (by decide) (by decide) (by rfl) (by decide) (K_common hl0 C Nc hR hF hI hM hA hXs hi hN hk kk)
    | 45, _ => exact z_tableIn (off := 2909) 2953 C dL_law_44 (by decide) (by decide) (by rfl) (by decide) (K_dependsOn hl0 C Nc hR hF hI hM hA hXs hi hN hk kk)
    | 46, _ => exact z_tableIn (off := 2984) 3028 C dL_law_44 (by decide) (by decide) (by rfl) (by decide) (K_touched hl0 C Nc hR hF hI hM hA hXs hi hN hk kk)
    | 47, _ => exact z_tableIn (off := 2997) 3041 C dL_law_44 (by decide) (by decide) (by rfl) (by decide) (K_mixes hl0 C Nc hR hF hI hM hA hXs hi hN hk kk)
    | 48, _ => exact z_tableIn (off := 3053) 3097 C dL_law_44 (by decide) (by decide) (by rfl) (by decide) (K_seconds hl0 C Nc hR hF hI hM hA hXs hi hN hk kk)
    | 49, _ => exact z_tableIn (off := 3067) 3111 C dL_law_44 (by decide) (by decide) (by rfl) (by decide) (K_listedShare hl0 C Nc hR hF hI hM hA hXs hi hN hk kk)
    | 50, _ => exact z_tableIn (off := 3133) 3177 C dL_law_44 (by decide) (by decide) (by rfl) (by decide) (K_meanLength hl0 C Nc hR hF hI hM hA hXs hi hN hk kk)
    | j + 51, h => exact absurd h (by omega)
  · refine z_tableOut 3254 C dL_law_44 (Or.inr (by rw [nI_toInt (by omega)]; omega)) (by decide) ?_
    exact kk _ _ _ _ _ _ _ _ _ _ _ (by omega) (by omega) hI hM hA
set_option maxRecDepth 100000 in
theorem law_loop {X : zX} (hl0 : (xl X).stackTraces = false) {F G : Nat → Bool} {s o1 o2 M : Nat} {r : Nat → Nat} {V : Nat → Int32} {N : Nat} {L : Nat → Nat} (C : zC X RL cL_law 9 LWl) (Nc : zNc (xs X)) (hR : xR X = room_1) (hF : LF F G s o1 o2 M r) (hXs : LX X s N V) (hN : N ≤ 2048) (hE : ∀ (k n : Nat) (S : ZM) (ls : List (Option ZV)), k ≤ 60000 → n ≤ 600000 → zW X 9 k n S 3260 ls []) : ∀ (m i k n : Nat) (S : ZM) (D : ZD) (J : Nat → Int64) (lk : ZL) (as T : Nat → Nat) (q6 q7 q8 : Option ZV), N ≤ i + 4 * m + 3 → i ≤ 4096 → k + 100 * m ≤ 60000 → n + 1000 * m ≤ 600000 → LI D J lk as (rsOff F S) L T → iM D J S M r → LA F s o1 o2 V N S → zW X 9 k n S 28 [some (zr (some s)), some (zr (some (L 0))), some (zr (some M)), some (zr (some o1)), some (zr (some o2)), some (zi (nI i)), q6, q7, q8] []
  | 0, i, k, n, S, D, J, lk, as, T, q6, q7, q8, h1, h2, h3, h4, hI, hM, hA => law_turn hl0 C Nc hR hF hI hM hA hXs hN (fun S ls => hE k n S ls (by omega) (by omega)) h2 (fun h => absurd h (by omega)) (fun h => absurd h (by omega))
  | m + 1, i, k, n, S, D, J, lk, as, T, q6, q7, q8, h1, h2, h3, h4, hI, hM, hA => by
    refine law_turn hl0 C Nc hR hF hI hM hA hXs hN (fun S ls => hE k n S ls (by omega) (by omega)) h2 (fun h => ⟨by omega, by omega⟩) (fun h => ?_)
    intro k' n' S' D' J' lk' as' T' p6 p7 p8 b1 b2 hI' hM' hA'
    refine z_inc (c0 := 4) 4 [some (zr (some s)), some (zr (some (L 0))), some (zr (some M)), some (zr (some o1)), some (zr (some o2)), some (zi (nI (i + 4))), p6, p7, p8] C rfl (by decide) (by decide) (by rw [show nI i + 4 = nI (i + 4) from nI_add i 4]; rfl) dL_law_3254 ?_
    refine z_goto 28 C dL_law_3257 (by decide) ?_
    exact law_loop hl0 C Nc hR hF hXs hN hE m (i + 4) k' n' S' D' J' lk' as' T' p6 p7 p8 (by omega) (by omega) (by omega) (by omega) hI' hM' hA'
