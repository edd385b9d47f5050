/-! the law's words lie in the tables -/
theorem sub_ix {A B : List Cond} (ix : List Nat) (h : ix.map (fun i => B[i]?) = A.map some) : ∀ w ∈ A, w ∈ B := fun w hw => by
  have : some w ∈ A.map some := List.mem_map.mpr ⟨w, hw, rfl⟩
  rw [← h] at this
  obtain ⟨i, _, e⟩ := List.mem_map.mp this
  exact List.mem_of_getElem? e
theorem one_ix {A B : List Cond} {w : Cond} (k i : Nat) (h1 : A[k]? = some w) (h2 : B[i]? = some w) : ∀ v ∈ (A.drop k).take 1, v ∈ B := fun v hv => by
  obtain ⟨hk, e⟩ := List.getElem?_eq_some_iff.mp h1
  rw [List.drop_eq_getElem_cons hk, List.take_succ_cons, List.take_zero] at hv
  rw [List.mem_singleton.mp hv, e]
  exact List.mem_of_getElem? h2
theorem sub_0 : ∀ w ∈ (LWl.drop 0).take 60, w ∈ lw_tbl := sub_ix [123, 124, 120, 121, 25, 122, 215, 216, 217, 218, 355, 356, 357, 358, 379, 380, 381, 382, 383, 384, 385, 386, 388, 389, 390, 391, 393, 394, 395, 396, 429, 430, 431, 432, 439, 440, 441, 442, 448, 449, 450, 451, 453, 454, 455, 456, 485, 486, 487, 488, 490, 491, 492, 493, 534, 535, 536, 537, 538, 539] (by decide +kernel)
theorem sub_1 : ∀ w ∈ (LWl.drop 60).take 49, w ∈ lw_tbl := sub_ix [540, 541, 542, 543, 544, 545, 546, 547, 548, 549, 550, 551, 552, 553, 559, 560, 561, 562, 568, 569, 570, 571, 572, 573, 574, 575, 576, 577, 578, 579, 603, 604, 605, 606, 612, 613, 614, 615, 616, 617, 618, 619, 128, 208, 209, 210, 211, 212, 213] (by decide +kernel)
set_option maxRecDepth 100000 in
theorem sub_2 : ∀ w ∈ (LWl.drop 109).take 1, w ∈ lw_tbl := one_ix (w := Cond.code yL_plain cL_plain 5 (some .int)) 109 214 rfl rfl
theorem sub_3 : ∀ w ∈ (LWl.drop 110).take 60, w ∈ lw_tbl := sub_ix [661, 662, 663, 664, 665, 666, 667, 668, 669, 670, 671, 672, 673, 674, 675, 676, 678, 679, 680, 681, 682, 683, 684, 685, 686, 687, 688, 689, 703, 704, 705, 706, 707, 708, 709, 710, 714, 715, 716, 717, 719, 720, 721, 722, 723, 724, 725, 726, 727, 728, 729, 730, 731, 732, 733, 734, 735, 736, 737, 738] (by decide +kernel)
theorem sub_4 : ∀ w ∈ (LWl.drop 170).take 30, w ∈ lw_tbl := sub_ix [739, 740, 741, 743, 744, 745, 746, 747, 748, 749, 750, 758, 759, 760, 761, 762, 763, 764, 765, 766, 767, 768, 769, 770, 771, 772, 773, 644, 658, 659] (by decide +kernel)
set_option maxRecDepth 100000 in
theorem sub_5 : ∀ w ∈ (LWl.drop 200).take 1, w ∈ lw_tbl := one_ix (w := Cond.code yL_asked cL_asked 4 (some .int)) 200 660 rfl rfl
theorem sub_6 : ∀ w ∈ (LWl.drop 201).take 17, w ∈ lw_tbl := sub_ix [125, 126, 127, 623, 624, 625, 117, 118, 119, 626, 627, 628, 635, 636, 637, 620, 621] (by decide +kernel)
set_option maxRecDepth 100000 in
theorem sub_7 : ∀ w ∈ (LWl.drop 218).take 1, w ∈ lw_tbl := one_ix (w := Cond.code yL_adds cL_adds 5 (some .boolean)) 218 622 rfl rfl
theorem sub_8 : ∀ w ∈ (LWl.drop 219).take 2, w ∈ lw_tbl := sub_ix [632, 633] (by decide +kernel)
set_option maxRecDepth 100000 in
theorem sub_9 : ∀ w ∈ (LWl.drop 221).take 1, w ∈ lw_tbl := one_ix (w := Cond.code yL_lists cL_lists 9 (some .boolean)) 221 634 rfl rfl
theorem sub_10 : ∀ w ∈ (LWl.drop 222).take 9, w ∈ lw_tbl := sub_ix [641, 642, 643, 781, 782, 783, 784, 778, 779] (by decide +kernel)
set_option maxRecDepth 100000 in
theorem sub_11 : ∀ w ∈ (LWl.drop 231).take 1, w ∈ lw_tbl := one_ix (w := Cond.code yL_holds cL_holds 6 (some .boolean)) 231 780 rfl rfl
theorem sub_12 : ∀ w ∈ (LWl.drop 232).take 3, w ∈ lw_tbl := sub_ix [794, 791, 792] (by decide +kernel)
set_option maxRecDepth 100000 in
theorem sub_13 : ∀ w ∈ (LWl.drop 235).take 1, w ∈ lw_tbl := one_ix (w := Cond.code yL_isAhead cL_isAhead 7 (some .boolean)) 235 793 rfl rfl
theorem sub_14 : ∀ w ∈ (LWl.drop 236).take 6, w ∈ lw_tbl := sub_ix [795, 796, 797, 798, 788, 789] (by decide +kernel)
set_option maxRecDepth 100000 in
theorem sub_15 : ∀ w ∈ (LWl.drop 242).take 1, w ∈ lw_tbl := one_ix (w := Cond.code yL_isList cL_isList 16 (some .boolean)) 242 790 rfl rfl
theorem sub_16 : ∀ w ∈ (LWl.drop 243).take 15, w ∈ lw_tbl := sub_ix [800, 801, 802, 803, 804, 805, 806, 807, 46, 47, 48, 49, 50, 638, 639] (by decide +kernel)
set_option maxRecDepth 100000 in
theorem sub_17 : ∀ w ∈ (LWl.drop 258).take 1, w ∈ lw_tbl := one_ix (w := Cond.code yL_areRules cL_areRules 7 (some .boolean)) 258 640 rfl rfl
theorem sub_18 : ∀ w ∈ (LWl.drop 259).take 2, w ∈ lw_tbl := sub_ix [785, 786] (by decide +kernel)
set_option maxRecDepth 100000 in
theorem sub_19 : ∀ w ∈ (LWl.drop 261).take 1, w ∈ lw_tbl := one_ix (w := Cond.code yL_areLists cL_areLists 7 (some .boolean)) 261 787 rfl rfl
theorem sub_20 : ∀ w ∈ (LWl.drop 262).take 2, w ∈ lw_tbl := sub_ix [629, 630] (by decide +kernel)
set_option maxRecDepth 100000 in
theorem sub_21 : ∀ w ∈ (LWl.drop 264).take 1, w ∈ lw_tbl := one_ix (w := Cond.code yL_acts cL_acts 6 (some .boolean)) 264 631 rfl rfl
theorem sub_22 : ∀ w ∈ (LWl.drop 265).take 60, w ∈ lw_tbl := sub_ix [589, 52, 53, 590, 592, 594, 502, 503, 505, 507, 509, 511, 513, 515, 402, 428, 405, 407, 409, 116, 411, 413, 403, 258, 265, 267, 269, 259, 261, 263, 51, 54, 64, 56, 65, 58, 66, 60, 67, 68, 69, 70, 71, 72, 73, 74, 75, 62, 76, 77, 78, 79, 80, 222, 39, 314, 316, 7, 26, 317] (by decide +kernel)
theorem sub_23 : ∀ w ∈ (LWl.drop 325).take 60, w ∈ lw_tbl := sub_ix [410, 404, 322, 324, 9, 325, 270, 264, 266, 262, 268, 334, 336, 12, 337, 506, 510, 512, 508, 306, 308, 5, 310, 312, 6, 313, 318, 320, 8, 321, 326, 328, 10, 329, 330, 332, 11, 333, 341, 342, 343, 260, 299, 300, 301, 348, 349, 350, 591, 593, 595, 309, 338, 339, 37, 340, 344, 346, 13, 347] (by decide +kernel)
theorem sub_24 : ∀ w ∈ (LWl.drop 385).take 60, w ∈ lw_tbl := sub_ix [351, 353, 14, 354, 516, 295, 297, 3, 298, 302, 304, 4, 305, 288, 290, 289, 41, 291, 293, 2, 294, 238, 35, 254, 40, 219, 220, 221, 255, 256, 257, 284, 286, 1, 287, 363, 34, 359, 361, 15, 362, 398, 42, 399, 400, 401, 408, 406, 433, 435, 16, 436, 444, 446, 17, 447, 462, 463, 36, 464] (by decide +kernel)
theorem sub_25 : ∀ w ∈ (LWl.drop 445).take 60, w ∈ lw_tbl := sub_ix [412, 465, 43, 414, 458, 460, 18, 461, 481, 483, 19, 484, 498, 44, 514, 504, 499, 500, 501, 494, 496, 20, 497, 554, 556, 21, 557, 563, 565, 22, 566, 585, 45, 580, 581, 582, 586, 587, 588, 607, 609, 23, 610, 690, 30, 711, 712, 713, 755, 756, 38, 757, 751, 753, 24, 754, 775, 33, 774, 596] (by decide +kernel)
theorem sub_26 : ∀ w ∈ (LWl.drop 505).take 60, w ∈ lw_tbl := sub_ix [598, 600, 517, 519, 521, 523, 525, 527, 529, 415, 417, 419, 421, 423, 425, 271, 273, 275, 277, 279, 281, 81, 83, 85, 87, 89, 91, 93, 95, 97, 99, 101, 103, 105, 107, 109, 111, 113, 27, 199, 150, 159, 162, 164, 200, 201, 52, 53, 144, 149, 160, 167, 193, 168, 194, 169, 195, 145, 147, 196] (by decide +kernel)
theorem sub_27 : ∀ w ∈ (LWl.drop 565).take 60, w ∈ lw_tbl := sub_ix [142, 143, 166, 196, 233, 234, 235, 136, 136, 137, 138, 139, 139, 140, 141, 142, 232, 223, 225, 154, 226, 227, 228, 229, 165, 197, 230, 27, 199, 150, 159, 162, 164, 200, 201, 52, 53, 144, 149, 160, 167, 193, 168, 194, 169, 195, 145, 147, 196, 142, 143, 166, 196, 249, 250, 251, 136, 136, 137, 138] (by decide +kernel)
theorem sub_28 : ∀ w ∈ (LWl.drop 625).take 60, w ∈ lw_tbl := sub_ix [139, 139, 140, 141, 142, 248, 239, 241, 155, 242, 243, 244, 245, 165, 197, 246, 27, 199, 150, 159, 162, 164, 200, 201, 52, 53, 144, 149, 160, 167, 193, 168, 194, 169, 195, 145, 147, 196, 142, 143, 166, 196, 374, 375, 376, 136, 136, 137, 138, 139, 139, 140, 141, 142, 373, 364, 366, 158, 367, 368] (by decide +kernel)
theorem sub_29 : ∀ w ∈ (LWl.drop 685).take 60, w ∈ lw_tbl := sub_ix [369, 370, 165, 197, 371, 27, 199, 150, 159, 162, 164, 200, 201, 52, 53, 144, 149, 160, 167, 193, 168, 194, 169, 195, 145, 147, 196, 142, 143, 166, 196, 476, 477, 478, 136, 136, 137, 138, 139, 139, 140, 141, 142, 475, 466, 468, 157, 469, 470, 471, 472, 165, 197, 473, 27, 199, 150, 159, 162, 164] (by decide +kernel)
theorem sub_30 : ∀ w ∈ (LWl.drop 745).take 60, w ∈ lw_tbl := sub_ix [200, 201, 52, 53, 144, 149, 160, 167, 193, 168, 194, 169, 195, 145, 147, 196, 142, 143, 166, 196, 133, 134, 135, 136, 136, 137, 138, 139, 139, 140, 141, 142, 700, 691, 693, 156, 694, 695, 696, 697, 165, 197, 698, 27, 199, 150, 159, 162, 164, 200, 201, 52, 53, 144, 149, 160, 167, 193, 168, 194] (by decide +kernel)
theorem sub_31 : ∀ w ∈ (LWl.drop 805).take 32, w ∈ lw_tbl := sub_ix [169, 195, 145, 147, 196, 142, 143, 166, 196, 646, 647, 648, 136, 136, 137, 138, 139, 139, 140, 141, 142, 777, 645, 657, 152, 651, 652, 654, 650, 165, 197, 649] (by decide +kernel)
theorem drop_take {A B : List Cond} (n c : Nat) (h1 : ∀ w ∈ (A.drop n).take c, w ∈ B) (h2 : ∀ w ∈ A.drop (n + c), w ∈ B) : ∀ w ∈ A.drop n, w ∈ B := fun w hw => by
  rw [← List.take_append_drop c (A.drop n)] at hw
  rcases List.mem_append.mp hw with h | h
  · exact h1 w h
  · rw [List.drop_drop] at h; exact h2 w h
theorem LWl_len : LWl.length = 837 := by decide +kernel
theorem drop_none {A : List Cond} {n m : Nat} (h : A.length = n) (hm : n ≤ m) (w : Cond) : ¬ w ∈ A.drop m := by
  rw [List.drop_eq_nil_of_le (Nat.le_trans (Nat.le_of_eq h) hm)]
  exact List.not_mem_nil
theorem zrst_32 : ∀ w ∈ LWl.drop 837, w ∈ lw_tbl := fun w h => absurd h (drop_none (A := LWl) LWl_len (by decide) w)
theorem zrst_31 : ∀ w ∈ LWl.drop 805, w ∈ lw_tbl := drop_take (A := LWl) 805 32 sub_31 zrst_32
theorem zrst_30 : ∀ w ∈ LWl.drop 745, w ∈ lw_tbl := drop_take (A := LWl) 745 60 sub_30 zrst_31
theorem zrst_29 : ∀ w ∈ LWl.drop 685, w ∈ lw_tbl := drop_take (A := LWl) 685 60 sub_29 zrst_30
theorem zrst_28 : ∀ w ∈ LWl.drop 625, w ∈ lw_tbl := drop_take (A := LWl) 625 60 sub_28 zrst_29
theorem zrst_27 : ∀ w ∈ LWl.drop 565, w ∈ lw_tbl := drop_take (A := LWl) 565 60 sub_27 zrst_28
theorem zrst_26 : ∀ w ∈ LWl.drop 505, w ∈ lw_tbl := drop_take (A := LWl) 505 60 sub_26 zrst_27
theorem zrst_25 : ∀ w ∈ LWl.drop 445, w ∈ lw_tbl := drop_take (A := LWl) 445 60 sub_25 zrst_26
theorem zrst_24 : ∀ w ∈ LWl.drop 385, w ∈ lw_tbl := drop_take (A := LWl) 385 60 sub_24 zrst_25
theorem zrst_23 : ∀ w ∈ LWl.drop 325, w ∈ lw_tbl := drop_take (A := LWl) 325 60 sub_23 zrst_24
theorem zrst_22 : ∀ w ∈ LWl.drop 265, w ∈ lw_tbl := drop_take (A := LWl) 265 60 sub_22 zrst_23
theorem zrst_21 : ∀ w ∈ LWl.drop 264, w ∈ lw_tbl := drop_take (A := LWl) 264 1 sub_21 zrst_22
theorem zrst_20 : ∀ w ∈ LWl.drop 262, w ∈ lw_tbl := drop_take (A := LWl) 262 2 sub_20 zrst_21
theorem zrst_19 : ∀ w ∈ LWl.drop 261, w ∈ lw_tbl := drop_take (A := LWl) 261 1 sub_19 zrst_20
theorem zrst_18 : ∀ w ∈ LWl.drop 259, w ∈ lw_tbl := drop_take (A := LWl) 259 2 sub_18 zrst_19
theorem zrst_17 : ∀ w ∈ LWl.drop 258, w ∈ lw_tbl := drop_take (A := LWl) 258 1 sub_17 zrst_18
theorem zrst_16 : ∀ w ∈ LWl.drop 243, w ∈ lw_tbl := drop_take (A := LWl) 243 15 sub_16 zrst_17
theorem zrst_15 : ∀ w ∈ LWl.drop 242, w ∈ lw_tbl := drop_take (A := LWl) 242 1 sub_15 zrst_16
theorem zrst_14 : ∀ w ∈ LWl.drop 236, w ∈ lw_tbl := drop_take (A := LWl) 236 6 sub_14 zrst_15
theorem zrst_13 : ∀ w ∈ LWl.drop 235, w ∈ lw_tbl := drop_take (A := LWl) 235 1 sub_13 zrst_14
theorem zrst_12 : ∀ w ∈ LWl.drop 232, w ∈ lw_tbl := drop_take (A := LWl) 232 3 sub_12 zrst_13
theorem zrst_11 : ∀ w ∈ LWl.drop 231, w ∈ lw_tbl := drop_take (A := LWl) 231 1 sub_11 zrst_12
theorem zrst_10 : ∀ w ∈ LWl.drop 222, w ∈ lw_tbl := drop_take (A := LWl) 222 9 sub_10 zrst_11
theorem zrst_9 : ∀ w ∈ LWl.drop 221, w ∈ lw_tbl := drop_take (A := LWl) 221 1 sub_9 zrst_10
theorem zrst_8 : ∀ w ∈ LWl.drop 219, w ∈ lw_tbl := drop_take (A := LWl) 219 2 sub_8 zrst_9
theorem zrst_7 : ∀ w ∈ LWl.drop 218, w ∈ lw_tbl := drop_take (A := LWl) 218 1 sub_7 zrst_8
theorem zrst_6 : ∀ w ∈ LWl.drop 201, w ∈ lw_tbl := drop_take (A := LWl) 201 17 sub_6 zrst_7
theorem zrst_5 : ∀ w ∈ LWl.drop 200, w ∈ lw_tbl := drop_take (A := LWl) 200 1 sub_5 zrst_6
theorem zrst_4 : ∀ w ∈ LWl.drop 170, w ∈ lw_tbl := drop_take (A := LWl) 170 30 sub_4 zrst_5
theorem zrst_3 : ∀ w ∈ LWl.drop 110, w ∈ lw_tbl := drop_take (A := LWl) 110 60 sub_3 zrst_4
theorem zrst_2 : ∀ w ∈ LWl.drop 109, w ∈ lw_tbl := drop_take (A := LWl) 109 1 sub_2 zrst_3
theorem zrst_1 : ∀ w ∈ LWl.drop 60, w ∈ lw_tbl := drop_take (A := LWl) 60 49 sub_1 zrst_2
theorem zrst_0 : ∀ w ∈ LWl.drop 0, w ∈ lw_tbl := drop_take (A := LWl) 0 60 sub_0 zrst_1
theorem LWl_sub : ∀ w ∈ LWl, w ∈ lw_tbl := fun w hw => zrst_0 w (by rw [List.drop_zero]; exact hw)
