theorem dX0_init_0 : decode cX0_init 0 = .ok (.aload_n 0, 1) := by decide +kernel
theorem dX0_init_1 : decode cX0_init 1 = .ok (.invokespecial 1, 3) := by decide +kernel
theorem dX0_init_4 : decode cX0_init 4 = .ok (.aload_n 0, 1) := by decide +kernel
theorem dX0_init_5 : decode cX0_init 5 = .ok (.aload_n 1, 1) := by decide +kernel
theorem dX0_init_6 : decode cX0_init 6 = .ok (.putfield 7, 3) := by decide +kernel
theorem dX0_init_9 : decode cX0_init 9 = .ok (.aload_n 0, 1) := by decide +kernel
theorem dX0_init_10 : decode cX0_init 10 = .ok (.iload_n 2, 1) := by decide +kernel
theorem dX0_init_11 : decode cX0_init 11 = .ok (.putfield 13, 3) := by decide +kernel
theorem dX0_init_14 : decode cX0_init 14 = .ok (.aload_n 0, 1) := by decide +kernel
theorem dX0_init_15 : decode cX0_init 15 = .ok (.iload_n 3, 1) := by decide +kernel
theorem dX0_init_16 : decode cX0_init 16 = .ok (.putfield 17, 3) := by decide +kernel
theorem dX0_init_19 : decode cX0_init 19 = .ok (.return_, 1) := by decide +kernel
theorem dX1_init_0 : decode cX1_init 0 = .ok (.aload_n 0, 1) := by decide +kernel
theorem dX1_init_1 : decode cX1_init 1 = .ok (.invokespecial 3, 3) := by decide +kernel
theorem dX1_init_4 : decode cX1_init 4 = .ok (.aload_n 0, 1) := by decide +kernel
theorem dX1_init_5 : decode cX1_init 5 = .ok (.iload_n 1, 1) := by decide +kernel
theorem dX1_init_6 : decode cX1_init 6 = .ok (.putfield 9, 3) := by decide +kernel
theorem dX1_init_9 : decode cX1_init 9 = .ok (.aload_n 0, 1) := by decide +kernel
theorem dX1_init_10 : decode cX1_init 10 = .ok (.iload_n 2, 1) := by decide +kernel
theorem dX1_init_11 : decode cX1_init 11 = .ok (.putfield 15, 3) := by decide +kernel
theorem dX1_init_14 : decode cX1_init 14 = .ok (.aload_n 0, 1) := by decide +kernel
theorem dX1_init_15 : decode cX1_init 15 = .ok (.iload_n 3, 1) := by decide +kernel
theorem dX1_init_16 : decode cX1_init 16 = .ok (.putfield 18, 3) := by decide +kernel
theorem dX1_init_19 : decode cX1_init 19 = .ok (.aload_n 0, 1) := by decide +kernel
theorem dX1_init_20 : decode cX1_init 20 = .ok (.aload 4, 2) := by decide +kernel
theorem dX1_init_22 : decode cX1_init 22 = .ok (.putfield 21, 3) := by decide +kernel
theorem dX1_init_25 : decode cX1_init 25 = .ok (.aload_n 0, 1) := by decide +kernel
theorem dX1_init_26 : decode cX1_init 26 = .ok (.aload 5, 2) := by decide +kernel
theorem dX1_init_28 : decode cX1_init 28 = .ok (.putfield 25, 3) := by decide +kernel
theorem dX1_init_31 : decode cX1_init 31 = .ok (.aload_n 0, 1) := by decide +kernel
theorem dX1_init_32 : decode cX1_init 32 = .ok (.iconst 1, 1) := by decide +kernel
theorem dX1_init_33 : decode cX1_init 33 = .ok (.aload 4, 2) := by decide +kernel
theorem dX1_init_35 : decode cX1_init 35 = .ok (.ifnonnull 7, 3) := by decide +kernel
theorem dX1_init_38 : decode cX1_init 38 = .ok (.iconst 0, 1) := by decide +kernel
theorem dX1_init_39 : decode cX1_init 39 = .ok (.goto 8, 3) := by decide +kernel
theorem dX1_init_42 : decode cX1_init 42 = .ok (.aload 4, 2) := by decide +kernel
theorem dX1_init_44 : decode cX1_init 44 = .ok (.getfield 28, 3) := by decide +kernel
theorem dX1_init_47 : decode cX1_init 47 = .ok (.iadd, 1) := by decide +kernel
theorem dX1_init_48 : decode cX1_init 48 = .ok (.aload 5, 2) := by decide +kernel
theorem dX1_init_50 : decode cX1_init 50 = .ok (.ifnonnull 7, 3) := by decide +kernel
theorem dX1_init_53 : decode cX1_init 53 = .ok (.iconst 0, 1) := by decide +kernel
theorem dX1_init_54 : decode cX1_init 54 = .ok (.goto 8, 3) := by decide +kernel
theorem dX1_init_57 : decode cX1_init 57 = .ok (.aload 5, 2) := by decide +kernel
theorem dX1_init_59 : decode cX1_init 59 = .ok (.getfield 28, 3) := by decide +kernel
theorem dX1_init_62 : decode cX1_init 62 = .ok (.iadd, 1) := by decide +kernel
theorem dX1_init_63 : decode cX1_init 63 = .ok (.putfield 28, 3) := by decide +kernel
theorem dX1_init_66 : decode cX1_init 66 = .ok (.aload_n 0, 1) := by decide +kernel
theorem dX1_init_67 : decode cX1_init 67 = .ok (.iload_n 2, 1) := by decide +kernel
theorem dX1_init_68 : decode cX1_init 68 = .ok (.iconst 5, 1) := by decide +kernel
theorem dX1_init_69 : decode cX1_init 69 = .ok (.if_icmp .ne 9, 3) := by decide +kernel
theorem dX1_init_72 : decode cX1_init 72 = .ok (.iconst 1, 1) := by decide +kernel
theorem dX1_init_73 : decode cX1_init 73 = .ok (.iload_n 3, 1) := by decide +kernel
theorem dX1_init_74 : decode cX1_init 74 = .ok (.ishl, 1) := by decide +kernel
theorem dX1_init_75 : decode cX1_init 75 = .ok (.goto 4, 3) := by decide +kernel
theorem dX1_init_78 : decode cX1_init 78 = .ok (.iconst 0, 1) := by decide +kernel
theorem dX1_init_79 : decode cX1_init 79 = .ok (.aload 4, 2) := by decide +kernel
theorem dX1_init_81 : decode cX1_init 81 = .ok (.ifnonnull 7, 3) := by decide +kernel
theorem dX1_init_84 : decode cX1_init 84 = .ok (.iconst 0, 1) := by decide +kernel
theorem dX1_init_85 : decode cX1_init 85 = .ok (.goto 8, 3) := by decide +kernel
theorem dX1_init_88 : decode cX1_init 88 = .ok (.aload 4, 2) := by decide +kernel
theorem dX1_init_90 : decode cX1_init 90 = .ok (.getfield 31, 3) := by decide +kernel
theorem dX1_init_93 : decode cX1_init 93 = .ok (.ior, 1) := by decide +kernel
theorem dX1_init_94 : decode cX1_init 94 = .ok (.aload 5, 2) := by decide +kernel
theorem dX1_init_96 : decode cX1_init 96 = .ok (.ifnonnull 7, 3) := by decide +kernel
theorem dX1_init_99 : decode cX1_init 99 = .ok (.iconst 0, 1) := by decide +kernel
theorem dX1_init_100 : decode cX1_init 100 = .ok (.goto 8, 3) := by decide +kernel
theorem dX1_init_103 : decode cX1_init 103 = .ok (.aload 5, 2) := by decide +kernel
theorem dX1_init_105 : decode cX1_init 105 = .ok (.getfield 31, 3) := by decide +kernel
theorem dX1_init_108 : decode cX1_init 108 = .ok (.ior, 1) := by decide +kernel
theorem dX1_init_109 : decode cX1_init 109 = .ok (.putfield 31, 3) := by decide +kernel
theorem dX1_init_112 : decode cX1_init 112 = .ok (.return_, 1) := by decide +kernel
theorem dX2_init_0 : decode cX2_init 0 = .ok (.aload_n 0, 1) := by decide +kernel
theorem dX2_init_1 : decode cX2_init 1 = .ok (.invokespecial 3, 3) := by decide +kernel
theorem dX2_init_4 : decode cX2_init 4 = .ok (.aload_n 0, 1) := by decide +kernel
theorem dX2_init_5 : decode cX2_init 5 = .ok (.bipush 6, 2) := by decide +kernel
theorem dX2_init_7 : decode cX2_init 7 = .ok (.newarray .char, 2) := by decide +kernel
theorem dX2_init_9 : decode cX2_init 9 = .ok (.putfield 9, 3) := by decide +kernel
theorem dX2_init_12 : decode cX2_init 12 = .ok (.aload_n 0, 1) := by decide +kernel
theorem dX2_init_13 : decode cX2_init 13 = .ok (.iconst 0, 1) := by decide +kernel
theorem dX2_init_14 : decode cX2_init 14 = .ok (.putfield 15, 3) := by decide +kernel
theorem dX2_init_17 : decode cX2_init 17 = .ok (.aload_n 0, 1) := by decide +kernel
theorem dX2_init_18 : decode cX2_init 18 = .ok (.aconst_null, 1) := by decide +kernel
theorem dX2_init_19 : decode cX2_init 19 = .ok (.putfield 19, 3) := by decide +kernel
theorem dX2_init_22 : decode cX2_init 22 = .ok (.aload_n 0, 1) := by decide +kernel
theorem dX2_init_23 : decode cX2_init 23 = .ok (.bipush 24, 2) := by decide +kernel
theorem dX2_init_25 : decode cX2_init 25 = .ok (.newarray .int, 2) := by decide +kernel
theorem dX2_init_27 : decode cX2_init 27 = .ok (.putfield 23, 3) := by decide +kernel
theorem dX2_init_30 : decode cX2_init 30 = .ok (.aload_n 0, 1) := by decide +kernel
theorem dX2_init_31 : decode cX2_init 31 = .ok (.aconst_null, 1) := by decide +kernel
theorem dX2_init_32 : decode cX2_init 32 = .ok (.putfield 27, 3) := by decide +kernel
theorem dX2_init_35 : decode cX2_init 35 = .ok (.aload_n 0, 1) := by decide +kernel
theorem dX2_init_36 : decode cX2_init 36 = .ok (.iload_n 1, 1) := by decide +kernel
theorem dX2_init_37 : decode cX2_init 37 = .ok (.putfield 30, 3) := by decide +kernel
theorem dX2_init_40 : decode cX2_init 40 = .ok (.return_, 1) := by decide +kernel
theorem dX3_init_0 : decode cX3_init 0 = .ok (.aload_n 0, 1) := by decide +kernel
theorem dX3_init_1 : decode cX3_init 1 = .ok (.invokespecial 3, 3) := by decide +kernel
theorem dX3_init_4 : decode cX3_init 4 = .ok (.aload_n 0, 1) := by decide +kernel
theorem dX3_init_5 : decode cX3_init 5 = .ok (.iconst 0, 1) := by decide +kernel
theorem dX3_init_6 : decode cX3_init 6 = .ok (.putfield 9, 3) := by decide +kernel
theorem dX3_init_9 : decode cX3_init 9 = .ok (.aload_n 0, 1) := by decide +kernel
theorem dX3_init_10 : decode cX3_init 10 = .ok (.iconst (-1), 1) := by decide +kernel
theorem dX3_init_11 : decode cX3_init 11 = .ok (.putfield 15, 3) := by decide +kernel
theorem dX3_init_14 : decode cX3_init 14 = .ok (.aload_n 0, 1) := by decide +kernel
theorem dX3_init_15 : decode cX3_init 15 = .ok (.iconst 0, 1) := by decide +kernel
theorem dX3_init_16 : decode cX3_init 16 = .ok (.putfield 18, 3) := by decide +kernel
theorem dX3_init_19 : decode cX3_init 19 = .ok (.aload_n 0, 1) := by decide +kernel
theorem dX3_init_20 : decode cX3_init 20 = .ok (.iload_n 1, 1) := by decide +kernel
theorem dX3_init_21 : decode cX3_init 21 = .ok (.putfield 21, 3) := by decide +kernel
theorem dX3_init_24 : decode cX3_init 24 = .ok (.aload_n 0, 1) := by decide +kernel
theorem dX3_init_25 : decode cX3_init 25 = .ok (.iload_n 2, 1) := by decide +kernel
theorem dX3_init_26 : decode cX3_init 26 = .ok (.putfield 24, 3) := by decide +kernel
theorem dX3_init_29 : decode cX3_init 29 = .ok (.aload_n 0, 1) := by decide +kernel
theorem dX3_init_30 : decode cX3_init 30 = .ok (.iload_n 3, 1) := by decide +kernel
theorem dX3_init_31 : decode cX3_init 31 = .ok (.putfield 27, 3) := by decide +kernel
theorem dX3_init_34 : decode cX3_init 34 = .ok (.return_, 1) := by decide +kernel
theorem dX4_init_0 : decode cX4_init 0 = .ok (.aload_n 0, 1) := by decide +kernel
theorem dX4_init_1 : decode cX4_init 1 = .ok (.invokespecial 1, 3) := by decide +kernel
theorem dX4_init_4 : decode cX4_init 4 = .ok (.aload_n 0, 1) := by decide +kernel
theorem dX4_init_5 : decode cX4_init 5 = .ok (.bipush 24, 2) := by decide +kernel
theorem dX4_init_7 : decode cX4_init 7 = .ok (.anewarray 9, 3) := by decide +kernel
theorem dX4_init_10 : decode cX4_init 10 = .ok (.putfield 11, 3) := by decide +kernel
theorem dX4_init_13 : decode cX4_init 13 = .ok (.aload_n 0, 1) := by decide +kernel
theorem dX4_init_14 : decode cX4_init 14 = .ok (.bipush 16, 2) := by decide +kernel
theorem dX4_init_16 : decode cX4_init 16 = .ok (.anewarray 15, 3) := by decide +kernel
theorem dX4_init_19 : decode cX4_init 19 = .ok (.putfield 17, 3) := by decide +kernel
theorem dX4_init_22 : decode cX4_init 22 = .ok (.aload_n 0, 1) := by decide +kernel
theorem dX4_init_23 : decode cX4_init 23 = .ok (.bipush 40, 2) := by decide +kernel
theorem dX4_init_25 : decode cX4_init 25 = .ok (.anewarray 21, 3) := by decide +kernel
theorem dX4_init_28 : decode cX4_init 28 = .ok (.putfield 23, 3) := by decide +kernel
theorem dX4_init_31 : decode cX4_init 31 = .ok (.aload_n 0, 1) := by decide +kernel
theorem dX4_init_32 : decode cX4_init 32 = .ok (.bipush 8, 2) := by decide +kernel
theorem dX4_init_34 : decode cX4_init 34 = .ok (.anewarray 27, 3) := by decide +kernel
theorem dX4_init_37 : decode cX4_init 37 = .ok (.putfield 29, 3) := by decide +kernel
theorem dX4_init_40 : decode cX4_init 40 = .ok (.aload_n 0, 1) := by decide +kernel
theorem dX4_init_41 : decode cX4_init 41 = .ok (.iconst 0, 1) := by decide +kernel
theorem dX4_init_42 : decode cX4_init 42 = .ok (.putfield 33, 3) := by decide +kernel
theorem dX4_init_45 : decode cX4_init 45 = .ok (.aload_n 0, 1) := by decide +kernel
theorem dX4_init_46 : decode cX4_init 46 = .ok (.iconst 0, 1) := by decide +kernel
theorem dX4_init_47 : decode cX4_init 47 = .ok (.putfield 37, 3) := by decide +kernel
theorem dX4_init_50 : decode cX4_init 50 = .ok (.aload_n 0, 1) := by decide +kernel
theorem dX4_init_51 : decode cX4_init 51 = .ok (.iconst 0, 1) := by decide +kernel
theorem dX4_init_52 : decode cX4_init 52 = .ok (.putfield 40, 3) := by decide +kernel
theorem dX4_init_55 : decode cX4_init 55 = .ok (.aload_n 0, 1) := by decide +kernel
theorem dX4_init_56 : decode cX4_init 56 = .ok (.iconst 0, 1) := by decide +kernel
theorem dX4_init_57 : decode cX4_init 57 = .ok (.putfield 43, 3) := by decide +kernel
theorem dX4_init_60 : decode cX4_init 60 = .ok (.aload_n 0, 1) := by decide +kernel
theorem dX4_init_61 : decode cX4_init 61 = .ok (.iconst 0, 1) := by decide +kernel
theorem dX4_init_62 : decode cX4_init 62 = .ok (.putfield 46, 3) := by decide +kernel
theorem dX4_init_65 : decode cX4_init 65 = .ok (.aload_n 0, 1) := by decide +kernel
theorem dX4_init_66 : decode cX4_init 66 = .ok (.bipush 8, 2) := by decide +kernel
theorem dX4_init_68 : decode cX4_init 68 = .ok (.newarray .int, 2) := by decide +kernel
theorem dX4_init_70 : decode cX4_init 70 = .ok (.putfield 49, 3) := by decide +kernel
theorem dX4_init_73 : decode cX4_init 73 = .ok (.aload_n 0, 1) := by decide +kernel
theorem dX4_init_74 : decode cX4_init 74 = .ok (.bipush 8, 2) := by decide +kernel
theorem dX4_init_76 : decode cX4_init 76 = .ok (.newarray .int, 2) := by decide +kernel
theorem dX4_init_78 : decode cX4_init 78 = .ok (.putfield 53, 3) := by decide +kernel
theorem dX4_init_81 : decode cX4_init 81 = .ok (.aload_n 0, 1) := by decide +kernel
theorem dX4_init_82 : decode cX4_init 82 = .ok (.bipush 8, 2) := by decide +kernel
theorem dX4_init_84 : decode cX4_init 84 = .ok (.newarray .int, 2) := by decide +kernel
theorem dX4_init_86 : decode cX4_init 86 = .ok (.putfield 56, 3) := by decide +kernel
theorem dX4_init_89 : decode cX4_init 89 = .ok (.aload_n 0, 1) := by decide +kernel
theorem dX4_init_90 : decode cX4_init 90 = .ok (.bipush 7, 2) := by decide +kernel
theorem dX4_init_92 : decode cX4_init 92 = .ok (.bipush 7, 2) := by decide +kernel
theorem dX4_init_94 : decode cX4_init 94 = .ok (.multianewarray 59 2, 4) := by decide +kernel
theorem dX4_init_98 : decode cX4_init 98 = .ok (.putfield 61, 3) := by decide +kernel
theorem dX4_init_101 : decode cX4_init 101 = .ok (.aload_n 0, 1) := by decide +kernel
theorem dX4_init_102 : decode cX4_init 102 = .ok (.aconst_null, 1) := by decide +kernel
theorem dX4_init_103 : decode cX4_init 103 = .ok (.putfield 64, 3) := by decide +kernel
theorem dX4_init_106 : decode cX4_init 106 = .ok (.aload_n 0, 1) := by decide +kernel
theorem dX4_init_107 : decode cX4_init 107 = .ok (.iconst 0, 1) := by decide +kernel
theorem dX4_init_108 : decode cX4_init 108 = .ok (.putfield 68, 3) := by decide +kernel
theorem dX4_init_111 : decode cX4_init 111 = .ok (.aload_n 0, 1) := by decide +kernel
theorem dX4_init_112 : decode cX4_init 112 = .ok (.lconst 0, 1) := by decide +kernel
theorem dX4_init_113 : decode cX4_init 113 = .ok (.putfield 71, 3) := by decide +kernel
theorem dX4_init_116 : decode cX4_init 116 = .ok (.aload_n 0, 1) := by decide +kernel
theorem dX4_init_117 : decode cX4_init 117 = .ok (.iconst 0, 1) := by decide +kernel
theorem dX4_init_118 : decode cX4_init 118 = .ok (.putfield 75, 3) := by decide +kernel
theorem dX4_init_121 : decode cX4_init 121 = .ok (.return_, 1) := by decide +kernel
theorem dX4_addTrack_0 : decode cX4_addTrack 0 = .ok (.iload_n 1, 1) := by decide +kernel
theorem dX4_addTrack_1 : decode cX4_addTrack 1 = .ok (.iconst 1, 1) := by decide +kernel
theorem dX4_addTrack_2 : decode cX4_addTrack 2 = .ok (.sipush 999, 3) := by decide +kernel
theorem dX4_addTrack_5 : decode cX4_addTrack 5 = .ok (.invokestatic 78, 3) := by decide +kernel
theorem dX4_addTrack_8 : decode cX4_addTrack 8 = .ok (.iload_n 2, 1) := by decide +kernel
theorem dX4_addTrack_9 : decode cX4_addTrack 9 = .ok (.iconst 0, 1) := by decide +kernel
theorem dX4_addTrack_10 : decode cX4_addTrack 10 = .ok (.iconst 5, 1) := by decide +kernel
theorem dX4_addTrack_11 : decode cX4_addTrack 11 = .ok (.invokestatic 78, 3) := by decide +kernel
theorem dX4_addTrack_14 : decode cX4_addTrack 14 = .ok (.aload_n 0, 1) := by decide +kernel
theorem dX4_addTrack_15 : decode cX4_addTrack 15 = .ok (.getfield 33, 3) := by decide +kernel
theorem dX4_addTrack_18 : decode cX4_addTrack 18 = .ok (.istore_n 3, 1) := by decide +kernel
theorem dX4_addTrack_19 : decode cX4_addTrack 19 = .ok (.iload_n 3, 1) := by decide +kernel
theorem dX4_addTrack_20 : decode cX4_addTrack 20 = .ok (.bipush 24, 2) := by decide +kernel
theorem dX4_addTrack_22 : decode cX4_addTrack 22 = .ok (.if_icmp .lt 13, 3) := by decide +kernel
theorem dX4_addTrack_25 : decode cX4_addTrack 25 = .ok (.new 82, 3) := by decide +kernel
theorem dX4_addTrack_28 : decode cX4_addTrack 28 = .ok (.dup, 1) := by decide +kernel
theorem dX4_addTrack_29 : decode cX4_addTrack 29 = .ok (.ldc 84, 2) := by decide +kernel
theorem dX4_addTrack_31 : decode cX4_addTrack 31 = .ok (.invokespecial 86, 3) := by decide +kernel
theorem dX4_addTrack_34 : decode cX4_addTrack 34 = .ok (.athrow, 1) := by decide +kernel
theorem dX4_addTrack_35 : decode cX4_addTrack 35 = .ok (.aload_n 0, 1) := by decide +kernel
theorem dX4_addTrack_36 : decode cX4_addTrack 36 = .ok (.getfield 11, 3) := by decide +kernel
theorem dX4_addTrack_39 : decode cX4_addTrack 39 = .ok (.iload_n 3, 1) := by decide +kernel
theorem dX4_addTrack_40 : decode cX4_addTrack 40 = .ok (.new 9, 3) := by decide +kernel
theorem dX4_addTrack_43 : decode cX4_addTrack 43 = .ok (.dup, 1) := by decide +kernel
theorem dX4_addTrack_44 : decode cX4_addTrack 44 = .ok (.iload_n 3, 1) := by decide +kernel
theorem dX4_addTrack_45 : decode cX4_addTrack 45 = .ok (.iload_n 1, 1) := by decide +kernel
theorem dX4_addTrack_46 : decode cX4_addTrack 46 = .ok (.iload_n 2, 1) := by decide +kernel
theorem dX4_addTrack_47 : decode cX4_addTrack 47 = .ok (.invokespecial 89, 3) := by decide +kernel
theorem dX4_addTrack_50 : decode cX4_addTrack 50 = .ok (.aastore, 1) := by decide +kernel
theorem dX4_addTrack_51 : decode cX4_addTrack 51 = .ok (.aload_n 0, 1) := by decide +kernel
theorem dX4_addTrack_52 : decode cX4_addTrack 52 = .ok (.dup, 1) := by decide +kernel
theorem dX4_addTrack_53 : decode cX4_addTrack 53 = .ok (.getfield 33, 3) := by decide +kernel
theorem dX4_addTrack_56 : decode cX4_addTrack 56 = .ok (.iconst 1, 1) := by decide +kernel
theorem dX4_addTrack_57 : decode cX4_addTrack 57 = .ok (.iadd, 1) := by decide +kernel
theorem dX4_addTrack_58 : decode cX4_addTrack 58 = .ok (.putfield 33, 3) := by decide +kernel
theorem dX4_addTrack_61 : decode cX4_addTrack 61 = .ok (.aload_n 0, 1) := by decide +kernel
theorem dX4_addTrack_62 : decode cX4_addTrack 62 = .ok (.dup, 1) := by decide +kernel
theorem dX4_addTrack_63 : decode cX4_addTrack 63 = .ok (.getfield 37, 3) := by decide +kernel
theorem dX4_addTrack_66 : decode cX4_addTrack 66 = .ok (.iconst 1, 1) := by decide +kernel
theorem dX4_addTrack_67 : decode cX4_addTrack 67 = .ok (.iadd, 1) := by decide +kernel
theorem dX4_addTrack_68 : decode cX4_addTrack 68 = .ok (.putfield 37, 3) := by decide +kernel
theorem dX4_addTrack_71 : decode cX4_addTrack 71 = .ok (.aload_n 0, 1) := by decide +kernel
theorem dX4_addTrack_72 : decode cX4_addTrack 72 = .ok (.invokevirtual 91, 3) := by decide +kernel
theorem dX4_addTrack_75 : decode cX4_addTrack 75 = .ok (.iload_n 3, 1) := by decide +kernel
theorem dX4_addTrack_76 : decode cX4_addTrack 76 = .ok (.ireturn, 1) := by decide +kernel
theorem dX4_removeTrack_0 : decode cX4_removeTrack 0 = .ok (.aload_n 0, 1) := by decide +kernel
theorem dX4_removeTrack_1 : decode cX4_removeTrack 1 = .ok (.iload_n 1, 1) := by decide +kernel
theorem dX4_removeTrack_2 : decode cX4_removeTrack 2 = .ok (.invokevirtual 94, 3) := by decide +kernel
theorem dX4_removeTrack_5 : decode cX4_removeTrack 5 = .ok (.astore_n 2, 1) := by decide +kernel
theorem dX4_removeTrack_6 : decode cX4_removeTrack 6 = .ok (.aload_n 0, 1) := by decide +kernel
theorem dX4_removeTrack_7 : decode cX4_removeTrack 7 = .ok (.getfield 11, 3) := by decide +kernel
theorem dX4_removeTrack_10 : decode cX4_removeTrack 10 = .ok (.aload_n 2, 1) := by decide +kernel
theorem dX4_removeTrack_11 : decode cX4_removeTrack 11 = .ok (.getfield 98, 3) := by decide +kernel
theorem dX4_removeTrack_14 : decode cX4_removeTrack 14 = .ok (.aconst_null, 1) := by decide +kernel
theorem dX4_removeTrack_15 : decode cX4_removeTrack 15 = .ok (.aastore, 1) := by decide +kernel
theorem dX4_removeTrack_16 : decode cX4_removeTrack 16 = .ok (.aload_n 0, 1) := by decide +kernel
theorem dX4_removeTrack_17 : decode cX4_removeTrack 17 = .ok (.dup, 1) := by decide +kernel
theorem dX4_removeTrack_18 : decode cX4_removeTrack 18 = .ok (.getfield 37, 3) := by decide +kernel
theorem dX4_removeTrack_21 : decode cX4_removeTrack 21 = .ok (.iconst 1, 1) := by decide +kernel
theorem dX4_removeTrack_22 : decode cX4_removeTrack 22 = .ok (.isub, 1) := by decide +kernel
theorem dX4_removeTrack_23 : decode cX4_removeTrack 23 = .ok (.putfield 37, 3) := by decide +kernel
theorem dX4_removeTrack_26 : decode cX4_removeTrack 26 = .ok (.aload_n 0, 1) := by decide +kernel
theorem dX4_removeTrack_27 : decode cX4_removeTrack 27 = .ok (.invokevirtual 91, 3) := by decide +kernel
theorem dX4_removeTrack_30 : decode cX4_removeTrack 30 = .ok (.aload_n 0, 1) := by decide +kernel
theorem dX4_removeTrack_31 : decode cX4_removeTrack 31 = .ok (.getfield 37, 3) := by decide +kernel
theorem dX4_removeTrack_34 : decode cX4_removeTrack 34 = .ok (.ireturn, 1) := by decide +kernel
theorem dX4_setRating_0 : decode cX4_setRating 0 = .ok (.aload_n 0, 1) := by decide +kernel
theorem dX4_setRating_1 : decode cX4_setRating 1 = .ok (.iload_n 1, 1) := by decide +kernel
theorem dX4_setRating_2 : decode cX4_setRating 2 = .ok (.invokevirtual 94, 3) := by decide +kernel
theorem dX4_setRating_5 : decode cX4_setRating 5 = .ok (.astore_n 3, 1) := by decide +kernel
theorem dX4_setRating_6 : decode cX4_setRating 6 = .ok (.iload_n 2, 1) := by decide +kernel
theorem dX4_setRating_7 : decode cX4_setRating 7 = .ok (.iconst 0, 1) := by decide +kernel
theorem dX4_setRating_8 : decode cX4_setRating 8 = .ok (.iconst 5, 1) := by decide +kernel
theorem dX4_setRating_9 : decode cX4_setRating 9 = .ok (.invokestatic 78, 3) := by decide +kernel
theorem dX4_setRating_12 : decode cX4_setRating 12 = .ok (.aload_n 3, 1) := by decide +kernel
theorem dX4_setRating_13 : decode cX4_setRating 13 = .ok (.getfield 101, 3) := by decide +kernel
theorem dX4_setRating_16 : decode cX4_setRating 16 = .ok (.istore 4, 2) := by decide +kernel
theorem dX4_setRating_18 : decode cX4_setRating 18 = .ok (.aload_n 3, 1) := by decide +kernel
theorem dX4_setRating_19 : decode cX4_setRating 19 = .ok (.iload_n 2, 1) := by decide +kernel
theorem dX4_setRating_20 : decode cX4_setRating 20 = .ok (.putfield 101, 3) := by decide +kernel
theorem dX4_setRating_23 : decode cX4_setRating 23 = .ok (.aload_n 0, 1) := by decide +kernel
theorem dX4_setRating_24 : decode cX4_setRating 24 = .ok (.invokevirtual 91, 3) := by decide +kernel
theorem dX4_setRating_27 : decode cX4_setRating 27 = .ok (.iload 4, 2) := by decide +kernel
theorem dX4_setRating_29 : decode cX4_setRating 29 = .ok (.ireturn, 1) := by decide +kernel
theorem dX4_play_0 : decode cX4_play 0 = .ok (.aload_n 0, 1) := by decide +kernel
theorem dX4_play_1 : decode cX4_play 1 = .ok (.iload_n 1, 1) := by decide +kernel
theorem dX4_play_2 : decode cX4_play 2 = .ok (.invokevirtual 94, 3) := by decide +kernel
theorem dX4_play_5 : decode cX4_play 5 = .ok (.astore_n 2, 1) := by decide +kernel
theorem dX4_play_6 : decode cX4_play 6 = .ok (.aload_n 2, 1) := by decide +kernel
theorem dX4_play_7 : decode cX4_play 7 = .ok (.getfield 104, 3) := by decide +kernel
theorem dX4_play_10 : decode cX4_play 10 = .ok (.sipush 999, 3) := by decide +kernel
theorem dX4_play_13 : decode cX4_play 13 = .ok (.if_icmp .lt 13, 3) := by decide +kernel
theorem dX4_play_16 : decode cX4_play 16 = .ok (.new 82, 3) := by decide +kernel
theorem dX4_play_19 : decode cX4_play 19 = .ok (.dup, 1) := by decide +kernel
theorem dX4_play_20 : decode cX4_play 20 = .ok (.ldc 107, 2) := by decide +kernel
theorem dX4_play_22 : decode cX4_play 22 = .ok (.invokespecial 86, 3) := by decide +kernel
theorem dX4_play_25 : decode cX4_play 25 = .ok (.athrow, 1) := by decide +kernel
theorem dX4_play_26 : decode cX4_play 26 = .ok (.aload_n 2, 1) := by decide +kernel
theorem dX4_play_27 : decode cX4_play 27 = .ok (.dup, 1) := by decide +kernel
theorem dX4_play_28 : decode cX4_play 28 = .ok (.getfield 104, 3) := by decide +kernel
theorem dX4_play_31 : decode cX4_play 31 = .ok (.iconst 1, 1) := by decide +kernel
theorem dX4_play_32 : decode cX4_play 32 = .ok (.iadd, 1) := by decide +kernel
theorem dX4_play_33 : decode cX4_play 33 = .ok (.putfield 104, 3) := by decide +kernel
theorem dX4_play_36 : decode cX4_play 36 = .ok (.aload_n 2, 1) := by decide +kernel
theorem dX4_play_37 : decode cX4_play 37 = .ok (.aload_n 0, 1) := by decide +kernel
theorem dX4_play_38 : decode cX4_play 38 = .ok (.getfield 68, 3) := by decide +kernel
theorem dX4_play_41 : decode cX4_play 41 = .ok (.putfield 109, 3) := by decide +kernel
theorem dX4_play_44 : decode cX4_play 44 = .ok (.aload_n 0, 1) := by decide +kernel
theorem dX4_play_45 : decode cX4_play 45 = .ok (.dup, 1) := by decide +kernel
theorem dX4_play_46 : decode cX4_play 46 = .ok (.getfield 71, 3) := by decide +kernel
theorem dX4_play_49 : decode cX4_play 49 = .ok (.aload_n 2, 1) := by decide +kernel
theorem dX4_play_50 : decode cX4_play 50 = .ok (.getfield 112, 3) := by decide +kernel
theorem dX4_play_53 : decode cX4_play 53 = .ok (.i2l, 1) := by decide +kernel
theorem dX4_play_54 : decode cX4_play 54 = .ok (.ladd, 1) := by decide +kernel
theorem dX4_play_55 : decode cX4_play 55 = .ok (.putfield 71, 3) := by decide +kernel
theorem dX4_play_58 : decode cX4_play 58 = .ok (.aload_n 0, 1) := by decide +kernel
theorem dX4_play_59 : decode cX4_play 59 = .ok (.invokevirtual 91, 3) := by decide +kernel
theorem dX4_play_62 : decode cX4_play 62 = .ok (.aload_n 2, 1) := by decide +kernel
theorem dX4_play_63 : decode cX4_play 63 = .ok (.getfield 104, 3) := by decide +kernel
theorem dX4_play_66 : decode cX4_play 66 = .ok (.ireturn, 1) := by decide +kernel
theorem dX4_pass_0 : decode cX4_pass 0 = .ok (.iload_n 1, 1) := by decide +kernel
theorem dX4_pass_1 : decode cX4_pass 1 = .ok (.iconst 1, 1) := by decide +kernel
theorem dX4_pass_2 : decode cX4_pass 2 = .ok (.sipush 365, 3) := by decide +kernel
theorem dX4_pass_5 : decode cX4_pass 5 = .ok (.invokestatic 78, 3) := by decide +kernel
theorem dX4_pass_8 : decode cX4_pass 8 = .ok (.iload_n 1, 1) := by decide +kernel
theorem dX4_pass_9 : decode cX4_pass 9 = .ok (.sipush 9999, 3) := by decide +kernel
theorem dX4_pass_12 : decode cX4_pass 12 = .ok (.aload_n 0, 1) := by decide +kernel
theorem dX4_pass_13 : decode cX4_pass 13 = .ok (.getfield 68, 3) := by decide +kernel
theorem dX4_pass_16 : decode cX4_pass 16 = .ok (.isub, 1) := by decide +kernel
theorem dX4_pass_17 : decode cX4_pass 17 = .ok (.if_icmp .le 13, 3) := by decide +kernel
theorem dX4_pass_20 : decode cX4_pass 20 = .ok (.new 82, 3) := by decide +kernel
theorem dX4_pass_23 : decode cX4_pass 23 = .ok (.dup, 1) := by decide +kernel
theorem dX4_pass_24 : decode cX4_pass 24 = .ok (.ldc 115, 2) := by decide +kernel
theorem dX4_pass_26 : decode cX4_pass 26 = .ok (.invokespecial 86, 3) := by decide +kernel
theorem dX4_pass_29 : decode cX4_pass 29 = .ok (.athrow, 1) := by decide +kernel
theorem dX4_pass_30 : decode cX4_pass 30 = .ok (.aload_n 0, 1) := by decide +kernel
theorem dX4_pass_31 : decode cX4_pass 31 = .ok (.dup, 1) := by decide +kernel
theorem dX4_pass_32 : decode cX4_pass 32 = .ok (.getfield 68, 3) := by decide +kernel
theorem dX4_pass_35 : decode cX4_pass 35 = .ok (.iload_n 1, 1) := by decide +kernel
theorem dX4_pass_36 : decode cX4_pass 36 = .ok (.iadd, 1) := by decide +kernel
theorem dX4_pass_37 : decode cX4_pass 37 = .ok (.putfield 68, 3) := by decide +kernel
theorem dX4_pass_40 : decode cX4_pass 40 = .ok (.aload_n 0, 1) := by decide +kernel
theorem dX4_pass_41 : decode cX4_pass 41 = .ok (.invokevirtual 91, 3) := by decide +kernel
theorem dX4_pass_44 : decode cX4_pass 44 = .ok (.aload_n 0, 1) := by decide +kernel
theorem dX4_pass_45 : decode cX4_pass 45 = .ok (.getfield 68, 3) := by decide +kernel
theorem dX4_pass_48 : decode cX4_pass 48 = .ok (.ireturn, 1) := by decide +kernel
theorem dX4_addTag_0 : decode cX4_addTag 0 = .ok (.aload_n 0, 1) := by decide +kernel
theorem dX4_addTag_1 : decode cX4_addTag 1 = .ok (.getfield 40, 3) := by decide +kernel
theorem dX4_addTag_4 : decode cX4_addTag 4 = .ok (.istore_n 1, 1) := by decide +kernel
theorem dX4_addTag_5 : decode cX4_addTag 5 = .ok (.iload_n 1, 1) := by decide +kernel
theorem dX4_addTag_6 : decode cX4_addTag 6 = .ok (.bipush 16, 2) := by decide +kernel
theorem dX4_addTag_8 : decode cX4_addTag 8 = .ok (.if_icmp .lt 13, 3) := by decide +kernel
theorem dX4_addTag_11 : decode cX4_addTag 11 = .ok (.new 82, 3) := by decide +kernel
theorem dX4_addTag_14 : decode cX4_addTag 14 = .ok (.dup, 1) := by decide +kernel
theorem dX4_addTag_15 : decode cX4_addTag 15 = .ok (.ldc 117, 2) := by decide +kernel
theorem dX4_addTag_17 : decode cX4_addTag 17 = .ok (.invokespecial 86, 3) := by decide +kernel
theorem dX4_addTag_20 : decode cX4_addTag 20 = .ok (.athrow, 1) := by decide +kernel
theorem dX4_addTag_21 : decode cX4_addTag 21 = .ok (.aload_n 0, 1) := by decide +kernel
theorem dX4_addTag_22 : decode cX4_addTag 22 = .ok (.getfield 17, 3) := by decide +kernel
theorem dX4_addTag_25 : decode cX4_addTag 25 = .ok (.iload_n 1, 1) := by decide +kernel
theorem dX4_addTag_26 : decode cX4_addTag 26 = .ok (.new 15, 3) := by decide +kernel
theorem dX4_addTag_29 : decode cX4_addTag 29 = .ok (.dup, 1) := by decide +kernel
theorem dX4_addTag_30 : decode cX4_addTag 30 = .ok (.iload_n 1, 1) := by decide +kernel
theorem dX4_addTag_31 : decode cX4_addTag 31 = .ok (.invokespecial 119, 3) := by decide +kernel
theorem dX4_addTag_34 : decode cX4_addTag 34 = .ok (.aastore, 1) := by decide +kernel
theorem dX4_addTag_35 : decode cX4_addTag 35 = .ok (.aload_n 0, 1) := by decide +kernel
theorem dX4_addTag_36 : decode cX4_addTag 36 = .ok (.dup, 1) := by decide +kernel
theorem dX4_addTag_37 : decode cX4_addTag 37 = .ok (.getfield 40, 3) := by decide +kernel
theorem dX4_addTag_40 : decode cX4_addTag 40 = .ok (.iconst 1, 1) := by decide +kernel
theorem dX4_addTag_41 : decode cX4_addTag 41 = .ok (.iadd, 1) := by decide +kernel
theorem dX4_addTag_42 : decode cX4_addTag 42 = .ok (.putfield 40, 3) := by decide +kernel
theorem dX4_addTag_45 : decode cX4_addTag 45 = .ok (.iload_n 1, 1) := by decide +kernel
theorem dX4_addTag_46 : decode cX4_addTag 46 = .ok (.ireturn, 1) := by decide +kernel
theorem dX4_letter_0 : decode cX4_letter 0 = .ok (.aload_n 0, 1) := by decide +kernel
theorem dX4_letter_1 : decode cX4_letter 1 = .ok (.iload_n 1, 1) := by decide +kernel
theorem dX4_letter_2 : decode cX4_letter 2 = .ok (.invokevirtual 122, 3) := by decide +kernel
theorem dX4_letter_5 : decode cX4_letter 5 = .ok (.astore_n 3, 1) := by decide +kernel
theorem dX4_letter_6 : decode cX4_letter 6 = .ok (.iload_n 2, 1) := by decide +kernel
theorem dX4_letter_7 : decode cX4_letter 7 = .ok (.bipush 97, 2) := by decide +kernel
theorem dX4_letter_9 : decode cX4_letter 9 = .ok (.bipush 122, 2) := by decide +kernel
theorem dX4_letter_11 : decode cX4_letter 11 = .ok (.invokestatic 78, 3) := by decide +kernel
theorem dX4_letter_14 : decode cX4_letter 14 = .ok (.aload_n 3, 1) := by decide +kernel
theorem dX4_letter_15 : decode cX4_letter 15 = .ok (.getfield 126, 3) := by decide +kernel
theorem dX4_letter_18 : decode cX4_letter 18 = .ok (.bipush 6, 2) := by decide +kernel
theorem dX4_letter_20 : decode cX4_letter 20 = .ok (.if_icmp .lt 13, 3) := by decide +kernel
theorem dX4_letter_23 : decode cX4_letter 23 = .ok (.new 82, 3) := by decide +kernel
theorem dX4_letter_26 : decode cX4_letter 26 = .ok (.dup, 1) := by decide +kernel
theorem dX4_letter_27 : decode cX4_letter 27 = .ok (.ldc 129, 2) := by decide +kernel
theorem dX4_letter_29 : decode cX4_letter 29 = .ok (.invokespecial 86, 3) := by decide +kernel
theorem dX4_letter_32 : decode cX4_letter 32 = .ok (.athrow, 1) := by decide +kernel
theorem dX4_letter_33 : decode cX4_letter 33 = .ok (.aload_n 3, 1) := by decide +kernel
theorem dX4_letter_34 : decode cX4_letter 34 = .ok (.getfield 131, 3) := by decide +kernel
theorem dX4_letter_37 : decode cX4_letter 37 = .ok (.aload_n 3, 1) := by decide +kernel
theorem dX4_letter_38 : decode cX4_letter 38 = .ok (.getfield 126, 3) := by decide +kernel
theorem dX4_letter_41 : decode cX4_letter 41 = .ok (.iload_n 2, 1) := by decide +kernel
theorem dX4_letter_42 : decode cX4_letter 42 = .ok (.castore, 1) := by decide +kernel
theorem dX4_letter_43 : decode cX4_letter 43 = .ok (.aload_n 3, 1) := by decide +kernel
theorem dX4_letter_44 : decode cX4_letter 44 = .ok (.dup, 1) := by decide +kernel
theorem dX4_letter_45 : decode cX4_letter 45 = .ok (.getfield 126, 3) := by decide +kernel
theorem dX4_letter_48 : decode cX4_letter 48 = .ok (.iconst 1, 1) := by decide +kernel
theorem dX4_letter_49 : decode cX4_letter 49 = .ok (.iadd, 1) := by decide +kernel
theorem dX4_letter_50 : decode cX4_letter 50 = .ok (.putfield 126, 3) := by decide +kernel
theorem dX4_letter_53 : decode cX4_letter 53 = .ok (.aload_n 3, 1) := by decide +kernel
theorem dX4_letter_54 : decode cX4_letter 54 = .ok (.getfield 126, 3) := by decide +kernel
theorem dX4_letter_57 : decode cX4_letter 57 = .ok (.ireturn, 1) := by decide +kernel
theorem dX4_tag_0 : decode cX4_tag 0 = .ok (.aload_n 0, 1) := by decide +kernel
theorem dX4_tag_1 : decode cX4_tag 1 = .ok (.iload_n 1, 1) := by decide +kernel
theorem dX4_tag_2 : decode cX4_tag 2 = .ok (.invokevirtual 94, 3) := by decide +kernel
theorem dX4_tag_5 : decode cX4_tag 5 = .ok (.astore_n 3, 1) := by decide +kernel
theorem dX4_tag_6 : decode cX4_tag 6 = .ok (.iconst 1, 1) := by decide +kernel
theorem dX4_tag_7 : decode cX4_tag 7 = .ok (.aload_n 0, 1) := by decide +kernel
theorem dX4_tag_8 : decode cX4_tag 8 = .ok (.iload_n 2, 1) := by decide +kernel
theorem dX4_tag_9 : decode cX4_tag 9 = .ok (.invokevirtual 122, 3) := by decide +kernel
theorem dX4_tag_12 : decode cX4_tag 12 = .ok (.getfield 135, 3) := by decide +kernel
theorem dX4_tag_15 : decode cX4_tag 15 = .ok (.ishl, 1) := by decide +kernel
theorem dX4_tag_16 : decode cX4_tag 16 = .ok (.istore 4, 2) := by decide +kernel
theorem dX4_tag_18 : decode cX4_tag 18 = .ok (.aload_n 3, 1) := by decide +kernel
theorem dX4_tag_19 : decode cX4_tag 19 = .ok (.getfield 136, 3) := by decide +kernel
theorem dX4_tag_22 : decode cX4_tag 22 = .ok (.iload 4, 2) := by decide +kernel
theorem dX4_tag_24 : decode cX4_tag 24 = .ok (.iand, 1) := by decide +kernel
theorem dX4_tag_25 : decode cX4_tag 25 = .ok (.ifCond .eq 13, 3) := by decide +kernel
theorem dX4_tag_28 : decode cX4_tag 28 = .ok (.new 82, 3) := by decide +kernel
theorem dX4_tag_31 : decode cX4_tag 31 = .ok (.dup, 1) := by decide +kernel
theorem dX4_tag_32 : decode cX4_tag 32 = .ok (.ldc 139, 2) := by decide +kernel
theorem dX4_tag_34 : decode cX4_tag 34 = .ok (.invokespecial 86, 3) := by decide +kernel
theorem dX4_tag_37 : decode cX4_tag 37 = .ok (.athrow, 1) := by decide +kernel
theorem dX4_tag_38 : decode cX4_tag 38 = .ok (.aload_n 0, 1) := by decide +kernel
theorem dX4_tag_39 : decode cX4_tag 39 = .ok (.aload_n 3, 1) := by decide +kernel
theorem dX4_tag_40 : decode cX4_tag 40 = .ok (.aload_n 3, 1) := by decide +kernel
theorem dX4_tag_41 : decode cX4_tag 41 = .ok (.getfield 136, 3) := by decide +kernel
theorem dX4_tag_44 : decode cX4_tag 44 = .ok (.iload 4, 2) := by decide +kernel
theorem dX4_tag_46 : decode cX4_tag 46 = .ok (.ior, 1) := by decide +kernel
theorem dX4_tag_47 : decode cX4_tag 47 = .ok (.invokevirtual 141, 3) := by decide +kernel
theorem dX4_tag_50 : decode cX4_tag 50 = .ok (.ireturn, 1) := by decide +kernel
theorem dX4_untag_0 : decode cX4_untag 0 = .ok (.aload_n 0, 1) := by decide +kernel
theorem dX4_untag_1 : decode cX4_untag 1 = .ok (.iload_n 1, 1) := by decide +kernel
theorem dX4_untag_2 : decode cX4_untag 2 = .ok (.invokevirtual 94, 3) := by decide +kernel
theorem dX4_untag_5 : decode cX4_untag 5 = .ok (.astore_n 3, 1) := by decide +kernel
theorem dX4_untag_6 : decode cX4_untag 6 = .ok (.iconst 1, 1) := by decide +kernel
theorem dX4_untag_7 : decode cX4_untag 7 = .ok (.aload_n 0, 1) := by decide +kernel
theorem dX4_untag_8 : decode cX4_untag 8 = .ok (.iload_n 2, 1) := by decide +kernel
theorem dX4_untag_9 : decode cX4_untag 9 = .ok (.invokevirtual 122, 3) := by decide +kernel
theorem dX4_untag_12 : decode cX4_untag 12 = .ok (.getfield 135, 3) := by decide +kernel
theorem dX4_untag_15 : decode cX4_untag 15 = .ok (.ishl, 1) := by decide +kernel
theorem dX4_untag_16 : decode cX4_untag 16 = .ok (.istore 4, 2) := by decide +kernel
theorem dX4_untag_18 : decode cX4_untag 18 = .ok (.aload_n 3, 1) := by decide +kernel
theorem dX4_untag_19 : decode cX4_untag 19 = .ok (.getfield 136, 3) := by decide +kernel
theorem dX4_untag_22 : decode cX4_untag 22 = .ok (.iload 4, 2) := by decide +kernel
theorem dX4_untag_24 : decode cX4_untag 24 = .ok (.iand, 1) := by decide +kernel
theorem dX4_untag_25 : decode cX4_untag 25 = .ok (.ifCond .ne 13, 3) := by decide +kernel
theorem dX4_untag_28 : decode cX4_untag 28 = .ok (.new 82, 3) := by decide +kernel
theorem dX4_untag_31 : decode cX4_untag 31 = .ok (.dup, 1) := by decide +kernel
theorem dX4_untag_32 : decode cX4_untag 32 = .ok (.ldc 145, 2) := by decide +kernel
theorem dX4_untag_34 : decode cX4_untag 34 = .ok (.invokespecial 86, 3) := by decide +kernel
theorem dX4_untag_37 : decode cX4_untag 37 = .ok (.athrow, 1) := by decide +kernel
theorem dX4_untag_38 : decode cX4_untag 38 = .ok (.aload_n 0, 1) := by decide +kernel
theorem dX4_untag_39 : decode cX4_untag 39 = .ok (.aload_n 3, 1) := by decide +kernel
theorem dX4_untag_40 : decode cX4_untag 40 = .ok (.aload_n 3, 1) := by decide +kernel
theorem dX4_untag_41 : decode cX4_untag 41 = .ok (.getfield 136, 3) := by decide +kernel
theorem dX4_untag_44 : decode cX4_untag 44 = .ok (.iload 4, 2) := by decide +kernel
theorem dX4_untag_46 : decode cX4_untag 46 = .ok (.iconst (-1), 1) := by decide +kernel
theorem dX4_untag_47 : decode cX4_untag 47 = .ok (.ixor, 1) := by decide +kernel
theorem dX4_untag_48 : decode cX4_untag 48 = .ok (.iand, 1) := by decide +kernel
theorem dX4_untag_49 : decode cX4_untag 49 = .ok (.invokevirtual 141, 3) := by decide +kernel
theorem dX4_untag_52 : decode cX4_untag 52 = .ok (.ireturn, 1) := by decide +kernel
theorem dX4_tidy_0 : decode cX4_tidy 0 = .ok (.aload_n 0, 1) := by decide +kernel
theorem dX4_tidy_1 : decode cX4_tidy 1 = .ok (.iload_n 1, 1) := by decide +kernel
theorem dX4_tidy_2 : decode cX4_tidy 2 = .ok (.invokevirtual 122, 3) := by decide +kernel
theorem dX4_tidy_5 : decode cX4_tidy 5 = .ok (.astore_n 3, 1) := by decide +kernel
theorem dX4_tidy_6 : decode cX4_tidy 6 = .ok (.aload_n 0, 1) := by decide +kernel
theorem dX4_tidy_7 : decode cX4_tidy 7 = .ok (.iload_n 2, 1) := by decide +kernel
theorem dX4_tidy_8 : decode cX4_tidy 8 = .ok (.invokevirtual 122, 3) := by decide +kernel
theorem dX4_tidy_11 : decode cX4_tidy 11 = .ok (.astore 4, 2) := by decide +kernel
theorem dX4_tidy_13 : decode cX4_tidy 13 = .ok (.aload_n 3, 1) := by decide +kernel
theorem dX4_tidy_14 : decode cX4_tidy 14 = .ok (.getfield 135, 3) := by decide +kernel
theorem dX4_tidy_17 : decode cX4_tidy 17 = .ok (.aload 4, 2) := by decide +kernel
theorem dX4_tidy_19 : decode cX4_tidy 19 = .ok (.getfield 135, 3) := by decide +kernel
theorem dX4_tidy_22 : decode cX4_tidy 22 = .ok (.if_icmp .ne 13, 3) := by decide +kernel
theorem dX4_tidy_25 : decode cX4_tidy 25 = .ok (.new 147, 3) := by decide +kernel
theorem dX4_tidy_28 : decode cX4_tidy 28 = .ok (.dup, 1) := by decide +kernel
theorem dX4_tidy_29 : decode cX4_tidy 29 = .ok (.ldc 149, 2) := by decide +kernel
theorem dX4_tidy_31 : decode cX4_tidy 31 = .ok (.invokespecial 151, 3) := by decide +kernel
theorem dX4_tidy_34 : decode cX4_tidy 34 = .ok (.athrow, 1) := by decide +kernel
theorem dX4_tidy_35 : decode cX4_tidy 35 = .ok (.aload_n 0, 1) := by decide +kernel
theorem dX4_tidy_36 : decode cX4_tidy 36 = .ok (.aload_n 3, 1) := by decide +kernel
theorem dX4_tidy_37 : decode cX4_tidy 37 = .ok (.aload 4, 2) := by decide +kernel
theorem dX4_tidy_39 : decode cX4_tidy 39 = .ok (.invokevirtual 152, 3) := by decide +kernel
theorem dX4_tidy_42 : decode cX4_tidy 42 = .ok (.iconst 1, 1) := by decide +kernel
theorem dX4_tidy_43 : decode cX4_tidy 43 = .ok (.if_icmp .le 13, 3) := by decide +kernel
theorem dX4_tidy_46 : decode cX4_tidy 46 = .ok (.new 156, 3) := by decide +kernel
theorem dX4_tidy_49 : decode cX4_tidy 49 = .ok (.dup, 1) := by decide +kernel
theorem dX4_tidy_50 : decode cX4_tidy 50 = .ok (.ldc 158, 2) := by decide +kernel
theorem dX4_tidy_52 : decode cX4_tidy 52 = .ok (.invokespecial 160, 3) := by decide +kernel
theorem dX4_tidy_55 : decode cX4_tidy 55 = .ok (.athrow, 1) := by decide +kernel
theorem dX4_tidy_56 : decode cX4_tidy 56 = .ok (.aload 4, 2) := by decide +kernel
theorem dX4_tidy_58 : decode cX4_tidy 58 = .ok (.aload_n 3, 1) := by decide +kernel
theorem dX4_tidy_59 : decode cX4_tidy 59 = .ok (.putfield 161, 3) := by decide +kernel
theorem dX4_tidy_62 : decode cX4_tidy 62 = .ok (.aload 4, 2) := by decide +kernel
theorem dX4_tidy_64 : decode cX4_tidy 64 = .ok (.aload_n 0, 1) := by decide +kernel
theorem dX4_tidy_65 : decode cX4_tidy 65 = .ok (.getfield 64, 3) := by decide +kernel
theorem dX4_tidy_68 : decode cX4_tidy 68 = .ok (.putfield 164, 3) := by decide +kernel
theorem dX4_tidy_71 : decode cX4_tidy 71 = .ok (.aload_n 0, 1) := by decide +kernel
theorem dX4_tidy_72 : decode cX4_tidy 72 = .ok (.aload 4, 2) := by decide +kernel
theorem dX4_tidy_74 : decode cX4_tidy 74 = .ok (.putfield 64, 3) := by decide +kernel
theorem dX4_tidy_77 : decode cX4_tidy 77 = .ok (.aload_n 0, 1) := by decide +kernel
theorem dX4_tidy_78 : decode cX4_tidy 78 = .ok (.aload_n 3, 1) := by decide +kernel
theorem dX4_tidy_79 : decode cX4_tidy 79 = .ok (.aload 4, 2) := by decide +kernel
theorem dX4_tidy_81 : decode cX4_tidy 81 = .ok (.invokevirtual 167, 3) := by decide +kernel
theorem dX4_tidy_84 : decode cX4_tidy 84 = .ok (.istore 5, 2) := by decide +kernel
theorem dX4_tidy_86 : decode cX4_tidy 86 = .ok (.aload_n 0, 1) := by decide +kernel
theorem dX4_tidy_87 : decode cX4_tidy 87 = .ok (.invokevirtual 91, 3) := by decide +kernel
theorem dX4_tidy_90 : decode cX4_tidy 90 = .ok (.iload 5, 2) := by decide +kernel
theorem dX4_tidy_92 : decode cX4_tidy 92 = .ok (.ireturn, 1) := by decide +kernel
theorem dX4_undoTidy_0 : decode cX4_undoTidy 0 = .ok (.aload_n 0, 1) := by decide +kernel
theorem dX4_undoTidy_1 : decode cX4_undoTidy 1 = .ok (.getfield 64, 3) := by decide +kernel
theorem dX4_undoTidy_4 : decode cX4_undoTidy 4 = .ok (.astore_n 1, 1) := by decide +kernel
theorem dX4_undoTidy_5 : decode cX4_undoTidy 5 = .ok (.aload_n 1, 1) := by decide +kernel
theorem dX4_undoTidy_6 : decode cX4_undoTidy 6 = .ok (.ifnonnull 13, 3) := by decide +kernel
theorem dX4_undoTidy_9 : decode cX4_undoTidy 9 = .ok (.new 82, 3) := by decide +kernel
theorem dX4_undoTidy_12 : decode cX4_undoTidy 12 = .ok (.dup, 1) := by decide +kernel
theorem dX4_undoTidy_13 : decode cX4_undoTidy 13 = .ok (.ldc 170, 2) := by decide +kernel
theorem dX4_undoTidy_15 : decode cX4_undoTidy 15 = .ok (.invokespecial 86, 3) := by decide +kernel
theorem dX4_undoTidy_18 : decode cX4_undoTidy 18 = .ok (.athrow, 1) := by decide +kernel
theorem dX4_undoTidy_19 : decode cX4_undoTidy 19 = .ok (.aload_n 0, 1) := by decide +kernel
theorem dX4_undoTidy_20 : decode cX4_undoTidy 20 = .ok (.aload_n 1, 1) := by decide +kernel
theorem dX4_undoTidy_21 : decode cX4_undoTidy 21 = .ok (.getfield 164, 3) := by decide +kernel
theorem dX4_undoTidy_24 : decode cX4_undoTidy 24 = .ok (.putfield 64, 3) := by decide +kernel
theorem dX4_undoTidy_27 : decode cX4_undoTidy 27 = .ok (.aload_n 1, 1) := by decide +kernel
theorem dX4_undoTidy_28 : decode cX4_undoTidy 28 = .ok (.aconst_null, 1) := by decide +kernel
theorem dX4_undoTidy_29 : decode cX4_undoTidy 29 = .ok (.putfield 164, 3) := by decide +kernel
theorem dX4_undoTidy_32 : decode cX4_undoTidy 32 = .ok (.aload_n 1, 1) := by decide +kernel
theorem dX4_undoTidy_33 : decode cX4_undoTidy 33 = .ok (.aconst_null, 1) := by decide +kernel
theorem dX4_undoTidy_34 : decode cX4_undoTidy 34 = .ok (.putfield 161, 3) := by decide +kernel
theorem dX4_undoTidy_37 : decode cX4_undoTidy 37 = .ok (.iconst 0, 1) := by decide +kernel
theorem dX4_undoTidy_38 : decode cX4_undoTidy 38 = .ok (.istore_n 2, 1) := by decide +kernel
theorem dX4_undoTidy_39 : decode cX4_undoTidy 39 = .ok (.iload_n 2, 1) := by decide +kernel
theorem dX4_undoTidy_40 : decode cX4_undoTidy 40 = .ok (.bipush 24, 2) := by decide +kernel
theorem dX4_undoTidy_42 : decode cX4_undoTidy 42 = .ok (.if_icmp .ge 29, 3) := by decide +kernel
theorem dX4_undoTidy_45 : decode cX4_undoTidy 45 = .ok (.aload_n 0, 1) := by decide +kernel
theorem dX4_undoTidy_46 : decode cX4_undoTidy 46 = .ok (.iload_n 2, 1) := by decide +kernel
theorem dX4_undoTidy_47 : decode cX4_undoTidy 47 = .ok (.invokevirtual 172, 3) := by decide +kernel
theorem dX4_undoTidy_50 : decode cX4_undoTidy 50 = .ok (.astore_n 3, 1) := by decide +kernel
theorem dX4_undoTidy_51 : decode cX4_undoTidy 51 = .ok (.aload_n 3, 1) := by decide +kernel
theorem dX4_undoTidy_52 : decode cX4_undoTidy 52 = .ok (.ifnull 13, 3) := by decide +kernel
theorem dX4_undoTidy_55 : decode cX4_undoTidy 55 = .ok (.aload_n 3, 1) := by decide +kernel
theorem dX4_undoTidy_56 : decode cX4_undoTidy 56 = .ok (.aload_n 1, 1) := by decide +kernel
theorem dX4_undoTidy_57 : decode cX4_undoTidy 57 = .ok (.getfield 175, 3) := by decide +kernel
theorem dX4_undoTidy_60 : decode cX4_undoTidy 60 = .ok (.iload_n 2, 1) := by decide +kernel
theorem dX4_undoTidy_61 : decode cX4_undoTidy 61 = .ok (.iaload, 1) := by decide +kernel
theorem dX4_undoTidy_62 : decode cX4_undoTidy 62 = .ok (.putfield 136, 3) := by decide +kernel
theorem dX4_undoTidy_65 : decode cX4_undoTidy 65 = .ok (.iinc 2 1, 3) := by decide +kernel
theorem dX4_undoTidy_68 : decode cX4_undoTidy 68 = .ok (.goto (-29), 3) := by decide +kernel
theorem dX4_undoTidy_71 : decode cX4_undoTidy 71 = .ok (.aload_n 0, 1) := by decide +kernel
theorem dX4_undoTidy_72 : decode cX4_undoTidy 72 = .ok (.invokevirtual 91, 3) := by decide +kernel
theorem dX4_undoTidy_75 : decode cX4_undoTidy 75 = .ok (.aload_n 1, 1) := by decide +kernel
theorem dX4_undoTidy_76 : decode cX4_undoTidy 76 = .ok (.getfield 135, 3) := by decide +kernel
theorem dX4_undoTidy_79 : decode cX4_undoTidy 79 = .ok (.ireturn, 1) := by decide +kernel
theorem dX4_hasTag_0 : decode cX4_hasTag 0 = .ok (.aload_n 0, 1) := by decide +kernel
theorem dX4_hasTag_1 : decode cX4_hasTag 1 = .ok (.iconst 0, 1) := by decide +kernel
theorem dX4_hasTag_2 : decode cX4_hasTag 2 = .ok (.aload_n 0, 1) := by decide +kernel
theorem dX4_hasTag_3 : decode cX4_hasTag 3 = .ok (.iload_n 1, 1) := by decide +kernel
theorem dX4_hasTag_4 : decode cX4_hasTag 4 = .ok (.invokevirtual 122, 3) := by decide +kernel
theorem dX4_hasTag_7 : decode cX4_hasTag 7 = .ok (.getfield 135, 3) := by decide +kernel
theorem dX4_hasTag_10 : decode cX4_hasTag 10 = .ok (.aconst_null, 1) := by decide +kernel
theorem dX4_hasTag_11 : decode cX4_hasTag 11 = .ok (.aconst_null, 1) := by decide +kernel
theorem dX4_hasTag_12 : decode cX4_hasTag 12 = .ok (.invokevirtual 178, 3) := by decide +kernel
theorem dX4_hasTag_15 : decode cX4_hasTag 15 = .ok (.ireturn, 1) := by decide +kernel
theorem dX4_rated_0 : decode cX4_rated 0 = .ok (.iload_n 1, 1) := by decide +kernel
theorem dX4_rated_1 : decode cX4_rated 1 = .ok (.iconst 0, 1) := by decide +kernel
theorem dX4_rated_2 : decode cX4_rated 2 = .ok (.iconst 5, 1) := by decide +kernel
theorem dX4_rated_3 : decode cX4_rated 3 = .ok (.invokestatic 78, 3) := by decide +kernel
theorem dX4_rated_6 : decode cX4_rated 6 = .ok (.aload_n 0, 1) := by decide +kernel
theorem dX4_rated_7 : decode cX4_rated 7 = .ok (.iconst 1, 1) := by decide +kernel
theorem dX4_rated_8 : decode cX4_rated 8 = .ok (.iload_n 1, 1) := by decide +kernel
theorem dX4_rated_9 : decode cX4_rated 9 = .ok (.aconst_null, 1) := by decide +kernel
theorem dX4_rated_10 : decode cX4_rated 10 = .ok (.aconst_null, 1) := by decide +kernel
theorem dX4_rated_11 : decode cX4_rated 11 = .ok (.invokevirtual 178, 3) := by decide +kernel
theorem dX4_rated_14 : decode cX4_rated 14 = .ok (.ireturn, 1) := by decide +kernel
theorem dX4_playedAtMost_0 : decode cX4_playedAtMost 0 = .ok (.iload_n 1, 1) := by decide +kernel
theorem dX4_playedAtMost_1 : decode cX4_playedAtMost 1 = .ok (.iconst 0, 1) := by decide +kernel
theorem dX4_playedAtMost_2 : decode cX4_playedAtMost 2 = .ok (.sipush 999, 3) := by decide +kernel
theorem dX4_playedAtMost_5 : decode cX4_playedAtMost 5 = .ok (.invokestatic 78, 3) := by decide +kernel
theorem dX4_playedAtMost_8 : decode cX4_playedAtMost 8 = .ok (.aload_n 0, 1) := by decide +kernel
theorem dX4_playedAtMost_9 : decode cX4_playedAtMost 9 = .ok (.iconst 2, 1) := by decide +kernel
theorem dX4_playedAtMost_10 : decode cX4_playedAtMost 10 = .ok (.iload_n 1, 1) := by decide +kernel
theorem dX4_playedAtMost_11 : decode cX4_playedAtMost 11 = .ok (.aconst_null, 1) := by decide +kernel
theorem dX4_playedAtMost_12 : decode cX4_playedAtMost 12 = .ok (.aconst_null, 1) := by decide +kernel
theorem dX4_playedAtMost_13 : decode cX4_playedAtMost 13 = .ok (.invokevirtual 178, 3) := by decide +kernel
theorem dX4_playedAtMost_16 : decode cX4_playedAtMost 16 = .ok (.ireturn, 1) := by decide +kernel
theorem dX4_asLongAs_0 : decode cX4_asLongAs 0 = .ok (.iload_n 1, 1) := by decide +kernel
theorem dX4_asLongAs_1 : decode cX4_asLongAs 1 = .ok (.iconst 1, 1) := by decide +kernel
theorem dX4_asLongAs_2 : decode cX4_asLongAs 2 = .ok (.sipush 999, 3) := by decide +kernel
theorem dX4_asLongAs_5 : decode cX4_asLongAs 5 = .ok (.invokestatic 78, 3) := by decide +kernel
theorem dX4_asLongAs_8 : decode cX4_asLongAs 8 = .ok (.aload_n 0, 1) := by decide +kernel
theorem dX4_asLongAs_9 : decode cX4_asLongAs 9 = .ok (.iconst 3, 1) := by decide +kernel
theorem dX4_asLongAs_10 : decode cX4_asLongAs 10 = .ok (.iload_n 1, 1) := by decide +kernel
theorem dX4_asLongAs_11 : decode cX4_asLongAs 11 = .ok (.aconst_null, 1) := by decide +kernel
theorem dX4_asLongAs_12 : decode cX4_asLongAs 12 = .ok (.aconst_null, 1) := by decide +kernel
theorem dX4_asLongAs_13 : decode cX4_asLongAs 13 = .ok (.invokevirtual 178, 3) := by decide +kernel
theorem dX4_asLongAs_16 : decode cX4_asLongAs 16 = .ok (.ireturn, 1) := by decide +kernel
theorem dX4_playedWithin_0 : decode cX4_playedWithin 0 = .ok (.iload_n 1, 1) := by decide +kernel
theorem dX4_playedWithin_1 : decode cX4_playedWithin 1 = .ok (.iconst 0, 1) := by decide +kernel
theorem dX4_playedWithin_2 : decode cX4_playedWithin 2 = .ok (.sipush 999, 3) := by decide +kernel
theorem dX4_playedWithin_5 : decode cX4_playedWithin 5 = .ok (.invokestatic 78, 3) := by decide +kernel
theorem dX4_playedWithin_8 : decode cX4_playedWithin 8 = .ok (.aload_n 0, 1) := by decide +kernel
theorem dX4_playedWithin_9 : decode cX4_playedWithin 9 = .ok (.iconst 4, 1) := by decide +kernel
theorem dX4_playedWithin_10 : decode cX4_playedWithin 10 = .ok (.iload_n 1, 1) := by decide +kernel
theorem dX4_playedWithin_11 : decode cX4_playedWithin 11 = .ok (.aconst_null, 1) := by decide +kernel
theorem dX4_playedWithin_12 : decode cX4_playedWithin 12 = .ok (.aconst_null, 1) := by decide +kernel
theorem dX4_playedWithin_13 : decode cX4_playedWithin 13 = .ok (.invokevirtual 178, 3) := by decide +kernel
theorem dX4_playedWithin_16 : decode cX4_playedWithin 16 = .ok (.ireturn, 1) := by decide +kernel
theorem dX4_inList_0 : decode cX4_inList 0 = .ok (.aload_n 0, 1) := by decide +kernel
theorem dX4_inList_1 : decode cX4_inList 1 = .ok (.iload_n 1, 1) := by decide +kernel
theorem dX4_inList_2 : decode cX4_inList 2 = .ok (.invokevirtual 182, 3) := by decide +kernel
theorem dX4_inList_5 : decode cX4_inList 5 = .ok (.pop, 1) := by decide +kernel
theorem dX4_inList_6 : decode cX4_inList 6 = .ok (.aload_n 0, 1) := by decide +kernel
theorem dX4_inList_7 : decode cX4_inList 7 = .ok (.iconst 5, 1) := by decide +kernel
theorem dX4_inList_8 : decode cX4_inList 8 = .ok (.iload_n 1, 1) := by decide +kernel
theorem dX4_inList_9 : decode cX4_inList 9 = .ok (.aconst_null, 1) := by decide +kernel
theorem dX4_inList_10 : decode cX4_inList 10 = .ok (.aconst_null, 1) := by decide +kernel
theorem dX4_inList_11 : decode cX4_inList 11 = .ok (.invokevirtual 178, 3) := by decide +kernel
theorem dX4_inList_14 : decode cX4_inList 14 = .ok (.ireturn, 1) := by decide +kernel
theorem dX4_both_0 : decode cX4_both 0 = .ok (.aload_n 0, 1) := by decide +kernel
theorem dX4_both_1 : decode cX4_both 1 = .ok (.bipush 6, 2) := by decide +kernel
theorem dX4_both_3 : decode cX4_both 3 = .ok (.iconst 0, 1) := by decide +kernel
theorem dX4_both_4 : decode cX4_both 4 = .ok (.aload_n 0, 1) := by decide +kernel
theorem dX4_both_5 : decode cX4_both 5 = .ok (.iload_n 1, 1) := by decide +kernel
theorem dX4_both_6 : decode cX4_both 6 = .ok (.invokevirtual 186, 3) := by decide +kernel
theorem dX4_both_9 : decode cX4_both 9 = .ok (.aload_n 0, 1) := by decide +kernel
theorem dX4_both_10 : decode cX4_both 10 = .ok (.iload_n 2, 1) := by decide +kernel
theorem dX4_both_11 : decode cX4_both 11 = .ok (.invokevirtual 186, 3) := by decide +kernel
theorem dX4_both_14 : decode cX4_both 14 = .ok (.invokevirtual 178, 3) := by decide +kernel
theorem dX4_both_17 : decode cX4_both 17 = .ok (.ireturn, 1) := by decide +kernel
theorem dX4_either_0 : decode cX4_either 0 = .ok (.aload_n 0, 1) := by decide +kernel
theorem dX4_either_1 : decode cX4_either 1 = .ok (.bipush 7, 2) := by decide +kernel
theorem dX4_either_3 : decode cX4_either 3 = .ok (.iconst 0, 1) := by decide +kernel
theorem dX4_either_4 : decode cX4_either 4 = .ok (.aload_n 0, 1) := by decide +kernel
theorem dX4_either_5 : decode cX4_either 5 = .ok (.iload_n 1, 1) := by decide +kernel
theorem dX4_either_6 : decode cX4_either 6 = .ok (.invokevirtual 186, 3) := by decide +kernel
theorem dX4_either_9 : decode cX4_either 9 = .ok (.aload_n 0, 1) := by decide +kernel
theorem dX4_either_10 : decode cX4_either 10 = .ok (.iload_n 2, 1) := by decide +kernel
theorem dX4_either_11 : decode cX4_either 11 = .ok (.invokevirtual 186, 3) := by decide +kernel
theorem dX4_either_14 : decode cX4_either 14 = .ok (.invokevirtual 178, 3) := by decide +kernel
theorem dX4_either_17 : decode cX4_either 17 = .ok (.ireturn, 1) := by decide +kernel
theorem dX4_not_0 : decode cX4_not 0 = .ok (.aload_n 0, 1) := by decide +kernel
theorem dX4_not_1 : decode cX4_not 1 = .ok (.bipush 8, 2) := by decide +kernel
theorem dX4_not_3 : decode cX4_not 3 = .ok (.iconst 0, 1) := by decide +kernel
theorem dX4_not_4 : decode cX4_not 4 = .ok (.aload_n 0, 1) := by decide +kernel
theorem dX4_not_5 : decode cX4_not 5 = .ok (.iload_n 1, 1) := by decide +kernel
theorem dX4_not_6 : decode cX4_not 6 = .ok (.invokevirtual 186, 3) := by decide +kernel
theorem dX4_not_9 : decode cX4_not 9 = .ok (.aconst_null, 1) := by decide +kernel
theorem dX4_not_10 : decode cX4_not 10 = .ok (.invokevirtual 178, 3) := by decide +kernel
theorem dX4_not_13 : decode cX4_not 13 = .ok (.ireturn, 1) := by decide +kernel
theorem dX4_addList_0 : decode cX4_addList 0 = .ok (.aload_n 0, 1) := by decide +kernel
theorem dX4_addList_1 : decode cX4_addList 1 = .ok (.iload_n 1, 1) := by decide +kernel
theorem dX4_addList_2 : decode cX4_addList 2 = .ok (.invokevirtual 186, 3) := by decide +kernel
theorem dX4_addList_5 : decode cX4_addList 5 = .ok (.astore 4, 2) := by decide +kernel
theorem dX4_addList_7 : decode cX4_addList 7 = .ok (.iload_n 2, 1) := by decide +kernel
theorem dX4_addList_8 : decode cX4_addList 8 = .ok (.invokestatic 190, 3) := by decide +kernel
theorem dX4_addList_11 : decode cX4_addList 11 = .ok (.iload_n 3, 1) := by decide +kernel
theorem dX4_addList_12 : decode cX4_addList 12 = .ok (.iconst 0, 1) := by decide +kernel
theorem dX4_addList_13 : decode cX4_addList 13 = .ok (.sipush 9999, 3) := by decide +kernel
theorem dX4_addList_16 : decode cX4_addList 16 = .ok (.invokestatic 78, 3) := by decide +kernel
theorem dX4_addList_19 : decode cX4_addList 19 = .ok (.aload_n 0, 1) := by decide +kernel
theorem dX4_addList_20 : decode cX4_addList 20 = .ok (.getfield 46, 3) := by decide +kernel
theorem dX4_addList_23 : decode cX4_addList 23 = .ok (.istore 5, 2) := by decide +kernel
theorem dX4_addList_25 : decode cX4_addList 25 = .ok (.iload 5, 2) := by decide +kernel
theorem dX4_addList_27 : decode cX4_addList 27 = .ok (.bipush 8, 2) := by decide +kernel
theorem dX4_addList_29 : decode cX4_addList 29 = .ok (.if_icmp .lt 13, 3) := by decide +kernel
theorem dX4_addList_32 : decode cX4_addList 32 = .ok (.new 82, 3) := by decide +kernel
theorem dX4_addList_35 : decode cX4_addList 35 = .ok (.dup, 1) := by decide +kernel
theorem dX4_addList_36 : decode cX4_addList 36 = .ok (.ldc 194, 2) := by decide +kernel
theorem dX4_addList_38 : decode cX4_addList 38 = .ok (.invokespecial 86, 3) := by decide +kernel
theorem dX4_addList_41 : decode cX4_addList 41 = .ok (.athrow, 1) := by decide +kernel
theorem dX4_addList_42 : decode cX4_addList 42 = .ok (.aload_n 0, 1) := by decide +kernel
theorem dX4_addList_43 : decode cX4_addList 43 = .ok (.getfield 29, 3) := by decide +kernel
theorem dX4_addList_46 : decode cX4_addList 46 = .ok (.iload 5, 2) := by decide +kernel
theorem dX4_addList_48 : decode cX4_addList 48 = .ok (.new 27, 3) := by decide +kernel
theorem dX4_addList_51 : decode cX4_addList 51 = .ok (.dup, 1) := by decide +kernel
theorem dX4_addList_52 : decode cX4_addList 52 = .ok (.aload 4, 2) := by decide +kernel
theorem dX4_addList_54 : decode cX4_addList 54 = .ok (.iload_n 2, 1) := by decide +kernel
theorem dX4_addList_55 : decode cX4_addList 55 = .ok (.iload_n 3, 1) := by decide +kernel
theorem dX4_addList_56 : decode cX4_addList 56 = .ok (.invokespecial 196, 3) := by decide +kernel
theorem dX4_addList_59 : decode cX4_addList 59 = .ok (.aastore, 1) := by decide +kernel
theorem dX4_addList_60 : decode cX4_addList 60 = .ok (.aload_n 0, 1) := by decide +kernel
theorem dX4_addList_61 : decode cX4_addList 61 = .ok (.dup, 1) := by decide +kernel
theorem dX4_addList_62 : decode cX4_addList 62 = .ok (.getfield 46, 3) := by decide +kernel
theorem dX4_addList_65 : decode cX4_addList 65 = .ok (.iconst 1, 1) := by decide +kernel
theorem dX4_addList_66 : decode cX4_addList 66 = .ok (.iadd, 1) := by decide +kernel
theorem dX4_addList_67 : decode cX4_addList 67 = .ok (.putfield 46, 3) := by decide +kernel
theorem dX4_addList_70 : decode cX4_addList 70 = .ok (.aload_n 0, 1) := by decide +kernel
theorem dX4_addList_71 : decode cX4_addList 71 = .ok (.invokevirtual 199, 3) := by decide +kernel
theorem dX4_addList_74 : decode cX4_addList 74 = .ok (.iload 5, 2) := by decide +kernel
theorem dX4_addList_76 : decode cX4_addList 76 = .ok (.ireturn, 1) := by decide +kernel
theorem dX4_setRule_0 : decode cX4_setRule 0 = .ok (.aload_n 0, 1) := by decide +kernel
theorem dX4_setRule_1 : decode cX4_setRule 1 = .ok (.iload_n 1, 1) := by decide +kernel
theorem dX4_setRule_2 : decode cX4_setRule 2 = .ok (.invokevirtual 182, 3) := by decide +kernel
theorem dX4_setRule_5 : decode cX4_setRule 5 = .ok (.astore_n 3, 1) := by decide +kernel
theorem dX4_setRule_6 : decode cX4_setRule 6 = .ok (.aload_n 0, 1) := by decide +kernel
theorem dX4_setRule_7 : decode cX4_setRule 7 = .ok (.iload_n 2, 1) := by decide +kernel
theorem dX4_setRule_8 : decode cX4_setRule 8 = .ok (.invokevirtual 186, 3) := by decide +kernel
theorem dX4_setRule_11 : decode cX4_setRule 11 = .ok (.astore 4, 2) := by decide +kernel
theorem dX4_setRule_13 : decode cX4_setRule 13 = .ok (.aload_n 0, 1) := by decide +kernel
theorem dX4_setRule_14 : decode cX4_setRule 14 = .ok (.aload 4, 2) := by decide +kernel
theorem dX4_setRule_16 : decode cX4_setRule 16 = .ok (.getfield 202, 3) := by decide +kernel
theorem dX4_setRule_19 : decode cX4_setRule 19 = .ok (.invokevirtual 205, 3) := by decide +kernel
theorem dX4_setRule_22 : decode cX4_setRule 22 = .ok (.iload_n 1, 1) := by decide +kernel
theorem dX4_setRule_23 : decode cX4_setRule 23 = .ok (.invokestatic 209, 3) := by decide +kernel
theorem dX4_setRule_26 : decode cX4_setRule 26 = .ok (.ifCond .eq 13, 3) := by decide +kernel
theorem dX4_setRule_29 : decode cX4_setRule 29 = .ok (.new 156, 3) := by decide +kernel
theorem dX4_setRule_32 : decode cX4_setRule 32 = .ok (.dup, 1) := by decide +kernel
theorem dX4_setRule_33 : decode cX4_setRule 33 = .ok (.ldc 213, 2) := by decide +kernel
theorem dX4_setRule_35 : decode cX4_setRule 35 = .ok (.invokespecial 160, 3) := by decide +kernel
theorem dX4_setRule_38 : decode cX4_setRule 38 = .ok (.athrow, 1) := by decide +kernel
theorem dX4_setRule_39 : decode cX4_setRule 39 = .ok (.aload_n 3, 1) := by decide +kernel
theorem dX4_setRule_40 : decode cX4_setRule 40 = .ok (.getfield 215, 3) := by decide +kernel
theorem dX4_setRule_43 : decode cX4_setRule 43 = .ok (.getfield 219, 3) := by decide +kernel
theorem dX4_setRule_46 : decode cX4_setRule 46 = .ok (.istore 5, 2) := by decide +kernel
theorem dX4_setRule_48 : decode cX4_setRule 48 = .ok (.aload_n 3, 1) := by decide +kernel
theorem dX4_setRule_49 : decode cX4_setRule 49 = .ok (.aload 4, 2) := by decide +kernel
theorem dX4_setRule_51 : decode cX4_setRule 51 = .ok (.putfield 215, 3) := by decide +kernel
theorem dX4_setRule_54 : decode cX4_setRule 54 = .ok (.aload_n 0, 1) := by decide +kernel
theorem dX4_setRule_55 : decode cX4_setRule 55 = .ok (.invokevirtual 91, 3) := by decide +kernel
theorem dX4_setRule_58 : decode cX4_setRule 58 = .ok (.iload 5, 2) := by decide +kernel
theorem dX4_setRule_60 : decode cX4_setRule 60 = .ok (.ireturn, 1) := by decide +kernel
theorem dX4_setOrder_0 : decode cX4_setOrder 0 = .ok (.aload_n 0, 1) := by decide +kernel
theorem dX4_setOrder_1 : decode cX4_setOrder 1 = .ok (.iload_n 1, 1) := by decide +kernel
theorem dX4_setOrder_2 : decode cX4_setOrder 2 = .ok (.invokevirtual 182, 3) := by decide +kernel
theorem dX4_setOrder_5 : decode cX4_setOrder 5 = .ok (.astore_n 3, 1) := by decide +kernel
theorem dX4_setOrder_6 : decode cX4_setOrder 6 = .ok (.iload_n 2, 1) := by decide +kernel
theorem dX4_setOrder_7 : decode cX4_setOrder 7 = .ok (.invokestatic 190, 3) := by decide +kernel
theorem dX4_setOrder_10 : decode cX4_setOrder 10 = .ok (.aload_n 3, 1) := by decide +kernel
theorem dX4_setOrder_11 : decode cX4_setOrder 11 = .ok (.getfield 220, 3) := by decide +kernel
theorem dX4_setOrder_14 : decode cX4_setOrder 14 = .ok (.istore 4, 2) := by decide +kernel
theorem dX4_setOrder_16 : decode cX4_setOrder 16 = .ok (.aload_n 3, 1) := by decide +kernel
theorem dX4_setOrder_17 : decode cX4_setOrder 17 = .ok (.iload_n 2, 1) := by decide +kernel
theorem dX4_setOrder_18 : decode cX4_setOrder 18 = .ok (.putfield 220, 3) := by decide +kernel
theorem dX4_setOrder_21 : decode cX4_setOrder 21 = .ok (.aload_n 0, 1) := by decide +kernel
theorem dX4_setOrder_22 : decode cX4_setOrder 22 = .ok (.invokevirtual 91, 3) := by decide +kernel
theorem dX4_setOrder_25 : decode cX4_setOrder 25 = .ok (.iload 4, 2) := by decide +kernel
theorem dX4_setOrder_27 : decode cX4_setOrder 27 = .ok (.ireturn, 1) := by decide +kernel
theorem dX4_setLimit_0 : decode cX4_setLimit 0 = .ok (.aload_n 0, 1) := by decide +kernel
theorem dX4_setLimit_1 : decode cX4_setLimit 1 = .ok (.iload_n 1, 1) := by decide +kernel
theorem dX4_setLimit_2 : decode cX4_setLimit 2 = .ok (.invokevirtual 182, 3) := by decide +kernel
theorem dX4_setLimit_5 : decode cX4_setLimit 5 = .ok (.astore_n 3, 1) := by decide +kernel
theorem dX4_setLimit_6 : decode cX4_setLimit 6 = .ok (.iload_n 2, 1) := by decide +kernel
theorem dX4_setLimit_7 : decode cX4_setLimit 7 = .ok (.iconst 0, 1) := by decide +kernel
theorem dX4_setLimit_8 : decode cX4_setLimit 8 = .ok (.sipush 9999, 3) := by decide +kernel
theorem dX4_setLimit_11 : decode cX4_setLimit 11 = .ok (.invokestatic 78, 3) := by decide +kernel
theorem dX4_setLimit_14 : decode cX4_setLimit 14 = .ok (.aload_n 3, 1) := by decide +kernel
theorem dX4_setLimit_15 : decode cX4_setLimit 15 = .ok (.getfield 224, 3) := by decide +kernel
theorem dX4_setLimit_18 : decode cX4_setLimit 18 = .ok (.istore 4, 2) := by decide +kernel
theorem dX4_setLimit_20 : decode cX4_setLimit 20 = .ok (.aload_n 3, 1) := by decide +kernel
theorem dX4_setLimit_21 : decode cX4_setLimit 21 = .ok (.iload_n 2, 1) := by decide +kernel
theorem dX4_setLimit_22 : decode cX4_setLimit 22 = .ok (.putfield 224, 3) := by decide +kernel
theorem dX4_setLimit_25 : decode cX4_setLimit 25 = .ok (.aload_n 0, 1) := by decide +kernel
theorem dX4_setLimit_26 : decode cX4_setLimit 26 = .ok (.invokevirtual 91, 3) := by decide +kernel
theorem dX4_setLimit_29 : decode cX4_setLimit 29 = .ok (.iload 4, 2) := by decide +kernel
theorem dX4_setLimit_31 : decode cX4_setLimit 31 = .ok (.ireturn, 1) := by decide +kernel
theorem dX4_tracks_0 : decode cX4_tracks 0 = .ok (.aload_n 0, 1) := by decide +kernel
theorem dX4_tracks_1 : decode cX4_tracks 1 = .ok (.getfield 37, 3) := by decide +kernel
theorem dX4_tracks_4 : decode cX4_tracks 4 = .ok (.ireturn, 1) := by decide +kernel
theorem dX4_today_0 : decode cX4_today 0 = .ok (.aload_n 0, 1) := by decide +kernel
theorem dX4_today_1 : decode cX4_today 1 = .ok (.getfield 68, 3) := by decide +kernel
theorem dX4_today_4 : decode cX4_today 4 = .ok (.ireturn, 1) := by decide +kernel
theorem dX4_lengthOf_0 : decode cX4_lengthOf 0 = .ok (.aload_n 0, 1) := by decide +kernel
theorem dX4_lengthOf_1 : decode cX4_lengthOf 1 = .ok (.iload_n 1, 1) := by decide +kernel
theorem dX4_lengthOf_2 : decode cX4_lengthOf 2 = .ok (.invokevirtual 94, 3) := by decide +kernel
theorem dX4_lengthOf_5 : decode cX4_lengthOf 5 = .ok (.getfield 112, 3) := by decide +kernel
theorem dX4_lengthOf_8 : decode cX4_lengthOf 8 = .ok (.ireturn, 1) := by decide +kernel
theorem dX4_ratingOf_0 : decode cX4_ratingOf 0 = .ok (.aload_n 0, 1) := by decide +kernel
theorem dX4_ratingOf_1 : decode cX4_ratingOf 1 = .ok (.iload_n 1, 1) := by decide +kernel
theorem dX4_ratingOf_2 : decode cX4_ratingOf 2 = .ok (.invokevirtual 94, 3) := by decide +kernel
theorem dX4_ratingOf_5 : decode cX4_ratingOf 5 = .ok (.getfield 101, 3) := by decide +kernel
theorem dX4_ratingOf_8 : decode cX4_ratingOf 8 = .ok (.ireturn, 1) := by decide +kernel
theorem dX4_playsOf_0 : decode cX4_playsOf 0 = .ok (.aload_n 0, 1) := by decide +kernel
theorem dX4_playsOf_1 : decode cX4_playsOf 1 = .ok (.iload_n 1, 1) := by decide +kernel
theorem dX4_playsOf_2 : decode cX4_playsOf 2 = .ok (.invokevirtual 94, 3) := by decide +kernel
theorem dX4_playsOf_5 : decode cX4_playsOf 5 = .ok (.getfield 104, 3) := by decide +kernel
theorem dX4_playsOf_8 : decode cX4_playsOf 8 = .ok (.ireturn, 1) := by decide +kernel
theorem dX4_playedLast_0 : decode cX4_playedLast 0 = .ok (.aload_n 0, 1) := by decide +kernel
theorem dX4_playedLast_1 : decode cX4_playedLast 1 = .ok (.iload_n 1, 1) := by decide +kernel
theorem dX4_playedLast_2 : decode cX4_playedLast 2 = .ok (.invokevirtual 94, 3) := by decide +kernel
theorem dX4_playedLast_5 : decode cX4_playedLast 5 = .ok (.astore_n 2, 1) := by decide +kernel
theorem dX4_playedLast_6 : decode cX4_playedLast 6 = .ok (.aload_n 2, 1) := by decide +kernel
theorem dX4_playedLast_7 : decode cX4_playedLast 7 = .ok (.getfield 109, 3) := by decide +kernel
theorem dX4_playedLast_10 : decode cX4_playedLast 10 = .ok (.iconst (-1), 1) := by decide +kernel
theorem dX4_playedLast_11 : decode cX4_playedLast 11 = .ok (.if_icmp .ne 13, 3) := by decide +kernel
theorem dX4_playedLast_14 : decode cX4_playedLast 14 = .ok (.new 82, 3) := by decide +kernel
theorem dX4_playedLast_17 : decode cX4_playedLast 17 = .ok (.dup, 1) := by decide +kernel
theorem dX4_playedLast_18 : decode cX4_playedLast 18 = .ok (.ldc 227, 2) := by decide +kernel
theorem dX4_playedLast_20 : decode cX4_playedLast 20 = .ok (.invokespecial 86, 3) := by decide +kernel
theorem dX4_playedLast_23 : decode cX4_playedLast 23 = .ok (.athrow, 1) := by decide +kernel
theorem dX4_playedLast_24 : decode cX4_playedLast 24 = .ok (.aload_n 2, 1) := by decide +kernel
theorem dX4_playedLast_25 : decode cX4_playedLast 25 = .ok (.getfield 109, 3) := by decide +kernel
theorem dX4_playedLast_28 : decode cX4_playedLast 28 = .ok (.ireturn, 1) := by decide +kernel
theorem dX4_tagBits_0 : decode cX4_tagBits 0 = .ok (.aload_n 0, 1) := by decide +kernel
theorem dX4_tagBits_1 : decode cX4_tagBits 1 = .ok (.iload_n 1, 1) := by decide +kernel
theorem dX4_tagBits_2 : decode cX4_tagBits 2 = .ok (.invokevirtual 94, 3) := by decide +kernel
theorem dX4_tagBits_5 : decode cX4_tagBits 5 = .ok (.getfield 136, 3) := by decide +kernel
theorem dX4_tagBits_8 : decode cX4_tagBits 8 = .ok (.ireturn, 1) := by decide +kernel
theorem dX4_nameLength_0 : decode cX4_nameLength 0 = .ok (.aload_n 0, 1) := by decide +kernel
theorem dX4_nameLength_1 : decode cX4_nameLength 1 = .ok (.iload_n 1, 1) := by decide +kernel
theorem dX4_nameLength_2 : decode cX4_nameLength 2 = .ok (.invokevirtual 122, 3) := by decide +kernel
theorem dX4_nameLength_5 : decode cX4_nameLength 5 = .ok (.getfield 126, 3) := by decide +kernel
theorem dX4_nameLength_8 : decode cX4_nameLength 8 = .ok (.ireturn, 1) := by decide +kernel
theorem dX4_nameAt_0 : decode cX4_nameAt 0 = .ok (.aload_n 0, 1) := by decide +kernel
theorem dX4_nameAt_1 : decode cX4_nameAt 1 = .ok (.iload_n 1, 1) := by decide +kernel
theorem dX4_nameAt_2 : decode cX4_nameAt 2 = .ok (.invokevirtual 122, 3) := by decide +kernel
theorem dX4_nameAt_5 : decode cX4_nameAt 5 = .ok (.astore_n 3, 1) := by decide +kernel
theorem dX4_nameAt_6 : decode cX4_nameAt 6 = .ok (.iload_n 2, 1) := by decide +kernel
theorem dX4_nameAt_7 : decode cX4_nameAt 7 = .ok (.ifCond .lt 11, 3) := by decide +kernel
theorem dX4_nameAt_10 : decode cX4_nameAt 10 = .ok (.iload_n 2, 1) := by decide +kernel
theorem dX4_nameAt_11 : decode cX4_nameAt 11 = .ok (.aload_n 3, 1) := by decide +kernel
theorem dX4_nameAt_12 : decode cX4_nameAt 12 = .ok (.getfield 126, 3) := by decide +kernel
theorem dX4_nameAt_15 : decode cX4_nameAt 15 = .ok (.if_icmp .lt 13, 3) := by decide +kernel
theorem dX4_nameAt_18 : decode cX4_nameAt 18 = .ok (.new 229, 3) := by decide +kernel
theorem dX4_nameAt_21 : decode cX4_nameAt 21 = .ok (.dup, 1) := by decide +kernel
theorem dX4_nameAt_22 : decode cX4_nameAt 22 = .ok (.ldc 231, 2) := by decide +kernel
theorem dX4_nameAt_24 : decode cX4_nameAt 24 = .ok (.invokespecial 233, 3) := by decide +kernel
theorem dX4_nameAt_27 : decode cX4_nameAt 27 = .ok (.athrow, 1) := by decide +kernel
theorem dX4_nameAt_28 : decode cX4_nameAt 28 = .ok (.aload_n 3, 1) := by decide +kernel
theorem dX4_nameAt_29 : decode cX4_nameAt 29 = .ok (.getfield 131, 3) := by decide +kernel
theorem dX4_nameAt_32 : decode cX4_nameAt 32 = .ok (.iload_n 2, 1) := by decide +kernel
theorem dX4_nameAt_33 : decode cX4_nameAt 33 = .ok (.caload, 1) := by decide +kernel
theorem dX4_nameAt_34 : decode cX4_nameAt 34 = .ok (.ireturn, 1) := by decide +kernel
theorem dX4_distance_0 : decode cX4_distance 0 = .ok (.aload_n 0, 1) := by decide +kernel
theorem dX4_distance_1 : decode cX4_distance 1 = .ok (.aload_n 0, 1) := by decide +kernel
theorem dX4_distance_2 : decode cX4_distance 2 = .ok (.iload_n 1, 1) := by decide +kernel
theorem dX4_distance_3 : decode cX4_distance 3 = .ok (.invokevirtual 122, 3) := by decide +kernel
theorem dX4_distance_6 : decode cX4_distance 6 = .ok (.aload_n 0, 1) := by decide +kernel
theorem dX4_distance_7 : decode cX4_distance 7 = .ok (.iload_n 2, 1) := by decide +kernel
theorem dX4_distance_8 : decode cX4_distance 8 = .ok (.invokevirtual 122, 3) := by decide +kernel
theorem dX4_distance_11 : decode cX4_distance 11 = .ok (.invokevirtual 152, 3) := by decide +kernel
theorem dX4_distance_14 : decode cX4_distance 14 = .ok (.ireturn, 1) := by decide +kernel
theorem dX4_distanceByTrying_0 : decode cX4_distanceByTrying 0 = .ok (.aload_n 0, 1) := by decide +kernel
theorem dX4_distanceByTrying_1 : decode cX4_distanceByTrying 1 = .ok (.iload_n 1, 1) := by decide +kernel
theorem dX4_distanceByTrying_2 : decode cX4_distanceByTrying 2 = .ok (.invokevirtual 122, 3) := by decide +kernel
theorem dX4_distanceByTrying_5 : decode cX4_distanceByTrying 5 = .ok (.astore_n 3, 1) := by decide +kernel
theorem dX4_distanceByTrying_6 : decode cX4_distanceByTrying 6 = .ok (.aload_n 0, 1) := by decide +kernel
theorem dX4_distanceByTrying_7 : decode cX4_distanceByTrying 7 = .ok (.iload_n 2, 1) := by decide +kernel
theorem dX4_distanceByTrying_8 : decode cX4_distanceByTrying 8 = .ok (.invokevirtual 122, 3) := by decide +kernel
theorem dX4_distanceByTrying_11 : decode cX4_distanceByTrying 11 = .ok (.astore 4, 2) := by decide +kernel
theorem dX4_distanceByTrying_13 : decode cX4_distanceByTrying 13 = .ok (.aload_n 3, 1) := by decide +kernel
theorem dX4_distanceByTrying_14 : decode cX4_distanceByTrying 14 = .ok (.aload_n 3, 1) := by decide +kernel
theorem dX4_distanceByTrying_15 : decode cX4_distanceByTrying 15 = .ok (.getfield 126, 3) := by decide +kernel
theorem dX4_distanceByTrying_18 : decode cX4_distanceByTrying 18 = .ok (.aload 4, 2) := by decide +kernel
theorem dX4_distanceByTrying_20 : decode cX4_distanceByTrying 20 = .ok (.aload 4, 2) := by decide +kernel
theorem dX4_distanceByTrying_22 : decode cX4_distanceByTrying 22 = .ok (.getfield 126, 3) := by decide +kernel
theorem dX4_distanceByTrying_25 : decode cX4_distanceByTrying 25 = .ok (.invokestatic 234, 3) := by decide +kernel
theorem dX4_distanceByTrying_28 : decode cX4_distanceByTrying 28 = .ok (.ireturn, 1) := by decide +kernel
theorem dX4_nearest_0 : decode cX4_nearest 0 = .ok (.aload_n 0, 1) := by decide +kernel
theorem dX4_nearest_1 : decode cX4_nearest 1 = .ok (.iload_n 1, 1) := by decide +kernel
theorem dX4_nearest_2 : decode cX4_nearest 2 = .ok (.invokevirtual 122, 3) := by decide +kernel
theorem dX4_nearest_5 : decode cX4_nearest 5 = .ok (.astore_n 2, 1) := by decide +kernel
theorem dX4_nearest_6 : decode cX4_nearest 6 = .ok (.aconst_null, 1) := by decide +kernel
theorem dX4_nearest_7 : decode cX4_nearest 7 = .ok (.astore_n 3, 1) := by decide +kernel
theorem dX4_nearest_8 : decode cX4_nearest 8 = .ok (.iconst 0, 1) := by decide +kernel
theorem dX4_nearest_9 : decode cX4_nearest 9 = .ok (.istore 4, 2) := by decide +kernel
theorem dX4_nearest_11 : decode cX4_nearest 11 = .ok (.iconst 0, 1) := by decide +kernel
theorem dX4_nearest_12 : decode cX4_nearest 12 = .ok (.istore 5, 2) := by decide +kernel
theorem dX4_nearest_14 : decode cX4_nearest 14 = .ok (.iload 5, 2) := by decide +kernel
theorem dX4_nearest_16 : decode cX4_nearest 16 = .ok (.bipush 16, 2) := by decide +kernel
theorem dX4_nearest_18 : decode cX4_nearest 18 = .ok (.if_icmp .ge 66, 3) := by decide +kernel
theorem dX4_nearest_21 : decode cX4_nearest 21 = .ok (.aload_n 0, 1) := by decide +kernel
theorem dX4_nearest_22 : decode cX4_nearest 22 = .ok (.iload 5, 2) := by decide +kernel
theorem dX4_nearest_24 : decode cX4_nearest 24 = .ok (.invokevirtual 238, 3) := by decide +kernel
theorem dX4_nearest_27 : decode cX4_nearest 27 = .ok (.astore 6, 2) := by decide +kernel
theorem dX4_nearest_29 : decode cX4_nearest 29 = .ok (.aload 6, 2) := by decide +kernel
theorem dX4_nearest_31 : decode cX4_nearest 31 = .ok (.ifnull 47, 3) := by decide +kernel
theorem dX4_nearest_34 : decode cX4_nearest 34 = .ok (.aload 6, 2) := by decide +kernel
theorem dX4_nearest_36 : decode cX4_nearest 36 = .ok (.getfield 161, 3) := by decide +kernel
theorem dX4_nearest_39 : decode cX4_nearest 39 = .ok (.ifnonnull 39, 3) := by decide +kernel
theorem dX4_nearest_42 : decode cX4_nearest 42 = .ok (.iload 5, 2) := by decide +kernel
theorem dX4_nearest_44 : decode cX4_nearest 44 = .ok (.aload_n 2, 1) := by decide +kernel
theorem dX4_nearest_45 : decode cX4_nearest 45 = .ok (.getfield 135, 3) := by decide +kernel
theorem dX4_nearest_48 : decode cX4_nearest 48 = .ok (.if_icmp .eq 30, 3) := by decide +kernel
theorem dX4_nearest_51 : decode cX4_nearest 51 = .ok (.aload_n 0, 1) := by decide +kernel
theorem dX4_nearest_52 : decode cX4_nearest 52 = .ok (.aload_n 2, 1) := by decide +kernel
theorem dX4_nearest_53 : decode cX4_nearest 53 = .ok (.aload 6, 2) := by decide +kernel
theorem dX4_nearest_55 : decode cX4_nearest 55 = .ok (.invokevirtual 152, 3) := by decide +kernel
theorem dX4_nearest_58 : decode cX4_nearest 58 = .ok (.istore 7, 2) := by decide +kernel
theorem dX4_nearest_60 : decode cX4_nearest 60 = .ok (.aload_n 3, 1) := by decide +kernel
theorem dX4_nearest_61 : decode cX4_nearest 61 = .ok (.ifnull 10, 3) := by decide +kernel
theorem dX4_nearest_64 : decode cX4_nearest 64 = .ok (.iload 7, 2) := by decide +kernel
theorem dX4_nearest_66 : decode cX4_nearest 66 = .ok (.iload 4, 2) := by decide +kernel
theorem dX4_nearest_68 : decode cX4_nearest 68 = .ok (.if_icmp .ge 10, 3) := by decide +kernel
theorem dX4_nearest_71 : decode cX4_nearest 71 = .ok (.aload 6, 2) := by decide +kernel
theorem dX4_nearest_73 : decode cX4_nearest 73 = .ok (.astore_n 3, 1) := by decide +kernel
theorem dX4_nearest_74 : decode cX4_nearest 74 = .ok (.iload 7, 2) := by decide +kernel
theorem dX4_nearest_76 : decode cX4_nearest 76 = .ok (.istore 4, 2) := by decide +kernel
theorem dX4_nearest_78 : decode cX4_nearest 78 = .ok (.iinc 5 1, 3) := by decide +kernel
theorem dX4_nearest_81 : decode cX4_nearest 81 = .ok (.goto (-67), 3) := by decide +kernel
theorem dX4_nearest_84 : decode cX4_nearest 84 = .ok (.aload_n 3, 1) := by decide +kernel
theorem dX4_nearest_85 : decode cX4_nearest 85 = .ok (.ifnonnull 13, 3) := by decide +kernel
theorem dX4_nearest_88 : decode cX4_nearest 88 = .ok (.new 82, 3) := by decide +kernel
theorem dX4_nearest_91 : decode cX4_nearest 91 = .ok (.dup, 1) := by decide +kernel
theorem dX4_nearest_92 : decode cX4_nearest 92 = .ok (.ldc 241, 2) := by decide +kernel
theorem dX4_nearest_94 : decode cX4_nearest 94 = .ok (.invokespecial 86, 3) := by decide +kernel
theorem dX4_nearest_97 : decode cX4_nearest 97 = .ok (.athrow, 1) := by decide +kernel
theorem dX4_nearest_98 : decode cX4_nearest 98 = .ok (.aload_n 3, 1) := by decide +kernel
theorem dX4_nearest_99 : decode cX4_nearest 99 = .ok (.getfield 135, 3) := by decide +kernel
theorem dX4_nearest_102 : decode cX4_nearest 102 = .ok (.ireturn, 1) := by decide +kernel
theorem dX4_sizeOf_0 : decode cX4_sizeOf 0 = .ok (.aload_n 0, 1) := by decide +kernel
theorem dX4_sizeOf_1 : decode cX4_sizeOf 1 = .ok (.iload_n 1, 1) := by decide +kernel
theorem dX4_sizeOf_2 : decode cX4_sizeOf 2 = .ok (.invokevirtual 186, 3) := by decide +kernel
theorem dX4_sizeOf_5 : decode cX4_sizeOf 5 = .ok (.getfield 243, 3) := by decide +kernel
theorem dX4_sizeOf_8 : decode cX4_sizeOf 8 = .ok (.ireturn, 1) := by decide +kernel
theorem dX4_holds_0 : decode cX4_holds 0 = .ok (.aload_n 0, 1) := by decide +kernel
theorem dX4_holds_1 : decode cX4_holds 1 = .ok (.iload_n 1, 1) := by decide +kernel
theorem dX4_holds_2 : decode cX4_holds 2 = .ok (.invokevirtual 186, 3) := by decide +kernel
theorem dX4_holds_5 : decode cX4_holds 5 = .ok (.astore_n 3, 1) := by decide +kernel
theorem dX4_holds_6 : decode cX4_holds 6 = .ok (.aload_n 0, 1) := by decide +kernel
theorem dX4_holds_7 : decode cX4_holds 7 = .ok (.iload_n 2, 1) := by decide +kernel
theorem dX4_holds_8 : decode cX4_holds 8 = .ok (.invokevirtual 94, 3) := by decide +kernel
theorem dX4_holds_11 : decode cX4_holds 11 = .ok (.pop, 1) := by decide +kernel
theorem dX4_holds_12 : decode cX4_holds 12 = .ok (.aload_n 0, 1) := by decide +kernel
theorem dX4_holds_13 : decode cX4_holds 13 = .ok (.aload_n 3, 1) := by decide +kernel
theorem dX4_holds_14 : decode cX4_holds 14 = .ok (.aload_n 0, 1) := by decide +kernel
theorem dX4_holds_15 : decode cX4_holds 15 = .ok (.getfield 49, 3) := by decide +kernel
theorem dX4_holds_18 : decode cX4_holds 18 = .ok (.invokevirtual 246, 3) := by decide +kernel
theorem dX4_holds_21 : decode cX4_holds 21 = .ok (.iload_n 2, 1) := by decide +kernel
theorem dX4_holds_22 : decode cX4_holds 22 = .ok (.invokestatic 209, 3) := by decide +kernel
theorem dX4_holds_25 : decode cX4_holds 25 = .ok (.ireturn, 1) := by decide +kernel
theorem dX4_matches_0 : decode cX4_matches 0 = .ok (.aload_n 0, 1) := by decide +kernel
theorem dX4_matches_1 : decode cX4_matches 1 = .ok (.aload_n 0, 1) := by decide +kernel
theorem dX4_matches_2 : decode cX4_matches 2 = .ok (.iload_n 1, 1) := by decide +kernel
theorem dX4_matches_3 : decode cX4_matches 3 = .ok (.invokevirtual 182, 3) := by decide +kernel
theorem dX4_matches_6 : decode cX4_matches 6 = .ok (.getfield 215, 3) := by decide +kernel
theorem dX4_matches_9 : decode cX4_matches 9 = .ok (.aload_n 0, 1) := by decide +kernel
theorem dX4_matches_10 : decode cX4_matches 10 = .ok (.getfield 49, 3) := by decide +kernel
theorem dX4_matches_13 : decode cX4_matches 13 = .ok (.invokevirtual 246, 3) := by decide +kernel
theorem dX4_matches_16 : decode cX4_matches 16 = .ok (.invokestatic 250, 3) := by decide +kernel
theorem dX4_matches_19 : decode cX4_matches 19 = .ok (.ireturn, 1) := by decide +kernel
theorem dX4_size_0 : decode cX4_size 0 = .ok (.aload_n 0, 1) := by decide +kernel
theorem dX4_size_1 : decode cX4_size 1 = .ok (.iload_n 1, 1) := by decide +kernel
theorem dX4_size_2 : decode cX4_size 2 = .ok (.invokevirtual 182, 3) := by decide +kernel
theorem dX4_size_5 : decode cX4_size 5 = .ok (.pop, 1) := by decide +kernel
theorem dX4_size_6 : decode cX4_size 6 = .ok (.aload_n 0, 1) := by decide +kernel
theorem dX4_size_7 : decode cX4_size 7 = .ok (.getfield 49, 3) := by decide +kernel
theorem dX4_size_10 : decode cX4_size 10 = .ok (.iload_n 1, 1) := by decide +kernel
theorem dX4_size_11 : decode cX4_size 11 = .ok (.iaload, 1) := by decide +kernel
theorem dX4_size_12 : decode cX4_size 12 = .ok (.invokestatic 250, 3) := by decide +kernel
theorem dX4_size_15 : decode cX4_size 15 = .ok (.ireturn, 1) := by decide +kernel
theorem dX4_trackAt_0 : decode cX4_trackAt 0 = .ok (.aload_n 0, 1) := by decide +kernel
theorem dX4_trackAt_1 : decode cX4_trackAt 1 = .ok (.iload_n 1, 1) := by decide +kernel
theorem dX4_trackAt_2 : decode cX4_trackAt 2 = .ok (.invokevirtual 182, 3) := by decide +kernel
theorem dX4_trackAt_5 : decode cX4_trackAt 5 = .ok (.astore_n 3, 1) := by decide +kernel
theorem dX4_trackAt_6 : decode cX4_trackAt 6 = .ok (.iload_n 2, 1) := by decide +kernel
theorem dX4_trackAt_7 : decode cX4_trackAt 7 = .ok (.ifCond .lt 16, 3) := by decide +kernel
theorem dX4_trackAt_10 : decode cX4_trackAt 10 = .ok (.iload_n 2, 1) := by decide +kernel
theorem dX4_trackAt_11 : decode cX4_trackAt 11 = .ok (.aload_n 0, 1) := by decide +kernel
theorem dX4_trackAt_12 : decode cX4_trackAt 12 = .ok (.getfield 49, 3) := by decide +kernel
theorem dX4_trackAt_15 : decode cX4_trackAt 15 = .ok (.iload_n 1, 1) := by decide +kernel
theorem dX4_trackAt_16 : decode cX4_trackAt 16 = .ok (.iaload, 1) := by decide +kernel
theorem dX4_trackAt_17 : decode cX4_trackAt 17 = .ok (.invokestatic 250, 3) := by decide +kernel
theorem dX4_trackAt_20 : decode cX4_trackAt 20 = .ok (.if_icmp .lt 13, 3) := by decide +kernel
theorem dX4_trackAt_23 : decode cX4_trackAt 23 = .ok (.new 229, 3) := by decide +kernel
theorem dX4_trackAt_26 : decode cX4_trackAt 26 = .ok (.dup, 1) := by decide +kernel
theorem dX4_trackAt_27 : decode cX4_trackAt 27 = .ok (.ldc 255, 2) := by decide +kernel
theorem dX4_trackAt_29 : decode cX4_trackAt 29 = .ok (.invokespecial 233, 3) := by decide +kernel
theorem dX4_trackAt_32 : decode cX4_trackAt 32 = .ok (.athrow, 1) := by decide +kernel
theorem dX4_trackAt_33 : decode cX4_trackAt 33 = .ok (.aload_n 0, 1) := by decide +kernel
theorem dX4_trackAt_34 : decode cX4_trackAt 34 = .ok (.getfield 49, 3) := by decide +kernel
theorem dX4_trackAt_37 : decode cX4_trackAt 37 = .ok (.iload_n 1, 1) := by decide +kernel
theorem dX4_trackAt_38 : decode cX4_trackAt 38 = .ok (.iaload, 1) := by decide +kernel
theorem dX4_trackAt_39 : decode cX4_trackAt 39 = .ok (.istore 4, 2) := by decide +kernel
theorem dX4_trackAt_41 : decode cX4_trackAt 41 = .ok (.aload_n 0, 1) := by decide +kernel
theorem dX4_trackAt_42 : decode cX4_trackAt 42 = .ok (.iload 4, 2) := by decide +kernel
theorem dX4_trackAt_44 : decode cX4_trackAt 44 = .ok (.aload_n 3, 1) := by decide +kernel
theorem dX4_trackAt_45 : decode cX4_trackAt 45 = .ok (.getfield 220, 3) := by decide +kernel
theorem dX4_trackAt_48 : decode cX4_trackAt 48 = .ok (.invokevirtual 257, 3) := by decide +kernel
theorem dX4_trackAt_51 : decode cX4_trackAt 51 = .ok (.istore 5, 2) := by decide +kernel
theorem dX4_trackAt_53 : decode cX4_trackAt 53 = .ok (.iconst 0, 1) := by decide +kernel
theorem dX4_trackAt_54 : decode cX4_trackAt 54 = .ok (.istore 6, 2) := by decide +kernel
theorem dX4_trackAt_56 : decode cX4_trackAt 56 = .ok (.iload 6, 2) := by decide +kernel
theorem dX4_trackAt_58 : decode cX4_trackAt 58 = .ok (.iload_n 2, 1) := by decide +kernel
theorem dX4_trackAt_59 : decode cX4_trackAt 59 = .ok (.if_icmp .ge 32, 3) := by decide +kernel
theorem dX4_trackAt_62 : decode cX4_trackAt 62 = .ok (.iload 4, 2) := by decide +kernel
theorem dX4_trackAt_64 : decode cX4_trackAt 64 = .ok (.iconst 1, 1) := by decide +kernel
theorem dX4_trackAt_65 : decode cX4_trackAt 65 = .ok (.iload 5, 2) := by decide +kernel
theorem dX4_trackAt_67 : decode cX4_trackAt 67 = .ok (.ishl, 1) := by decide +kernel
theorem dX4_trackAt_68 : decode cX4_trackAt 68 = .ok (.iconst (-1), 1) := by decide +kernel
theorem dX4_trackAt_69 : decode cX4_trackAt 69 = .ok (.ixor, 1) := by decide +kernel
theorem dX4_trackAt_70 : decode cX4_trackAt 70 = .ok (.iand, 1) := by decide +kernel
theorem dX4_trackAt_71 : decode cX4_trackAt 71 = .ok (.istore 4, 2) := by decide +kernel
theorem dX4_trackAt_73 : decode cX4_trackAt 73 = .ok (.aload_n 0, 1) := by decide +kernel
theorem dX4_trackAt_74 : decode cX4_trackAt 74 = .ok (.iload 4, 2) := by decide +kernel
theorem dX4_trackAt_76 : decode cX4_trackAt 76 = .ok (.aload_n 3, 1) := by decide +kernel
theorem dX4_trackAt_77 : decode cX4_trackAt 77 = .ok (.getfield 220, 3) := by decide +kernel
theorem dX4_trackAt_80 : decode cX4_trackAt 80 = .ok (.invokevirtual 257, 3) := by decide +kernel
theorem dX4_trackAt_83 : decode cX4_trackAt 83 = .ok (.istore 5, 2) := by decide +kernel
theorem dX4_trackAt_85 : decode cX4_trackAt 85 = .ok (.iinc 6 1, 3) := by decide +kernel
theorem dX4_trackAt_88 : decode cX4_trackAt 88 = .ok (.goto (-32), 3) := by decide +kernel
theorem dX4_trackAt_91 : decode cX4_trackAt 91 = .ok (.iload 5, 2) := by decide +kernel
theorem dX4_trackAt_93 : decode cX4_trackAt 93 = .ok (.ireturn, 1) := by decide +kernel
theorem dX4_contains_0 : decode cX4_contains 0 = .ok (.aload_n 0, 1) := by decide +kernel
theorem dX4_contains_1 : decode cX4_contains 1 = .ok (.iload_n 1, 1) := by decide +kernel
theorem dX4_contains_2 : decode cX4_contains 2 = .ok (.invokevirtual 182, 3) := by decide +kernel
theorem dX4_contains_5 : decode cX4_contains 5 = .ok (.pop, 1) := by decide +kernel
theorem dX4_contains_6 : decode cX4_contains 6 = .ok (.aload_n 0, 1) := by decide +kernel
theorem dX4_contains_7 : decode cX4_contains 7 = .ok (.iload_n 2, 1) := by decide +kernel
theorem dX4_contains_8 : decode cX4_contains 8 = .ok (.invokevirtual 94, 3) := by decide +kernel
theorem dX4_contains_11 : decode cX4_contains 11 = .ok (.pop, 1) := by decide +kernel
theorem dX4_contains_12 : decode cX4_contains 12 = .ok (.aload_n 0, 1) := by decide +kernel
theorem dX4_contains_13 : decode cX4_contains 13 = .ok (.getfield 49, 3) := by decide +kernel
theorem dX4_contains_16 : decode cX4_contains 16 = .ok (.iload_n 1, 1) := by decide +kernel
theorem dX4_contains_17 : decode cX4_contains 17 = .ok (.iaload, 1) := by decide +kernel
theorem dX4_contains_18 : decode cX4_contains 18 = .ok (.iload_n 2, 1) := by decide +kernel
theorem dX4_contains_19 : decode cX4_contains 19 = .ok (.invokestatic 209, 3) := by decide +kernel
theorem dX4_contains_22 : decode cX4_contains 22 = .ok (.ireturn, 1) := by decide +kernel
theorem dX4_containsByRounds_0 : decode cX4_containsByRounds 0 = .ok (.aload_n 0, 1) := by decide +kernel
theorem dX4_containsByRounds_1 : decode cX4_containsByRounds 1 = .ok (.iload_n 1, 1) := by decide +kernel
theorem dX4_containsByRounds_2 : decode cX4_containsByRounds 2 = .ok (.invokevirtual 182, 3) := by decide +kernel
theorem dX4_containsByRounds_5 : decode cX4_containsByRounds 5 = .ok (.pop, 1) := by decide +kernel
theorem dX4_containsByRounds_6 : decode cX4_containsByRounds 6 = .ok (.aload_n 0, 1) := by decide +kernel
theorem dX4_containsByRounds_7 : decode cX4_containsByRounds 7 = .ok (.iload_n 2, 1) := by decide +kernel
theorem dX4_containsByRounds_8 : decode cX4_containsByRounds 8 = .ok (.invokevirtual 94, 3) := by decide +kernel
theorem dX4_containsByRounds_11 : decode cX4_containsByRounds 11 = .ok (.pop, 1) := by decide +kernel
theorem dX4_containsByRounds_12 : decode cX4_containsByRounds 12 = .ok (.aload_n 0, 1) := by decide +kernel
theorem dX4_containsByRounds_13 : decode cX4_containsByRounds 13 = .ok (.invokevirtual 261, 3) := by decide +kernel
theorem dX4_containsByRounds_16 : decode cX4_containsByRounds 16 = .ok (.aload_n 0, 1) := by decide +kernel
theorem dX4_containsByRounds_17 : decode cX4_containsByRounds 17 = .ok (.getfield 56, 3) := by decide +kernel
theorem dX4_containsByRounds_20 : decode cX4_containsByRounds 20 = .ok (.iload_n 1, 1) := by decide +kernel
theorem dX4_containsByRounds_21 : decode cX4_containsByRounds 21 = .ok (.iaload, 1) := by decide +kernel
theorem dX4_containsByRounds_22 : decode cX4_containsByRounds 22 = .ok (.iload_n 2, 1) := by decide +kernel
theorem dX4_containsByRounds_23 : decode cX4_containsByRounds 23 = .ok (.invokestatic 209, 3) := by decide +kernel
theorem dX4_containsByRounds_26 : decode cX4_containsByRounds 26 = .ok (.ireturn, 1) := by decide +kernel
theorem dX4_secondsOf_0 : decode cX4_secondsOf 0 = .ok (.aload_n 0, 1) := by decide +kernel
theorem dX4_secondsOf_1 : decode cX4_secondsOf 1 = .ok (.iload_n 1, 1) := by decide +kernel
theorem dX4_secondsOf_2 : decode cX4_secondsOf 2 = .ok (.invokevirtual 182, 3) := by decide +kernel
theorem dX4_secondsOf_5 : decode cX4_secondsOf 5 = .ok (.pop, 1) := by decide +kernel
theorem dX4_secondsOf_6 : decode cX4_secondsOf 6 = .ok (.aload_n 0, 1) := by decide +kernel
theorem dX4_secondsOf_7 : decode cX4_secondsOf 7 = .ok (.aload_n 0, 1) := by decide +kernel
theorem dX4_secondsOf_8 : decode cX4_secondsOf 8 = .ok (.getfield 49, 3) := by decide +kernel
theorem dX4_secondsOf_11 : decode cX4_secondsOf 11 = .ok (.iload_n 1, 1) := by decide +kernel
theorem dX4_secondsOf_12 : decode cX4_secondsOf 12 = .ok (.iaload, 1) := by decide +kernel
theorem dX4_secondsOf_13 : decode cX4_secondsOf 13 = .ok (.invokevirtual 264, 3) := by decide +kernel
theorem dX4_secondsOf_16 : decode cX4_secondsOf 16 = .ok (.ireturn, 1) := by decide +kernel
theorem dX4_common_0 : decode cX4_common 0 = .ok (.aload_n 0, 1) := by decide +kernel
theorem dX4_common_1 : decode cX4_common 1 = .ok (.iload_n 1, 1) := by decide +kernel
theorem dX4_common_2 : decode cX4_common 2 = .ok (.invokevirtual 182, 3) := by decide +kernel
theorem dX4_common_5 : decode cX4_common 5 = .ok (.pop, 1) := by decide +kernel
theorem dX4_common_6 : decode cX4_common 6 = .ok (.aload_n 0, 1) := by decide +kernel
theorem dX4_common_7 : decode cX4_common 7 = .ok (.iload_n 2, 1) := by decide +kernel
theorem dX4_common_8 : decode cX4_common 8 = .ok (.invokevirtual 182, 3) := by decide +kernel
theorem dX4_common_11 : decode cX4_common 11 = .ok (.pop, 1) := by decide +kernel
theorem dX4_common_12 : decode cX4_common 12 = .ok (.aload_n 0, 1) := by decide +kernel
theorem dX4_common_13 : decode cX4_common 13 = .ok (.getfield 49, 3) := by decide +kernel
theorem dX4_common_16 : decode cX4_common 16 = .ok (.iload_n 1, 1) := by decide +kernel
theorem dX4_common_17 : decode cX4_common 17 = .ok (.iaload, 1) := by decide +kernel
theorem dX4_common_18 : decode cX4_common 18 = .ok (.aload_n 0, 1) := by decide +kernel
theorem dX4_common_19 : decode cX4_common 19 = .ok (.getfield 49, 3) := by decide +kernel
theorem dX4_common_22 : decode cX4_common 22 = .ok (.iload_n 2, 1) := by decide +kernel
theorem dX4_common_23 : decode cX4_common 23 = .ok (.iaload, 1) := by decide +kernel
theorem dX4_common_24 : decode cX4_common 24 = .ok (.iand, 1) := by decide +kernel
theorem dX4_common_25 : decode cX4_common 25 = .ok (.invokestatic 250, 3) := by decide +kernel
theorem dX4_common_28 : decode cX4_common 28 = .ok (.ireturn, 1) := by decide +kernel
theorem dX4_dependsOn_0 : decode cX4_dependsOn 0 = .ok (.aload_n 0, 1) := by decide +kernel
theorem dX4_dependsOn_1 : decode cX4_dependsOn 1 = .ok (.iload_n 1, 1) := by decide +kernel
theorem dX4_dependsOn_2 : decode cX4_dependsOn 2 = .ok (.invokevirtual 182, 3) := by decide +kernel
theorem dX4_dependsOn_5 : decode cX4_dependsOn 5 = .ok (.astore_n 3, 1) := by decide +kernel
theorem dX4_dependsOn_6 : decode cX4_dependsOn 6 = .ok (.aload_n 0, 1) := by decide +kernel
theorem dX4_dependsOn_7 : decode cX4_dependsOn 7 = .ok (.iload_n 2, 1) := by decide +kernel
theorem dX4_dependsOn_8 : decode cX4_dependsOn 8 = .ok (.invokevirtual 182, 3) := by decide +kernel
theorem dX4_dependsOn_11 : decode cX4_dependsOn 11 = .ok (.pop, 1) := by decide +kernel
theorem dX4_dependsOn_12 : decode cX4_dependsOn 12 = .ok (.aload_n 0, 1) := by decide +kernel
theorem dX4_dependsOn_13 : decode cX4_dependsOn 13 = .ok (.aload_n 3, 1) := by decide +kernel
theorem dX4_dependsOn_14 : decode cX4_dependsOn 14 = .ok (.getfield 215, 3) := by decide +kernel
theorem dX4_dependsOn_17 : decode cX4_dependsOn 17 = .ok (.getfield 202, 3) := by decide +kernel
theorem dX4_dependsOn_20 : decode cX4_dependsOn 20 = .ok (.invokevirtual 205, 3) := by decide +kernel
theorem dX4_dependsOn_23 : decode cX4_dependsOn 23 = .ok (.iload_n 2, 1) := by decide +kernel
theorem dX4_dependsOn_24 : decode cX4_dependsOn 24 = .ok (.invokestatic 209, 3) := by decide +kernel
theorem dX4_dependsOn_27 : decode cX4_dependsOn 27 = .ok (.ireturn, 1) := by decide +kernel
theorem dX4_mixes_0 : decode cX4_mixes 0 = .ok (.aload_n 0, 1) := by decide +kernel
theorem dX4_mixes_1 : decode cX4_mixes 1 = .ok (.iload_n 1, 1) := by decide +kernel
theorem dX4_mixes_2 : decode cX4_mixes 2 = .ok (.invokevirtual 182, 3) := by decide +kernel
theorem dX4_mixes_5 : decode cX4_mixes 5 = .ok (.pop, 1) := by decide +kernel
theorem dX4_mixes_6 : decode cX4_mixes 6 = .ok (.lconst 1, 1) := by decide +kernel
theorem dX4_mixes_7 : decode cX4_mixes 7 = .ok (.lstore_n 2, 1) := by decide +kernel
theorem dX4_mixes_8 : decode cX4_mixes 8 = .ok (.iconst 0, 1) := by decide +kernel
theorem dX4_mixes_9 : decode cX4_mixes 9 = .ok (.istore 4, 2) := by decide +kernel
theorem dX4_mixes_11 : decode cX4_mixes 11 = .ok (.iload 4, 2) := by decide +kernel
theorem dX4_mixes_13 : decode cX4_mixes 13 = .ok (.bipush 24, 2) := by decide +kernel
theorem dX4_mixes_15 : decode cX4_mixes 15 = .ok (.if_icmp .ge 66, 3) := by decide +kernel
theorem dX4_mixes_18 : decode cX4_mixes 18 = .ok (.aload_n 0, 1) := by decide +kernel
theorem dX4_mixes_19 : decode cX4_mixes 19 = .ok (.iload 4, 2) := by decide +kernel
theorem dX4_mixes_21 : decode cX4_mixes 21 = .ok (.invokevirtual 172, 3) := by decide +kernel
theorem dX4_mixes_24 : decode cX4_mixes 24 = .ok (.astore 5, 2) := by decide +kernel
theorem dX4_mixes_26 : decode cX4_mixes 26 = .ok (.aload 5, 2) := by decide +kernel
theorem dX4_mixes_28 : decode cX4_mixes 28 = .ok (.ifnull 47, 3) := by decide +kernel
theorem dX4_mixes_31 : decode cX4_mixes 31 = .ok (.aload_n 0, 1) := by decide +kernel
theorem dX4_mixes_32 : decode cX4_mixes 32 = .ok (.getfield 49, 3) := by decide +kernel
theorem dX4_mixes_35 : decode cX4_mixes 35 = .ok (.iload_n 1, 1) := by decide +kernel
theorem dX4_mixes_36 : decode cX4_mixes 36 = .ok (.iaload, 1) := by decide +kernel
theorem dX4_mixes_37 : decode cX4_mixes 37 = .ok (.iload 4, 2) := by decide +kernel
theorem dX4_mixes_39 : decode cX4_mixes 39 = .ok (.invokestatic 209, 3) := by decide +kernel
theorem dX4_mixes_42 : decode cX4_mixes 42 = .ok (.ifCond .eq 33, 3) := by decide +kernel
theorem dX4_mixes_45 : decode cX4_mixes 45 = .ok (.lload_n 2, 1) := by decide +kernel
theorem dX4_mixes_46 : decode cX4_mixes 46 = .ok (.aload 5, 2) := by decide +kernel
theorem dX4_mixes_48 : decode cX4_mixes 48 = .ok (.getfield 104, 3) := by decide +kernel
theorem dX4_mixes_51 : decode cX4_mixes 51 = .ok (.iconst 1, 1) := by decide +kernel
theorem dX4_mixes_52 : decode cX4_mixes 52 = .ok (.iadd, 1) := by decide +kernel
theorem dX4_mixes_53 : decode cX4_mixes 53 = .ok (.i2l, 1) := by decide +kernel
theorem dX4_mixes_54 : decode cX4_mixes 54 = .ok (.lmul, 1) := by decide +kernel
theorem dX4_mixes_55 : decode cX4_mixes 55 = .ok (.lstore_n 2, 1) := by decide +kernel
theorem dX4_mixes_56 : decode cX4_mixes 56 = .ok (.lload_n 2, 1) := by decide +kernel
theorem dX4_mixes_57 : decode cX4_mixes 57 = .ok (.ldc2_w 267, 3) := by decide +kernel
theorem dX4_mixes_60 : decode cX4_mixes 60 = .ok (.lcmp, 1) := by decide +kernel
theorem dX4_mixes_61 : decode cX4_mixes 61 = .ok (.ifCond .le 14, 3) := by decide +kernel
theorem dX4_mixes_64 : decode cX4_mixes 64 = .ok (.new 269, 3) := by decide +kernel
theorem dX4_mixes_67 : decode cX4_mixes 67 = .ok (.dup, 1) := by decide +kernel
theorem dX4_mixes_68 : decode cX4_mixes 68 = .ok (.ldc_w 271, 3) := by decide +kernel
theorem dX4_mixes_71 : decode cX4_mixes 71 = .ok (.invokespecial 273, 3) := by decide +kernel
theorem dX4_mixes_74 : decode cX4_mixes 74 = .ok (.athrow, 1) := by decide +kernel
theorem dX4_mixes_75 : decode cX4_mixes 75 = .ok (.iinc 4 1, 3) := by decide +kernel
theorem dX4_mixes_78 : decode cX4_mixes 78 = .ok (.goto (-67), 3) := by decide +kernel
theorem dX4_mixes_81 : decode cX4_mixes 81 = .ok (.lload_n 2, 1) := by decide +kernel
theorem dX4_mixes_82 : decode cX4_mixes 82 = .ok (.l2i, 1) := by decide +kernel
theorem dX4_mixes_83 : decode cX4_mixes 83 = .ok (.ireturn, 1) := by decide +kernel
theorem dX4_listedShare_0 : decode cX4_listedShare 0 = .ok (.aload_n 0, 1) := by decide +kernel
theorem dX4_listedShare_1 : decode cX4_listedShare 1 = .ok (.getfield 37, 3) := by decide +kernel
theorem dX4_listedShare_4 : decode cX4_listedShare 4 = .ok (.ifCond .ne 14, 3) := by decide +kernel
theorem dX4_listedShare_7 : decode cX4_listedShare 7 = .ok (.new 269, 3) := by decide +kernel
theorem dX4_listedShare_10 : decode cX4_listedShare 10 = .ok (.dup, 1) := by decide +kernel
theorem dX4_listedShare_11 : decode cX4_listedShare 11 = .ok (.ldc_w 274, 3) := by decide +kernel
theorem dX4_listedShare_14 : decode cX4_listedShare 14 = .ok (.invokespecial 273, 3) := by decide +kernel
theorem dX4_listedShare_17 : decode cX4_listedShare 17 = .ok (.athrow, 1) := by decide +kernel
theorem dX4_listedShare_18 : decode cX4_listedShare 18 = .ok (.iconst 0, 1) := by decide +kernel
theorem dX4_listedShare_19 : decode cX4_listedShare 19 = .ok (.istore_n 1, 1) := by decide +kernel
theorem dX4_listedShare_20 : decode cX4_listedShare 20 = .ok (.iconst 0, 1) := by decide +kernel
theorem dX4_listedShare_21 : decode cX4_listedShare 21 = .ok (.istore_n 2, 1) := by decide +kernel
theorem dX4_listedShare_22 : decode cX4_listedShare 22 = .ok (.iload_n 2, 1) := by decide +kernel
theorem dX4_listedShare_23 : decode cX4_listedShare 23 = .ok (.bipush 8, 2) := by decide +kernel
theorem dX4_listedShare_25 : decode cX4_listedShare 25 = .ok (.if_icmp .ge 18, 3) := by decide +kernel
theorem dX4_listedShare_28 : decode cX4_listedShare 28 = .ok (.iload_n 1, 1) := by decide +kernel
theorem dX4_listedShare_29 : decode cX4_listedShare 29 = .ok (.aload_n 0, 1) := by decide +kernel
theorem dX4_listedShare_30 : decode cX4_listedShare 30 = .ok (.getfield 49, 3) := by decide +kernel
theorem dX4_listedShare_33 : decode cX4_listedShare 33 = .ok (.iload_n 2, 1) := by decide +kernel
theorem dX4_listedShare_34 : decode cX4_listedShare 34 = .ok (.iaload, 1) := by decide +kernel
theorem dX4_listedShare_35 : decode cX4_listedShare 35 = .ok (.ior, 1) := by decide +kernel
theorem dX4_listedShare_36 : decode cX4_listedShare 36 = .ok (.istore_n 1, 1) := by decide +kernel
theorem dX4_listedShare_37 : decode cX4_listedShare 37 = .ok (.iinc 2 1, 3) := by decide +kernel
theorem dX4_listedShare_40 : decode cX4_listedShare 40 = .ok (.goto (-18), 3) := by decide +kernel
theorem dX4_listedShare_43 : decode cX4_listedShare 43 = .ok (.iload_n 1, 1) := by decide +kernel
theorem dX4_listedShare_44 : decode cX4_listedShare 44 = .ok (.invokestatic 250, 3) := by decide +kernel
theorem dX4_listedShare_47 : decode cX4_listedShare 47 = .ok (.i2f, 1) := by decide +kernel
theorem dX4_listedShare_48 : decode cX4_listedShare 48 = .ok (.aload_n 0, 1) := by decide +kernel
theorem dX4_listedShare_49 : decode cX4_listedShare 49 = .ok (.getfield 37, 3) := by decide +kernel
theorem dX4_listedShare_52 : decode cX4_listedShare 52 = .ok (.i2f, 1) := by decide +kernel
theorem dX4_listedShare_53 : decode cX4_listedShare 53 = .ok (.fdiv, 1) := by decide +kernel
theorem dX4_listedShare_54 : decode cX4_listedShare 54 = .ok (.freturn, 1) := by decide +kernel
theorem dX4_meanLength_0 : decode cX4_meanLength 0 = .ok (.aload_n 0, 1) := by decide +kernel
theorem dX4_meanLength_1 : decode cX4_meanLength 1 = .ok (.iload_n 1, 1) := by decide +kernel
theorem dX4_meanLength_2 : decode cX4_meanLength 2 = .ok (.invokevirtual 182, 3) := by decide +kernel
theorem dX4_meanLength_5 : decode cX4_meanLength 5 = .ok (.pop, 1) := by decide +kernel
theorem dX4_meanLength_6 : decode cX4_meanLength 6 = .ok (.aload_n 0, 1) := by decide +kernel
theorem dX4_meanLength_7 : decode cX4_meanLength 7 = .ok (.getfield 49, 3) := by decide +kernel
theorem dX4_meanLength_10 : decode cX4_meanLength 10 = .ok (.iload_n 1, 1) := by decide +kernel
theorem dX4_meanLength_11 : decode cX4_meanLength 11 = .ok (.iaload, 1) := by decide +kernel
theorem dX4_meanLength_12 : decode cX4_meanLength 12 = .ok (.invokestatic 250, 3) := by decide +kernel
theorem dX4_meanLength_15 : decode cX4_meanLength 15 = .ok (.istore_n 2, 1) := by decide +kernel
theorem dX4_meanLength_16 : decode cX4_meanLength 16 = .ok (.iload_n 2, 1) := by decide +kernel
theorem dX4_meanLength_17 : decode cX4_meanLength 17 = .ok (.ifCond .ne 14, 3) := by decide +kernel
theorem dX4_meanLength_20 : decode cX4_meanLength 20 = .ok (.new 269, 3) := by decide +kernel
theorem dX4_meanLength_23 : decode cX4_meanLength 23 = .ok (.dup, 1) := by decide +kernel
theorem dX4_meanLength_24 : decode cX4_meanLength 24 = .ok (.ldc_w 276, 3) := by decide +kernel
theorem dX4_meanLength_27 : decode cX4_meanLength 27 = .ok (.invokespecial 273, 3) := by decide +kernel
theorem dX4_meanLength_30 : decode cX4_meanLength 30 = .ok (.athrow, 1) := by decide +kernel
theorem dX4_meanLength_31 : decode cX4_meanLength 31 = .ok (.aload_n 0, 1) := by decide +kernel
theorem dX4_meanLength_32 : decode cX4_meanLength 32 = .ok (.aload_n 0, 1) := by decide +kernel
theorem dX4_meanLength_33 : decode cX4_meanLength 33 = .ok (.getfield 49, 3) := by decide +kernel
theorem dX4_meanLength_36 : decode cX4_meanLength 36 = .ok (.iload_n 1, 1) := by decide +kernel
theorem dX4_meanLength_37 : decode cX4_meanLength 37 = .ok (.iaload, 1) := by decide +kernel
theorem dX4_meanLength_38 : decode cX4_meanLength 38 = .ok (.invokevirtual 264, 3) := by decide +kernel
theorem dX4_meanLength_41 : decode cX4_meanLength 41 = .ok (.i2d, 1) := by decide +kernel
theorem dX4_meanLength_42 : decode cX4_meanLength 42 = .ok (.iload_n 2, 1) := by decide +kernel
theorem dX4_meanLength_43 : decode cX4_meanLength 43 = .ok (.i2d, 1) := by decide +kernel
theorem dX4_meanLength_44 : decode cX4_meanLength 44 = .ok (.ddiv, 1) := by decide +kernel
theorem dX4_meanLength_45 : decode cX4_meanLength 45 = .ok (.dreturn, 1) := by decide +kernel
theorem dX4_trackOrNull_0 : decode cX4_trackOrNull 0 = .ok (.iload_n 1, 1) := by decide +kernel
theorem dX4_trackOrNull_1 : decode cX4_trackOrNull 1 = .ok (.ifCond .lt 18, 3) := by decide +kernel
theorem dX4_trackOrNull_4 : decode cX4_trackOrNull 4 = .ok (.iload_n 1, 1) := by decide +kernel
theorem dX4_trackOrNull_5 : decode cX4_trackOrNull 5 = .ok (.bipush 24, 2) := by decide +kernel
theorem dX4_trackOrNull_7 : decode cX4_trackOrNull 7 = .ok (.if_icmp .ge 12, 3) := by decide +kernel
theorem dX4_trackOrNull_10 : decode cX4_trackOrNull 10 = .ok (.aload_n 0, 1) := by decide +kernel
theorem dX4_trackOrNull_11 : decode cX4_trackOrNull 11 = .ok (.getfield 11, 3) := by decide +kernel
theorem dX4_trackOrNull_14 : decode cX4_trackOrNull 14 = .ok (.iload_n 1, 1) := by decide +kernel
theorem dX4_trackOrNull_15 : decode cX4_trackOrNull 15 = .ok (.aaload, 1) := by decide +kernel
theorem dX4_trackOrNull_16 : decode cX4_trackOrNull 16 = .ok (.goto 4, 3) := by decide +kernel
theorem dX4_trackOrNull_19 : decode cX4_trackOrNull 19 = .ok (.aconst_null, 1) := by decide +kernel
theorem dX4_trackOrNull_20 : decode cX4_trackOrNull 20 = .ok (.areturn, 1) := by decide +kernel
theorem dX4_needTrack_0 : decode cX4_needTrack 0 = .ok (.aload_n 0, 1) := by decide +kernel
theorem dX4_needTrack_1 : decode cX4_needTrack 1 = .ok (.iload_n 1, 1) := by decide +kernel
theorem dX4_needTrack_2 : decode cX4_needTrack 2 = .ok (.invokevirtual 172, 3) := by decide +kernel
theorem dX4_needTrack_5 : decode cX4_needTrack 5 = .ok (.astore_n 2, 1) := by decide +kernel
theorem dX4_needTrack_6 : decode cX4_needTrack 6 = .ok (.aload_n 2, 1) := by decide +kernel
theorem dX4_needTrack_7 : decode cX4_needTrack 7 = .ok (.ifnonnull 14, 3) := by decide +kernel
theorem dX4_needTrack_10 : decode cX4_needTrack 10 = .ok (.new 278, 3) := by decide +kernel
theorem dX4_needTrack_13 : decode cX4_needTrack 13 = .ok (.dup, 1) := by decide +kernel
theorem dX4_needTrack_14 : decode cX4_needTrack 14 = .ok (.ldc_w 280, 3) := by decide +kernel
theorem dX4_needTrack_17 : decode cX4_needTrack 17 = .ok (.invokespecial 282, 3) := by decide +kernel
theorem dX4_needTrack_20 : decode cX4_needTrack 20 = .ok (.athrow, 1) := by decide +kernel
theorem dX4_needTrack_21 : decode cX4_needTrack 21 = .ok (.aload_n 2, 1) := by decide +kernel
theorem dX4_needTrack_22 : decode cX4_needTrack 22 = .ok (.areturn, 1) := by decide +kernel
theorem dX4_tagOrNull_0 : decode cX4_tagOrNull 0 = .ok (.iload_n 1, 1) := by decide +kernel
theorem dX4_tagOrNull_1 : decode cX4_tagOrNull 1 = .ok (.ifCond .lt 18, 3) := by decide +kernel
theorem dX4_tagOrNull_4 : decode cX4_tagOrNull 4 = .ok (.iload_n 1, 1) := by decide +kernel
theorem dX4_tagOrNull_5 : decode cX4_tagOrNull 5 = .ok (.bipush 16, 2) := by decide +kernel
theorem dX4_tagOrNull_7 : decode cX4_tagOrNull 7 = .ok (.if_icmp .ge 12, 3) := by decide +kernel
theorem dX4_tagOrNull_10 : decode cX4_tagOrNull 10 = .ok (.aload_n 0, 1) := by decide +kernel
theorem dX4_tagOrNull_11 : decode cX4_tagOrNull 11 = .ok (.getfield 17, 3) := by decide +kernel
theorem dX4_tagOrNull_14 : decode cX4_tagOrNull 14 = .ok (.iload_n 1, 1) := by decide +kernel
theorem dX4_tagOrNull_15 : decode cX4_tagOrNull 15 = .ok (.aaload, 1) := by decide +kernel
theorem dX4_tagOrNull_16 : decode cX4_tagOrNull 16 = .ok (.goto 4, 3) := by decide +kernel
theorem dX4_tagOrNull_19 : decode cX4_tagOrNull 19 = .ok (.aconst_null, 1) := by decide +kernel
theorem dX4_tagOrNull_20 : decode cX4_tagOrNull 20 = .ok (.areturn, 1) := by decide +kernel
theorem dX4_needTag_0 : decode cX4_needTag 0 = .ok (.aload_n 0, 1) := by decide +kernel
theorem dX4_needTag_1 : decode cX4_needTag 1 = .ok (.iload_n 1, 1) := by decide +kernel
theorem dX4_needTag_2 : decode cX4_needTag 2 = .ok (.invokevirtual 238, 3) := by decide +kernel
theorem dX4_needTag_5 : decode cX4_needTag 5 = .ok (.astore_n 2, 1) := by decide +kernel
theorem dX4_needTag_6 : decode cX4_needTag 6 = .ok (.aload_n 2, 1) := by decide +kernel
theorem dX4_needTag_7 : decode cX4_needTag 7 = .ok (.ifnull 10, 3) := by decide +kernel
theorem dX4_needTag_10 : decode cX4_needTag 10 = .ok (.aload_n 2, 1) := by decide +kernel
theorem dX4_needTag_11 : decode cX4_needTag 11 = .ok (.getfield 161, 3) := by decide +kernel
theorem dX4_needTag_14 : decode cX4_needTag 14 = .ok (.ifnull 14, 3) := by decide +kernel
theorem dX4_needTag_17 : decode cX4_needTag 17 = .ok (.new 278, 3) := by decide +kernel
theorem dX4_needTag_20 : decode cX4_needTag 20 = .ok (.dup, 1) := by decide +kernel
theorem dX4_needTag_21 : decode cX4_needTag 21 = .ok (.ldc_w 283, 3) := by decide +kernel
theorem dX4_needTag_24 : decode cX4_needTag 24 = .ok (.invokespecial 282, 3) := by decide +kernel
theorem dX4_needTag_27 : decode cX4_needTag 27 = .ok (.athrow, 1) := by decide +kernel
theorem dX4_needTag_28 : decode cX4_needTag 28 = .ok (.aload_n 2, 1) := by decide +kernel
theorem dX4_needTag_29 : decode cX4_needTag 29 = .ok (.areturn, 1) := by decide +kernel
theorem dX4_needRule_0 : decode cX4_needRule 0 = .ok (.iload_n 1, 1) := by decide +kernel
theorem dX4_needRule_1 : decode cX4_needRule 1 = .ok (.ifCond .lt 18, 3) := by decide +kernel
theorem dX4_needRule_4 : decode cX4_needRule 4 = .ok (.iload_n 1, 1) := by decide +kernel
theorem dX4_needRule_5 : decode cX4_needRule 5 = .ok (.bipush 40, 2) := by decide +kernel
theorem dX4_needRule_7 : decode cX4_needRule 7 = .ok (.if_icmp .ge 12, 3) := by decide +kernel
theorem dX4_needRule_10 : decode cX4_needRule 10 = .ok (.aload_n 0, 1) := by decide +kernel
theorem dX4_needRule_11 : decode cX4_needRule 11 = .ok (.getfield 23, 3) := by decide +kernel
theorem dX4_needRule_14 : decode cX4_needRule 14 = .ok (.iload_n 1, 1) := by decide +kernel
theorem dX4_needRule_15 : decode cX4_needRule 15 = .ok (.aaload, 1) := by decide +kernel
theorem dX4_needRule_16 : decode cX4_needRule 16 = .ok (.goto 4, 3) := by decide +kernel
theorem dX4_needRule_19 : decode cX4_needRule 19 = .ok (.aconst_null, 1) := by decide +kernel
theorem dX4_needRule_20 : decode cX4_needRule 20 = .ok (.astore_n 2, 1) := by decide +kernel
theorem dX4_needRule_21 : decode cX4_needRule 21 = .ok (.aload_n 2, 1) := by decide +kernel
theorem dX4_needRule_22 : decode cX4_needRule 22 = .ok (.ifnonnull 14, 3) := by decide +kernel
theorem dX4_needRule_25 : decode cX4_needRule 25 = .ok (.new 278, 3) := by decide +kernel
theorem dX4_needRule_28 : decode cX4_needRule 28 = .ok (.dup, 1) := by decide +kernel
theorem dX4_needRule_29 : decode cX4_needRule 29 = .ok (.ldc_w 285, 3) := by decide +kernel
theorem dX4_needRule_32 : decode cX4_needRule 32 = .ok (.invokespecial 282, 3) := by decide +kernel
theorem dX4_needRule_35 : decode cX4_needRule 35 = .ok (.athrow, 1) := by decide +kernel
theorem dX4_needRule_36 : decode cX4_needRule 36 = .ok (.aload_n 2, 1) := by decide +kernel
theorem dX4_needRule_37 : decode cX4_needRule 37 = .ok (.areturn, 1) := by decide +kernel
theorem dX4_listOrNull_0 : decode cX4_listOrNull 0 = .ok (.iload_n 1, 1) := by decide +kernel
theorem dX4_listOrNull_1 : decode cX4_listOrNull 1 = .ok (.ifCond .lt 18, 3) := by decide +kernel
theorem dX4_listOrNull_4 : decode cX4_listOrNull 4 = .ok (.iload_n 1, 1) := by decide +kernel
theorem dX4_listOrNull_5 : decode cX4_listOrNull 5 = .ok (.bipush 8, 2) := by decide +kernel
theorem dX4_listOrNull_7 : decode cX4_listOrNull 7 = .ok (.if_icmp .ge 12, 3) := by decide +kernel
theorem dX4_listOrNull_10 : decode cX4_listOrNull 10 = .ok (.aload_n 0, 1) := by decide +kernel
theorem dX4_listOrNull_11 : decode cX4_listOrNull 11 = .ok (.getfield 29, 3) := by decide +kernel
theorem dX4_listOrNull_14 : decode cX4_listOrNull 14 = .ok (.iload_n 1, 1) := by decide +kernel
theorem dX4_listOrNull_15 : decode cX4_listOrNull 15 = .ok (.aaload, 1) := by decide +kernel
theorem dX4_listOrNull_16 : decode cX4_listOrNull 16 = .ok (.goto 4, 3) := by decide +kernel
theorem dX4_listOrNull_19 : decode cX4_listOrNull 19 = .ok (.aconst_null, 1) := by decide +kernel
theorem dX4_listOrNull_20 : decode cX4_listOrNull 20 = .ok (.areturn, 1) := by decide +kernel
theorem dX4_needList_0 : decode cX4_needList 0 = .ok (.aload_n 0, 1) := by decide +kernel
theorem dX4_needList_1 : decode cX4_needList 1 = .ok (.iload_n 1, 1) := by decide +kernel
theorem dX4_needList_2 : decode cX4_needList 2 = .ok (.invokevirtual 287, 3) := by decide +kernel
theorem dX4_needList_5 : decode cX4_needList 5 = .ok (.astore_n 2, 1) := by decide +kernel
theorem dX4_needList_6 : decode cX4_needList 6 = .ok (.aload_n 2, 1) := by decide +kernel
theorem dX4_needList_7 : decode cX4_needList 7 = .ok (.ifnonnull 14, 3) := by decide +kernel
theorem dX4_needList_10 : decode cX4_needList 10 = .ok (.new 278, 3) := by decide +kernel
theorem dX4_needList_13 : decode cX4_needList 13 = .ok (.dup, 1) := by decide +kernel
theorem dX4_needList_14 : decode cX4_needList 14 = .ok (.ldc_w 290, 3) := by decide +kernel
theorem dX4_needList_17 : decode cX4_needList 17 = .ok (.invokespecial 282, 3) := by decide +kernel
theorem dX4_needList_20 : decode cX4_needList 20 = .ok (.athrow, 1) := by decide +kernel
theorem dX4_needList_21 : decode cX4_needList 21 = .ok (.aload_n 2, 1) := by decide +kernel
theorem dX4_needList_22 : decode cX4_needList 22 = .ok (.areturn, 1) := by decide +kernel
theorem dX4_needRange_0 : decode cX4_needRange 0 = .ok (.iload_n 0, 1) := by decide +kernel
theorem dX4_needRange_1 : decode cX4_needRange 1 = .ok (.iload_n 1, 1) := by decide +kernel
theorem dX4_needRange_2 : decode cX4_needRange 2 = .ok (.if_icmp .lt 8, 3) := by decide +kernel
theorem dX4_needRange_5 : decode cX4_needRange 5 = .ok (.iload_n 0, 1) := by decide +kernel
theorem dX4_needRange_6 : decode cX4_needRange 6 = .ok (.iload_n 2, 1) := by decide +kernel
theorem dX4_needRange_7 : decode cX4_needRange 7 = .ok (.if_icmp .le 14, 3) := by decide +kernel
theorem dX4_needRange_10 : decode cX4_needRange 10 = .ok (.new 147, 3) := by decide +kernel
theorem dX4_needRange_13 : decode cX4_needRange 13 = .ok (.dup, 1) := by decide +kernel
theorem dX4_needRange_14 : decode cX4_needRange 14 = .ok (.ldc_w 292, 3) := by decide +kernel
theorem dX4_needRange_17 : decode cX4_needRange 17 = .ok (.invokespecial 151, 3) := by decide +kernel
theorem dX4_needRange_20 : decode cX4_needRange 20 = .ok (.athrow, 1) := by decide +kernel
theorem dX4_needRange_21 : decode cX4_needRange 21 = .ok (.return_, 1) := by decide +kernel
theorem dX4_needOrder_0 : decode cX4_needOrder 0 = .ok (.iload_n 0, 1) := by decide +kernel
theorem dX4_needOrder_1 : decode cX4_needOrder 1 = .ok (.bipush 115, 2) := by decide +kernel
theorem dX4_needOrder_3 : decode cX4_needOrder 3 = .ok (.if_icmp .eq 32, 3) := by decide +kernel
theorem dX4_needOrder_6 : decode cX4_needOrder 6 = .ok (.iload_n 0, 1) := by decide +kernel
theorem dX4_needOrder_7 : decode cX4_needOrder 7 = .ok (.bipush 114, 2) := by decide +kernel
theorem dX4_needOrder_9 : decode cX4_needOrder 9 = .ok (.if_icmp .eq 26, 3) := by decide +kernel
theorem dX4_needOrder_12 : decode cX4_needOrder 12 = .ok (.iload_n 0, 1) := by decide +kernel
theorem dX4_needOrder_13 : decode cX4_needOrder 13 = .ok (.bipush 112, 2) := by decide +kernel
theorem dX4_needOrder_15 : decode cX4_needOrder 15 = .ok (.if_icmp .eq 20, 3) := by decide +kernel
theorem dX4_needOrder_18 : decode cX4_needOrder 18 = .ok (.iload_n 0, 1) := by decide +kernel
theorem dX4_needOrder_19 : decode cX4_needOrder 19 = .ok (.bipush 110, 2) := by decide +kernel
theorem dX4_needOrder_21 : decode cX4_needOrder 21 = .ok (.if_icmp .eq 14, 3) := by decide +kernel
theorem dX4_needOrder_24 : decode cX4_needOrder 24 = .ok (.new 147, 3) := by decide +kernel
theorem dX4_needOrder_27 : decode cX4_needOrder 27 = .ok (.dup, 1) := by decide +kernel
theorem dX4_needOrder_28 : decode cX4_needOrder 28 = .ok (.ldc_w 294, 3) := by decide +kernel
theorem dX4_needOrder_31 : decode cX4_needOrder 31 = .ok (.invokespecial 151, 3) := by decide +kernel
theorem dX4_needOrder_34 : decode cX4_needOrder 34 = .ok (.athrow, 1) := by decide +kernel
theorem dX4_needOrder_35 : decode cX4_needOrder 35 = .ok (.return_, 1) := by decide +kernel
theorem dX4_hasBit_0 : decode cX4_hasBit 0 = .ok (.iload_n 0, 1) := by decide +kernel
theorem dX4_hasBit_1 : decode cX4_hasBit 1 = .ok (.iconst 1, 1) := by decide +kernel
theorem dX4_hasBit_2 : decode cX4_hasBit 2 = .ok (.iload_n 1, 1) := by decide +kernel
theorem dX4_hasBit_3 : decode cX4_hasBit 3 = .ok (.ishl, 1) := by decide +kernel
theorem dX4_hasBit_4 : decode cX4_hasBit 4 = .ok (.iand, 1) := by decide +kernel
theorem dX4_hasBit_5 : decode cX4_hasBit 5 = .ok (.ifCond .eq 7, 3) := by decide +kernel
theorem dX4_hasBit_8 : decode cX4_hasBit 8 = .ok (.iconst 1, 1) := by decide +kernel
theorem dX4_hasBit_9 : decode cX4_hasBit 9 = .ok (.goto 4, 3) := by decide +kernel
theorem dX4_hasBit_12 : decode cX4_hasBit 12 = .ok (.iconst 0, 1) := by decide +kernel
theorem dX4_hasBit_13 : decode cX4_hasBit 13 = .ok (.ireturn, 1) := by decide +kernel
theorem dX4_changeTags_0 : decode cX4_changeTags 0 = .ok (.aload_n 1, 1) := by decide +kernel
theorem dX4_changeTags_1 : decode cX4_changeTags 1 = .ok (.iload_n 2, 1) := by decide +kernel
theorem dX4_changeTags_2 : decode cX4_changeTags 2 = .ok (.putfield 136, 3) := by decide +kernel
theorem dX4_changeTags_5 : decode cX4_changeTags 5 = .ok (.aload_n 0, 1) := by decide +kernel
theorem dX4_changeTags_6 : decode cX4_changeTags 6 = .ok (.aconst_null, 1) := by decide +kernel
theorem dX4_changeTags_7 : decode cX4_changeTags 7 = .ok (.putfield 64, 3) := by decide +kernel
theorem dX4_changeTags_10 : decode cX4_changeTags 10 = .ok (.aload_n 0, 1) := by decide +kernel
theorem dX4_changeTags_11 : decode cX4_changeTags 11 = .ok (.invokevirtual 91, 3) := by decide +kernel
theorem dX4_changeTags_14 : decode cX4_changeTags 14 = .ok (.iload_n 2, 1) := by decide +kernel
theorem dX4_changeTags_15 : decode cX4_changeTags 15 = .ok (.invokestatic 250, 3) := by decide +kernel
theorem dX4_changeTags_18 : decode cX4_changeTags 18 = .ok (.ireturn, 1) := by decide +kernel
theorem dX4_moveTag_0 : decode cX4_moveTag 0 = .ok (.iconst 0, 1) := by decide +kernel
theorem dX4_moveTag_1 : decode cX4_moveTag 1 = .ok (.istore_n 3, 1) := by decide +kernel
theorem dX4_moveTag_2 : decode cX4_moveTag 2 = .ok (.iconst 0, 1) := by decide +kernel
theorem dX4_moveTag_3 : decode cX4_moveTag 3 = .ok (.istore 4, 2) := by decide +kernel
theorem dX4_moveTag_5 : decode cX4_moveTag 5 = .ok (.iload 4, 2) := by decide +kernel
theorem dX4_moveTag_7 : decode cX4_moveTag 7 = .ok (.bipush 24, 2) := by decide +kernel
theorem dX4_moveTag_9 : decode cX4_moveTag 9 = .ok (.if_icmp .ge 87, 3) := by decide +kernel
theorem dX4_moveTag_12 : decode cX4_moveTag 12 = .ok (.aload_n 0, 1) := by decide +kernel
theorem dX4_moveTag_13 : decode cX4_moveTag 13 = .ok (.iload 4, 2) := by decide +kernel
theorem dX4_moveTag_15 : decode cX4_moveTag 15 = .ok (.invokevirtual 172, 3) := by decide +kernel
theorem dX4_moveTag_18 : decode cX4_moveTag 18 = .ok (.astore 5, 2) := by decide +kernel
theorem dX4_moveTag_20 : decode cX4_moveTag 20 = .ok (.aload_n 2, 1) := by decide +kernel
theorem dX4_moveTag_21 : decode cX4_moveTag 21 = .ok (.getfield 175, 3) := by decide +kernel
theorem dX4_moveTag_24 : decode cX4_moveTag 24 = .ok (.iload 4, 2) := by decide +kernel
theorem dX4_moveTag_26 : decode cX4_moveTag 26 = .ok (.aload 5, 2) := by decide +kernel
theorem dX4_moveTag_28 : decode cX4_moveTag 28 = .ok (.ifnonnull 7, 3) := by decide +kernel
theorem dX4_moveTag_31 : decode cX4_moveTag 31 = .ok (.iconst 0, 1) := by decide +kernel
theorem dX4_moveTag_32 : decode cX4_moveTag 32 = .ok (.goto 8, 3) := by decide +kernel
theorem dX4_moveTag_35 : decode cX4_moveTag 35 = .ok (.aload 5, 2) := by decide +kernel
theorem dX4_moveTag_37 : decode cX4_moveTag 37 = .ok (.getfield 136, 3) := by decide +kernel
theorem dX4_moveTag_40 : decode cX4_moveTag 40 = .ok (.iastore, 1) := by decide +kernel
theorem dX4_moveTag_41 : decode cX4_moveTag 41 = .ok (.aload 5, 2) := by decide +kernel
theorem dX4_moveTag_43 : decode cX4_moveTag 43 = .ok (.ifnull 47, 3) := by decide +kernel
theorem dX4_moveTag_46 : decode cX4_moveTag 46 = .ok (.aload 5, 2) := by decide +kernel
theorem dX4_moveTag_48 : decode cX4_moveTag 48 = .ok (.getfield 136, 3) := by decide +kernel
theorem dX4_moveTag_51 : decode cX4_moveTag 51 = .ok (.aload_n 2, 1) := by decide +kernel
theorem dX4_moveTag_52 : decode cX4_moveTag 52 = .ok (.getfield 135, 3) := by decide +kernel
theorem dX4_moveTag_55 : decode cX4_moveTag 55 = .ok (.invokestatic 209, 3) := by decide +kernel
theorem dX4_moveTag_58 : decode cX4_moveTag 58 = .ok (.ifCond .eq 32, 3) := by decide +kernel
theorem dX4_moveTag_61 : decode cX4_moveTag 61 = .ok (.aload 5, 2) := by decide +kernel
theorem dX4_moveTag_63 : decode cX4_moveTag 63 = .ok (.aload 5, 2) := by decide +kernel
theorem dX4_moveTag_65 : decode cX4_moveTag 65 = .ok (.getfield 136, 3) := by decide +kernel
theorem dX4_moveTag_68 : decode cX4_moveTag 68 = .ok (.iconst 1, 1) := by decide +kernel
theorem dX4_moveTag_69 : decode cX4_moveTag 69 = .ok (.aload_n 2, 1) := by decide +kernel
theorem dX4_moveTag_70 : decode cX4_moveTag 70 = .ok (.getfield 135, 3) := by decide +kernel
theorem dX4_moveTag_73 : decode cX4_moveTag 73 = .ok (.ishl, 1) := by decide +kernel
theorem dX4_moveTag_74 : decode cX4_moveTag 74 = .ok (.iconst (-1), 1) := by decide +kernel
theorem dX4_moveTag_75 : decode cX4_moveTag 75 = .ok (.ixor, 1) := by decide +kernel
theorem dX4_moveTag_76 : decode cX4_moveTag 76 = .ok (.iand, 1) := by decide +kernel
theorem dX4_moveTag_77 : decode cX4_moveTag 77 = .ok (.iconst 1, 1) := by decide +kernel
theorem dX4_moveTag_78 : decode cX4_moveTag 78 = .ok (.aload_n 1, 1) := by decide +kernel
theorem dX4_moveTag_79 : decode cX4_moveTag 79 = .ok (.getfield 135, 3) := by decide +kernel
theorem dX4_moveTag_82 : decode cX4_moveTag 82 = .ok (.ishl, 1) := by decide +kernel
theorem dX4_moveTag_83 : decode cX4_moveTag 83 = .ok (.ior, 1) := by decide +kernel
theorem dX4_moveTag_84 : decode cX4_moveTag 84 = .ok (.putfield 136, 3) := by decide +kernel
theorem dX4_moveTag_87 : decode cX4_moveTag 87 = .ok (.iinc 3 1, 3) := by decide +kernel
theorem dX4_moveTag_90 : decode cX4_moveTag 90 = .ok (.iinc 4 1, 3) := by decide +kernel
theorem dX4_moveTag_93 : decode cX4_moveTag 93 = .ok (.goto (-88), 3) := by decide +kernel
theorem dX4_moveTag_96 : decode cX4_moveTag 96 = .ok (.iload_n 3, 1) := by decide +kernel
theorem dX4_moveTag_97 : decode cX4_moveTag 97 = .ok (.ireturn, 1) := by decide +kernel
theorem dX4_bitMeant_0 : decode cX4_bitMeant 0 = .ok (.aload_n 0, 1) := by decide +kernel
theorem dX4_bitMeant_1 : decode cX4_bitMeant 1 = .ok (.iload_n 1, 1) := by decide +kernel
theorem dX4_bitMeant_2 : decode cX4_bitMeant 2 = .ok (.invokevirtual 238, 3) := by decide +kernel
theorem dX4_bitMeant_5 : decode cX4_bitMeant 5 = .ok (.astore_n 2, 1) := by decide +kernel
theorem dX4_bitMeant_6 : decode cX4_bitMeant 6 = .ok (.iconst 0, 1) := by decide +kernel
theorem dX4_bitMeant_7 : decode cX4_bitMeant 7 = .ok (.istore_n 3, 1) := by decide +kernel
theorem dX4_bitMeant_8 : decode cX4_bitMeant 8 = .ok (.iload_n 3, 1) := by decide +kernel
theorem dX4_bitMeant_9 : decode cX4_bitMeant 9 = .ok (.bipush 16, 2) := by decide +kernel
theorem dX4_bitMeant_11 : decode cX4_bitMeant 11 = .ok (.if_icmp .ge 25, 3) := by decide +kernel
theorem dX4_bitMeant_14 : decode cX4_bitMeant 14 = .ok (.aload_n 2, 1) := by decide +kernel
theorem dX4_bitMeant_15 : decode cX4_bitMeant 15 = .ok (.ifnull 21, 3) := by decide +kernel
theorem dX4_bitMeant_18 : decode cX4_bitMeant 18 = .ok (.aload_n 2, 1) := by decide +kernel
theorem dX4_bitMeant_19 : decode cX4_bitMeant 19 = .ok (.getfield 161, 3) := by decide +kernel
theorem dX4_bitMeant_22 : decode cX4_bitMeant 22 = .ok (.ifnull 14, 3) := by decide +kernel
theorem dX4_bitMeant_25 : decode cX4_bitMeant 25 = .ok (.aload_n 2, 1) := by decide +kernel
theorem dX4_bitMeant_26 : decode cX4_bitMeant 26 = .ok (.getfield 161, 3) := by decide +kernel
theorem dX4_bitMeant_29 : decode cX4_bitMeant 29 = .ok (.astore_n 2, 1) := by decide +kernel
theorem dX4_bitMeant_30 : decode cX4_bitMeant 30 = .ok (.iinc 3 1, 3) := by decide +kernel
theorem dX4_bitMeant_33 : decode cX4_bitMeant 33 = .ok (.goto (-25), 3) := by decide +kernel
theorem dX4_bitMeant_36 : decode cX4_bitMeant 36 = .ok (.aload_n 2, 1) := by decide +kernel
theorem dX4_bitMeant_37 : decode cX4_bitMeant 37 = .ok (.ifnonnull 7, 3) := by decide +kernel
theorem dX4_bitMeant_40 : decode cX4_bitMeant 40 = .ok (.iconst 0, 1) := by decide +kernel
theorem dX4_bitMeant_41 : decode cX4_bitMeant 41 = .ok (.goto 9, 3) := by decide +kernel
theorem dX4_bitMeant_44 : decode cX4_bitMeant 44 = .ok (.iconst 1, 1) := by decide +kernel
theorem dX4_bitMeant_45 : decode cX4_bitMeant 45 = .ok (.aload_n 2, 1) := by decide +kernel
theorem dX4_bitMeant_46 : decode cX4_bitMeant 46 = .ok (.getfield 135, 3) := by decide +kernel
theorem dX4_bitMeant_49 : decode cX4_bitMeant 49 = .ok (.ishl, 1) := by decide +kernel
theorem dX4_bitMeant_50 : decode cX4_bitMeant 50 = .ok (.ireturn, 1) := by decide +kernel
theorem dX4_distanceByTable_0 : decode cX4_distanceByTable 0 = .ok (.iconst 0, 1) := by decide +kernel
theorem dX4_distanceByTable_1 : decode cX4_distanceByTable 1 = .ok (.istore_n 3, 1) := by decide +kernel
theorem dX4_distanceByTable_2 : decode cX4_distanceByTable 2 = .ok (.iload_n 3, 1) := by decide +kernel
theorem dX4_distanceByTable_3 : decode cX4_distanceByTable 3 = .ok (.aload_n 1, 1) := by decide +kernel
theorem dX4_distanceByTable_4 : decode cX4_distanceByTable 4 = .ok (.getfield 126, 3) := by decide +kernel
theorem dX4_distanceByTable_7 : decode cX4_distanceByTable 7 = .ok (.if_icmp .gt 142, 3) := by decide +kernel
theorem dX4_distanceByTable_10 : decode cX4_distanceByTable 10 = .ok (.iconst 0, 1) := by decide +kernel
theorem dX4_distanceByTable_11 : decode cX4_distanceByTable 11 = .ok (.istore 4, 2) := by decide +kernel
theorem dX4_distanceByTable_13 : decode cX4_distanceByTable 13 = .ok (.iload 4, 2) := by decide +kernel
theorem dX4_distanceByTable_15 : decode cX4_distanceByTable 15 = .ok (.aload_n 2, 1) := by decide +kernel
theorem dX4_distanceByTable_16 : decode cX4_distanceByTable 16 = .ok (.getfield 126, 3) := by decide +kernel
theorem dX4_distanceByTable_19 : decode cX4_distanceByTable 19 = .ok (.if_icmp .gt 124, 3) := by decide +kernel
theorem dX4_distanceByTable_22 : decode cX4_distanceByTable 22 = .ok (.iload_n 3, 1) := by decide +kernel
theorem dX4_distanceByTable_23 : decode cX4_distanceByTable 23 = .ok (.ifCond .eq 8, 3) := by decide +kernel
theorem dX4_distanceByTable_26 : decode cX4_distanceByTable 26 = .ok (.iload 4, 2) := by decide +kernel
theorem dX4_distanceByTable_28 : decode cX4_distanceByTable 28 = .ok (.ifCond .ne 19, 3) := by decide +kernel
theorem dX4_distanceByTable_31 : decode cX4_distanceByTable 31 = .ok (.aload_n 0, 1) := by decide +kernel
theorem dX4_distanceByTable_32 : decode cX4_distanceByTable 32 = .ok (.getfield 61, 3) := by decide +kernel
theorem dX4_distanceByTable_35 : decode cX4_distanceByTable 35 = .ok (.iload_n 3, 1) := by decide +kernel
theorem dX4_distanceByTable_36 : decode cX4_distanceByTable 36 = .ok (.aaload, 1) := by decide +kernel
theorem dX4_distanceByTable_37 : decode cX4_distanceByTable 37 = .ok (.iload 4, 2) := by decide +kernel
theorem dX4_distanceByTable_39 : decode cX4_distanceByTable 39 = .ok (.iload_n 3, 1) := by decide +kernel
theorem dX4_distanceByTable_40 : decode cX4_distanceByTable 40 = .ok (.iload 4, 2) := by decide +kernel
theorem dX4_distanceByTable_42 : decode cX4_distanceByTable 42 = .ok (.iadd, 1) := by decide +kernel
theorem dX4_distanceByTable_43 : decode cX4_distanceByTable 43 = .ok (.iastore, 1) := by decide +kernel
theorem dX4_distanceByTable_44 : decode cX4_distanceByTable 44 = .ok (.goto 93, 3) := by decide +kernel
theorem dX4_distanceByTable_47 : decode cX4_distanceByTable 47 = .ok (.aload_n 1, 1) := by decide +kernel
theorem dX4_distanceByTable_48 : decode cX4_distanceByTable 48 = .ok (.getfield 131, 3) := by decide +kernel
theorem dX4_distanceByTable_51 : decode cX4_distanceByTable 51 = .ok (.iload_n 3, 1) := by decide +kernel
theorem dX4_distanceByTable_52 : decode cX4_distanceByTable 52 = .ok (.iconst 1, 1) := by decide +kernel
theorem dX4_distanceByTable_53 : decode cX4_distanceByTable 53 = .ok (.isub, 1) := by decide +kernel
theorem dX4_distanceByTable_54 : decode cX4_distanceByTable 54 = .ok (.caload, 1) := by decide +kernel
theorem dX4_distanceByTable_55 : decode cX4_distanceByTable 55 = .ok (.aload_n 2, 1) := by decide +kernel
theorem dX4_distanceByTable_56 : decode cX4_distanceByTable 56 = .ok (.getfield 131, 3) := by decide +kernel
theorem dX4_distanceByTable_59 : decode cX4_distanceByTable 59 = .ok (.iload 4, 2) := by decide +kernel
theorem dX4_distanceByTable_61 : decode cX4_distanceByTable 61 = .ok (.iconst 1, 1) := by decide +kernel
theorem dX4_distanceByTable_62 : decode cX4_distanceByTable 62 = .ok (.isub, 1) := by decide +kernel
theorem dX4_distanceByTable_63 : decode cX4_distanceByTable 63 = .ok (.caload, 1) := by decide +kernel
theorem dX4_distanceByTable_64 : decode cX4_distanceByTable 64 = .ok (.if_icmp .ne 7, 3) := by decide +kernel
theorem dX4_distanceByTable_67 : decode cX4_distanceByTable 67 = .ok (.iconst 0, 1) := by decide +kernel
theorem dX4_distanceByTable_68 : decode cX4_distanceByTable 68 = .ok (.goto 4, 3) := by decide +kernel
theorem dX4_distanceByTable_71 : decode cX4_distanceByTable 71 = .ok (.iconst 1, 1) := by decide +kernel
theorem dX4_distanceByTable_72 : decode cX4_distanceByTable 72 = .ok (.istore 5, 2) := by decide +kernel
theorem dX4_distanceByTable_74 : decode cX4_distanceByTable 74 = .ok (.aload_n 0, 1) := by decide +kernel
theorem dX4_distanceByTable_75 : decode cX4_distanceByTable 75 = .ok (.getfield 61, 3) := by decide +kernel
theorem dX4_distanceByTable_78 : decode cX4_distanceByTable 78 = .ok (.iload_n 3, 1) := by decide +kernel
theorem dX4_distanceByTable_79 : decode cX4_distanceByTable 79 = .ok (.iconst 1, 1) := by decide +kernel
theorem dX4_distanceByTable_80 : decode cX4_distanceByTable 80 = .ok (.isub, 1) := by decide +kernel
theorem dX4_distanceByTable_81 : decode cX4_distanceByTable 81 = .ok (.aaload, 1) := by decide +kernel
theorem dX4_distanceByTable_82 : decode cX4_distanceByTable 82 = .ok (.iload 4, 2) := by decide +kernel
theorem dX4_distanceByTable_84 : decode cX4_distanceByTable 84 = .ok (.iconst 1, 1) := by decide +kernel
theorem dX4_distanceByTable_85 : decode cX4_distanceByTable 85 = .ok (.isub, 1) := by decide +kernel
theorem dX4_distanceByTable_86 : decode cX4_distanceByTable 86 = .ok (.iaload, 1) := by decide +kernel
theorem dX4_distanceByTable_87 : decode cX4_distanceByTable 87 = .ok (.iload 5, 2) := by decide +kernel
theorem dX4_distanceByTable_89 : decode cX4_distanceByTable 89 = .ok (.iadd, 1) := by decide +kernel
theorem dX4_distanceByTable_90 : decode cX4_distanceByTable 90 = .ok (.istore 6, 2) := by decide +kernel
theorem dX4_distanceByTable_92 : decode cX4_distanceByTable 92 = .ok (.aload_n 0, 1) := by decide +kernel
theorem dX4_distanceByTable_93 : decode cX4_distanceByTable 93 = .ok (.getfield 61, 3) := by decide +kernel
theorem dX4_distanceByTable_96 : decode cX4_distanceByTable 96 = .ok (.iload_n 3, 1) := by decide +kernel
theorem dX4_distanceByTable_97 : decode cX4_distanceByTable 97 = .ok (.iconst 1, 1) := by decide +kernel
theorem dX4_distanceByTable_98 : decode cX4_distanceByTable 98 = .ok (.isub, 1) := by decide +kernel
theorem dX4_distanceByTable_99 : decode cX4_distanceByTable 99 = .ok (.aaload, 1) := by decide +kernel
theorem dX4_distanceByTable_100 : decode cX4_distanceByTable 100 = .ok (.iload 4, 2) := by decide +kernel
theorem dX4_distanceByTable_102 : decode cX4_distanceByTable 102 = .ok (.iaload, 1) := by decide +kernel
theorem dX4_distanceByTable_103 : decode cX4_distanceByTable 103 = .ok (.aload_n 0, 1) := by decide +kernel
theorem dX4_distanceByTable_104 : decode cX4_distanceByTable 104 = .ok (.getfield 61, 3) := by decide +kernel
theorem dX4_distanceByTable_107 : decode cX4_distanceByTable 107 = .ok (.iload_n 3, 1) := by decide +kernel
theorem dX4_distanceByTable_108 : decode cX4_distanceByTable 108 = .ok (.aaload, 1) := by decide +kernel
theorem dX4_distanceByTable_109 : decode cX4_distanceByTable 109 = .ok (.iload 4, 2) := by decide +kernel
theorem dX4_distanceByTable_111 : decode cX4_distanceByTable 111 = .ok (.iconst 1, 1) := by decide +kernel
theorem dX4_distanceByTable_112 : decode cX4_distanceByTable 112 = .ok (.isub, 1) := by decide +kernel
theorem dX4_distanceByTable_113 : decode cX4_distanceByTable 113 = .ok (.iaload, 1) := by decide +kernel
theorem dX4_distanceByTable_114 : decode cX4_distanceByTable 114 = .ok (.invokestatic 296, 3) := by decide +kernel
theorem dX4_distanceByTable_117 : decode cX4_distanceByTable 117 = .ok (.iconst 1, 1) := by decide +kernel
theorem dX4_distanceByTable_118 : decode cX4_distanceByTable 118 = .ok (.iadd, 1) := by decide +kernel
theorem dX4_distanceByTable_119 : decode cX4_distanceByTable 119 = .ok (.istore 7, 2) := by decide +kernel
theorem dX4_distanceByTable_121 : decode cX4_distanceByTable 121 = .ok (.aload_n 0, 1) := by decide +kernel
theorem dX4_distanceByTable_122 : decode cX4_distanceByTable 122 = .ok (.getfield 61, 3) := by decide +kernel
theorem dX4_distanceByTable_125 : decode cX4_distanceByTable 125 = .ok (.iload_n 3, 1) := by decide +kernel
theorem dX4_distanceByTable_126 : decode cX4_distanceByTable 126 = .ok (.aaload, 1) := by decide +kernel
theorem dX4_distanceByTable_127 : decode cX4_distanceByTable 127 = .ok (.iload 4, 2) := by decide +kernel
theorem dX4_distanceByTable_129 : decode cX4_distanceByTable 129 = .ok (.iload 6, 2) := by decide +kernel
theorem dX4_distanceByTable_131 : decode cX4_distanceByTable 131 = .ok (.iload 7, 2) := by decide +kernel
theorem dX4_distanceByTable_133 : decode cX4_distanceByTable 133 = .ok (.invokestatic 296, 3) := by decide +kernel
theorem dX4_distanceByTable_136 : decode cX4_distanceByTable 136 = .ok (.iastore, 1) := by decide +kernel
theorem dX4_distanceByTable_137 : decode cX4_distanceByTable 137 = .ok (.iinc 4 1, 3) := by decide +kernel
theorem dX4_distanceByTable_140 : decode cX4_distanceByTable 140 = .ok (.goto (-127), 3) := by decide +kernel
theorem dX4_distanceByTable_143 : decode cX4_distanceByTable 143 = .ok (.iinc 3 1, 3) := by decide +kernel
theorem dX4_distanceByTable_146 : decode cX4_distanceByTable 146 = .ok (.goto (-144), 3) := by decide +kernel
theorem dX4_distanceByTable_149 : decode cX4_distanceByTable 149 = .ok (.aload_n 0, 1) := by decide +kernel
theorem dX4_distanceByTable_150 : decode cX4_distanceByTable 150 = .ok (.getfield 61, 3) := by decide +kernel
theorem dX4_distanceByTable_153 : decode cX4_distanceByTable 153 = .ok (.aload_n 1, 1) := by decide +kernel
theorem dX4_distanceByTable_154 : decode cX4_distanceByTable 154 = .ok (.getfield 126, 3) := by decide +kernel
theorem dX4_distanceByTable_157 : decode cX4_distanceByTable 157 = .ok (.aaload, 1) := by decide +kernel
theorem dX4_distanceByTable_158 : decode cX4_distanceByTable 158 = .ok (.aload_n 2, 1) := by decide +kernel
theorem dX4_distanceByTable_159 : decode cX4_distanceByTable 159 = .ok (.getfield 126, 3) := by decide +kernel
theorem dX4_distanceByTable_162 : decode cX4_distanceByTable 162 = .ok (.iaload, 1) := by decide +kernel
theorem dX4_distanceByTable_163 : decode cX4_distanceByTable 163 = .ok (.ireturn, 1) := by decide +kernel
theorem dX4_leastByTrying_0 : decode cX4_leastByTrying 0 = .ok (.iload_n 1, 1) := by decide +kernel
theorem dX4_leastByTrying_1 : decode cX4_leastByTrying 1 = .ok (.ifCond .gt 5, 3) := by decide +kernel
theorem dX4_leastByTrying_4 : decode cX4_leastByTrying 4 = .ok (.iload_n 3, 1) := by decide +kernel
theorem dX4_leastByTrying_5 : decode cX4_leastByTrying 5 = .ok (.ireturn, 1) := by decide +kernel
theorem dX4_leastByTrying_6 : decode cX4_leastByTrying 6 = .ok (.iload_n 3, 1) := by decide +kernel
theorem dX4_leastByTrying_7 : decode cX4_leastByTrying 7 = .ok (.ifCond .gt 5, 3) := by decide +kernel
theorem dX4_leastByTrying_10 : decode cX4_leastByTrying 10 = .ok (.iload_n 1, 1) := by decide +kernel
theorem dX4_leastByTrying_11 : decode cX4_leastByTrying 11 = .ok (.ireturn, 1) := by decide +kernel
theorem dX4_leastByTrying_12 : decode cX4_leastByTrying 12 = .ok (.aload_n 0, 1) := by decide +kernel
theorem dX4_leastByTrying_13 : decode cX4_leastByTrying 13 = .ok (.getfield 131, 3) := by decide +kernel
theorem dX4_leastByTrying_16 : decode cX4_leastByTrying 16 = .ok (.iload_n 1, 1) := by decide +kernel
theorem dX4_leastByTrying_17 : decode cX4_leastByTrying 17 = .ok (.iconst 1, 1) := by decide +kernel
theorem dX4_leastByTrying_18 : decode cX4_leastByTrying 18 = .ok (.isub, 1) := by decide +kernel
theorem dX4_leastByTrying_19 : decode cX4_leastByTrying 19 = .ok (.caload, 1) := by decide +kernel
theorem dX4_leastByTrying_20 : decode cX4_leastByTrying 20 = .ok (.aload_n 2, 1) := by decide +kernel
theorem dX4_leastByTrying_21 : decode cX4_leastByTrying 21 = .ok (.getfield 131, 3) := by decide +kernel
theorem dX4_leastByTrying_24 : decode cX4_leastByTrying 24 = .ok (.iload_n 3, 1) := by decide +kernel
theorem dX4_leastByTrying_25 : decode cX4_leastByTrying 25 = .ok (.iconst 1, 1) := by decide +kernel
theorem dX4_leastByTrying_26 : decode cX4_leastByTrying 26 = .ok (.isub, 1) := by decide +kernel
theorem dX4_leastByTrying_27 : decode cX4_leastByTrying 27 = .ok (.caload, 1) := by decide +kernel
theorem dX4_leastByTrying_28 : decode cX4_leastByTrying 28 = .ok (.if_icmp .ne 7, 3) := by decide +kernel
theorem dX4_leastByTrying_31 : decode cX4_leastByTrying 31 = .ok (.iconst 0, 1) := by decide +kernel
theorem dX4_leastByTrying_32 : decode cX4_leastByTrying 32 = .ok (.goto 4, 3) := by decide +kernel
theorem dX4_leastByTrying_35 : decode cX4_leastByTrying 35 = .ok (.iconst 1, 1) := by decide +kernel
theorem dX4_leastByTrying_36 : decode cX4_leastByTrying 36 = .ok (.istore 4, 2) := by decide +kernel
theorem dX4_leastByTrying_38 : decode cX4_leastByTrying 38 = .ok (.aload_n 0, 1) := by decide +kernel
theorem dX4_leastByTrying_39 : decode cX4_leastByTrying 39 = .ok (.iload_n 1, 1) := by decide +kernel
theorem dX4_leastByTrying_40 : decode cX4_leastByTrying 40 = .ok (.iconst 1, 1) := by decide +kernel
theorem dX4_leastByTrying_41 : decode cX4_leastByTrying 41 = .ok (.isub, 1) := by decide +kernel
theorem dX4_leastByTrying_42 : decode cX4_leastByTrying 42 = .ok (.aload_n 2, 1) := by decide +kernel
theorem dX4_leastByTrying_43 : decode cX4_leastByTrying 43 = .ok (.iload_n 3, 1) := by decide +kernel
theorem dX4_leastByTrying_44 : decode cX4_leastByTrying 44 = .ok (.iconst 1, 1) := by decide +kernel
theorem dX4_leastByTrying_45 : decode cX4_leastByTrying 45 = .ok (.isub, 1) := by decide +kernel
theorem dX4_leastByTrying_46 : decode cX4_leastByTrying 46 = .ok (.invokestatic 234, 3) := by decide +kernel
theorem dX4_leastByTrying_49 : decode cX4_leastByTrying 49 = .ok (.iload 4, 2) := by decide +kernel
theorem dX4_leastByTrying_51 : decode cX4_leastByTrying 51 = .ok (.iadd, 1) := by decide +kernel
theorem dX4_leastByTrying_52 : decode cX4_leastByTrying 52 = .ok (.istore 5, 2) := by decide +kernel
theorem dX4_leastByTrying_54 : decode cX4_leastByTrying 54 = .ok (.aload_n 0, 1) := by decide +kernel
theorem dX4_leastByTrying_55 : decode cX4_leastByTrying 55 = .ok (.iload_n 1, 1) := by decide +kernel
theorem dX4_leastByTrying_56 : decode cX4_leastByTrying 56 = .ok (.iconst 1, 1) := by decide +kernel
theorem dX4_leastByTrying_57 : decode cX4_leastByTrying 57 = .ok (.isub, 1) := by decide +kernel
theorem dX4_leastByTrying_58 : decode cX4_leastByTrying 58 = .ok (.aload_n 2, 1) := by decide +kernel
theorem dX4_leastByTrying_59 : decode cX4_leastByTrying 59 = .ok (.iload_n 3, 1) := by decide +kernel
theorem dX4_leastByTrying_60 : decode cX4_leastByTrying 60 = .ok (.invokestatic 234, 3) := by decide +kernel
theorem dX4_leastByTrying_63 : decode cX4_leastByTrying 63 = .ok (.iconst 1, 1) := by decide +kernel
theorem dX4_leastByTrying_64 : decode cX4_leastByTrying 64 = .ok (.iadd, 1) := by decide +kernel
theorem dX4_leastByTrying_65 : decode cX4_leastByTrying 65 = .ok (.istore 6, 2) := by decide +kernel
theorem dX4_leastByTrying_67 : decode cX4_leastByTrying 67 = .ok (.aload_n 0, 1) := by decide +kernel
theorem dX4_leastByTrying_68 : decode cX4_leastByTrying 68 = .ok (.iload_n 1, 1) := by decide +kernel
theorem dX4_leastByTrying_69 : decode cX4_leastByTrying 69 = .ok (.aload_n 2, 1) := by decide +kernel
theorem dX4_leastByTrying_70 : decode cX4_leastByTrying 70 = .ok (.iload_n 3, 1) := by decide +kernel
theorem dX4_leastByTrying_71 : decode cX4_leastByTrying 71 = .ok (.iconst 1, 1) := by decide +kernel
theorem dX4_leastByTrying_72 : decode cX4_leastByTrying 72 = .ok (.isub, 1) := by decide +kernel
theorem dX4_leastByTrying_73 : decode cX4_leastByTrying 73 = .ok (.invokestatic 234, 3) := by decide +kernel
theorem dX4_leastByTrying_76 : decode cX4_leastByTrying 76 = .ok (.iconst 1, 1) := by decide +kernel
theorem dX4_leastByTrying_77 : decode cX4_leastByTrying 77 = .ok (.iadd, 1) := by decide +kernel
theorem dX4_leastByTrying_78 : decode cX4_leastByTrying 78 = .ok (.istore 7, 2) := by decide +kernel
theorem dX4_leastByTrying_80 : decode cX4_leastByTrying 80 = .ok (.iload 5, 2) := by decide +kernel
theorem dX4_leastByTrying_82 : decode cX4_leastByTrying 82 = .ok (.iload 6, 2) := by decide +kernel
theorem dX4_leastByTrying_84 : decode cX4_leastByTrying 84 = .ok (.iload 7, 2) := by decide +kernel
theorem dX4_leastByTrying_86 : decode cX4_leastByTrying 86 = .ok (.invokestatic 296, 3) := by decide +kernel
theorem dX4_leastByTrying_89 : decode cX4_leastByTrying 89 = .ok (.invokestatic 296, 3) := by decide +kernel
theorem dX4_leastByTrying_92 : decode cX4_leastByTrying 92 = .ok (.ireturn, 1) := by decide +kernel
theorem dX4_addRule_0 : decode cX4_addRule 0 = .ok (.new 21, 3) := by decide +kernel
theorem dX4_addRule_3 : decode cX4_addRule 3 = .ok (.dup, 1) := by decide +kernel
theorem dX4_addRule_4 : decode cX4_addRule 4 = .ok (.aload_n 0, 1) := by decide +kernel
theorem dX4_addRule_5 : decode cX4_addRule 5 = .ok (.getfield 43, 3) := by decide +kernel
theorem dX4_addRule_8 : decode cX4_addRule 8 = .ok (.iload_n 1, 1) := by decide +kernel
theorem dX4_addRule_9 : decode cX4_addRule 9 = .ok (.iload_n 2, 1) := by decide +kernel
theorem dX4_addRule_10 : decode cX4_addRule 10 = .ok (.aload_n 3, 1) := by decide +kernel
theorem dX4_addRule_11 : decode cX4_addRule 11 = .ok (.aload 4, 2) := by decide +kernel
theorem dX4_addRule_13 : decode cX4_addRule 13 = .ok (.invokespecial 302, 3) := by decide +kernel
theorem dX4_addRule_16 : decode cX4_addRule 16 = .ok (.astore 5, 2) := by decide +kernel
theorem dX4_addRule_18 : decode cX4_addRule 18 = .ok (.aload 5, 2) := by decide +kernel
theorem dX4_addRule_20 : decode cX4_addRule 20 = .ok (.getfield 243, 3) := by decide +kernel
theorem dX4_addRule_23 : decode cX4_addRule 23 = .ok (.bipush 15, 2) := by decide +kernel
theorem dX4_addRule_25 : decode cX4_addRule 25 = .ok (.if_icmp .le 14, 3) := by decide +kernel
theorem dX4_addRule_28 : decode cX4_addRule 28 = .ok (.new 156, 3) := by decide +kernel
theorem dX4_addRule_31 : decode cX4_addRule 31 = .ok (.dup, 1) := by decide +kernel
theorem dX4_addRule_32 : decode cX4_addRule 32 = .ok (.ldc_w 305, 3) := by decide +kernel
theorem dX4_addRule_35 : decode cX4_addRule 35 = .ok (.invokespecial 160, 3) := by decide +kernel
theorem dX4_addRule_38 : decode cX4_addRule 38 = .ok (.athrow, 1) := by decide +kernel
theorem dX4_addRule_39 : decode cX4_addRule 39 = .ok (.aload 5, 2) := by decide +kernel
theorem dX4_addRule_41 : decode cX4_addRule 41 = .ok (.getfield 219, 3) := by decide +kernel
theorem dX4_addRule_44 : decode cX4_addRule 44 = .ok (.bipush 40, 2) := by decide +kernel
theorem dX4_addRule_46 : decode cX4_addRule 46 = .ok (.if_icmp .lt 14, 3) := by decide +kernel
theorem dX4_addRule_49 : decode cX4_addRule 49 = .ok (.new 82, 3) := by decide +kernel
theorem dX4_addRule_52 : decode cX4_addRule 52 = .ok (.dup, 1) := by decide +kernel
theorem dX4_addRule_53 : decode cX4_addRule 53 = .ok (.ldc_w 307, 3) := by decide +kernel
theorem dX4_addRule_56 : decode cX4_addRule 56 = .ok (.invokespecial 86, 3) := by decide +kernel
theorem dX4_addRule_59 : decode cX4_addRule 59 = .ok (.athrow, 1) := by decide +kernel
theorem dX4_addRule_60 : decode cX4_addRule 60 = .ok (.aload_n 0, 1) := by decide +kernel
theorem dX4_addRule_61 : decode cX4_addRule 61 = .ok (.getfield 23, 3) := by decide +kernel
theorem dX4_addRule_64 : decode cX4_addRule 64 = .ok (.aload 5, 2) := by decide +kernel
theorem dX4_addRule_66 : decode cX4_addRule 66 = .ok (.getfield 219, 3) := by decide +kernel
theorem dX4_addRule_69 : decode cX4_addRule 69 = .ok (.aload 5, 2) := by decide +kernel
theorem dX4_addRule_71 : decode cX4_addRule 71 = .ok (.aastore, 1) := by decide +kernel
theorem dX4_addRule_72 : decode cX4_addRule 72 = .ok (.aload_n 0, 1) := by decide +kernel
theorem dX4_addRule_73 : decode cX4_addRule 73 = .ok (.dup, 1) := by decide +kernel
theorem dX4_addRule_74 : decode cX4_addRule 74 = .ok (.getfield 43, 3) := by decide +kernel
theorem dX4_addRule_77 : decode cX4_addRule 77 = .ok (.iconst 1, 1) := by decide +kernel
theorem dX4_addRule_78 : decode cX4_addRule 78 = .ok (.iadd, 1) := by decide +kernel
theorem dX4_addRule_79 : decode cX4_addRule 79 = .ok (.putfield 43, 3) := by decide +kernel
theorem dX4_addRule_82 : decode cX4_addRule 82 = .ok (.aload 5, 2) := by decide +kernel
theorem dX4_addRule_84 : decode cX4_addRule 84 = .ok (.getfield 219, 3) := by decide +kernel
theorem dX4_addRule_87 : decode cX4_addRule 87 = .ok (.ireturn, 1) := by decide +kernel
theorem dX4_tracksMeeting_0 : decode cX4_tracksMeeting 0 = .ok (.aload_n 1, 1) := by decide +kernel
theorem dX4_tracksMeeting_1 : decode cX4_tracksMeeting 1 = .ok (.ifnonnull 5, 3) := by decide +kernel
theorem dX4_tracksMeeting_4 : decode cX4_tracksMeeting 4 = .ok (.iconst 0, 1) := by decide +kernel
theorem dX4_tracksMeeting_5 : decode cX4_tracksMeeting 5 = .ok (.ireturn, 1) := by decide +kernel
theorem dX4_tracksMeeting_6 : decode cX4_tracksMeeting 6 = .ok (.aload_n 1, 1) := by decide +kernel
theorem dX4_tracksMeeting_7 : decode cX4_tracksMeeting 7 = .ok (.getfield 309, 3) := by decide +kernel
theorem dX4_tracksMeeting_10 : decode cX4_tracksMeeting 10 = .ok (.tableswitch 147 0 8 #[134, 147, 147, 147, 147, 107, 50, 70, 90], 50) := by decide +kernel
theorem dX4_tracksMeeting_60 : decode cX4_tracksMeeting 60 = .ok (.aload_n 0, 1) := by decide +kernel
theorem dX4_tracksMeeting_61 : decode cX4_tracksMeeting 61 = .ok (.aload_n 1, 1) := by decide +kernel
theorem dX4_tracksMeeting_62 : decode cX4_tracksMeeting 62 = .ok (.getfield 312, 3) := by decide +kernel
theorem dX4_tracksMeeting_65 : decode cX4_tracksMeeting 65 = .ok (.aload_n 2, 1) := by decide +kernel
theorem dX4_tracksMeeting_66 : decode cX4_tracksMeeting 66 = .ok (.invokevirtual 246, 3) := by decide +kernel
theorem dX4_tracksMeeting_69 : decode cX4_tracksMeeting 69 = .ok (.aload_n 0, 1) := by decide +kernel
theorem dX4_tracksMeeting_70 : decode cX4_tracksMeeting 70 = .ok (.aload_n 1, 1) := by decide +kernel
theorem dX4_tracksMeeting_71 : decode cX4_tracksMeeting 71 = .ok (.getfield 315, 3) := by decide +kernel
theorem dX4_tracksMeeting_74 : decode cX4_tracksMeeting 74 = .ok (.aload_n 2, 1) := by decide +kernel
theorem dX4_tracksMeeting_75 : decode cX4_tracksMeeting 75 = .ok (.invokevirtual 246, 3) := by decide +kernel
theorem dX4_tracksMeeting_78 : decode cX4_tracksMeeting 78 = .ok (.iand, 1) := by decide +kernel
theorem dX4_tracksMeeting_79 : decode cX4_tracksMeeting 79 = .ok (.ireturn, 1) := by decide +kernel
theorem dX4_tracksMeeting_80 : decode cX4_tracksMeeting 80 = .ok (.aload_n 0, 1) := by decide +kernel
theorem dX4_tracksMeeting_81 : decode cX4_tracksMeeting 81 = .ok (.aload_n 1, 1) := by decide +kernel
theorem dX4_tracksMeeting_82 : decode cX4_tracksMeeting 82 = .ok (.getfield 312, 3) := by decide +kernel
theorem dX4_tracksMeeting_85 : decode cX4_tracksMeeting 85 = .ok (.aload_n 2, 1) := by decide +kernel
theorem dX4_tracksMeeting_86 : decode cX4_tracksMeeting 86 = .ok (.invokevirtual 246, 3) := by decide +kernel
theorem dX4_tracksMeeting_89 : decode cX4_tracksMeeting 89 = .ok (.aload_n 0, 1) := by decide +kernel
theorem dX4_tracksMeeting_90 : decode cX4_tracksMeeting 90 = .ok (.aload_n 1, 1) := by decide +kernel
theorem dX4_tracksMeeting_91 : decode cX4_tracksMeeting 91 = .ok (.getfield 315, 3) := by decide +kernel
theorem dX4_tracksMeeting_94 : decode cX4_tracksMeeting 94 = .ok (.aload_n 2, 1) := by decide +kernel
theorem dX4_tracksMeeting_95 : decode cX4_tracksMeeting 95 = .ok (.invokevirtual 246, 3) := by decide +kernel
theorem dX4_tracksMeeting_98 : decode cX4_tracksMeeting 98 = .ok (.ior, 1) := by decide +kernel
theorem dX4_tracksMeeting_99 : decode cX4_tracksMeeting 99 = .ok (.ireturn, 1) := by decide +kernel
theorem dX4_tracksMeeting_100 : decode cX4_tracksMeeting 100 = .ok (.aload_n 0, 1) := by decide +kernel
theorem dX4_tracksMeeting_101 : decode cX4_tracksMeeting 101 = .ok (.invokevirtual 318, 3) := by decide +kernel
theorem dX4_tracksMeeting_104 : decode cX4_tracksMeeting 104 = .ok (.aload_n 0, 1) := by decide +kernel
theorem dX4_tracksMeeting_105 : decode cX4_tracksMeeting 105 = .ok (.aload_n 1, 1) := by decide +kernel
theorem dX4_tracksMeeting_106 : decode cX4_tracksMeeting 106 = .ok (.getfield 312, 3) := by decide +kernel
theorem dX4_tracksMeeting_109 : decode cX4_tracksMeeting 109 = .ok (.aload_n 2, 1) := by decide +kernel
theorem dX4_tracksMeeting_110 : decode cX4_tracksMeeting 110 = .ok (.invokevirtual 246, 3) := by decide +kernel
theorem dX4_tracksMeeting_113 : decode cX4_tracksMeeting 113 = .ok (.iconst (-1), 1) := by decide +kernel
theorem dX4_tracksMeeting_114 : decode cX4_tracksMeeting 114 = .ok (.ixor, 1) := by decide +kernel
theorem dX4_tracksMeeting_115 : decode cX4_tracksMeeting 115 = .ok (.iand, 1) := by decide +kernel
theorem dX4_tracksMeeting_116 : decode cX4_tracksMeeting 116 = .ok (.ireturn, 1) := by decide +kernel
theorem dX4_tracksMeeting_117 : decode cX4_tracksMeeting 117 = .ok (.aload_n 1, 1) := by decide +kernel
theorem dX4_tracksMeeting_118 : decode cX4_tracksMeeting 118 = .ok (.getfield 322, 3) := by decide +kernel
theorem dX4_tracksMeeting_121 : decode cX4_tracksMeeting 121 = .ok (.ifCond .lt 21, 3) := by decide +kernel
theorem dX4_tracksMeeting_124 : decode cX4_tracksMeeting 124 = .ok (.aload_n 1, 1) := by decide +kernel
theorem dX4_tracksMeeting_125 : decode cX4_tracksMeeting 125 = .ok (.getfield 322, 3) := by decide +kernel
theorem dX4_tracksMeeting_128 : decode cX4_tracksMeeting 128 = .ok (.aload_n 2, 1) := by decide +kernel
theorem dX4_tracksMeeting_129 : decode cX4_tracksMeeting 129 = .ok (.arraylength, 1) := by decide +kernel
theorem dX4_tracksMeeting_130 : decode cX4_tracksMeeting 130 = .ok (.if_icmp .ge 12, 3) := by decide +kernel
theorem dX4_tracksMeeting_133 : decode cX4_tracksMeeting 133 = .ok (.aload_n 2, 1) := by decide +kernel
theorem dX4_tracksMeeting_134 : decode cX4_tracksMeeting 134 = .ok (.aload_n 1, 1) := by decide +kernel
theorem dX4_tracksMeeting_135 : decode cX4_tracksMeeting 135 = .ok (.getfield 322, 3) := by decide +kernel
theorem dX4_tracksMeeting_138 : decode cX4_tracksMeeting 138 = .ok (.iaload, 1) := by decide +kernel
theorem dX4_tracksMeeting_139 : decode cX4_tracksMeeting 139 = .ok (.goto 4, 3) := by decide +kernel
theorem dX4_tracksMeeting_142 : decode cX4_tracksMeeting 142 = .ok (.iconst 0, 1) := by decide +kernel
theorem dX4_tracksMeeting_143 : decode cX4_tracksMeeting 143 = .ok (.ireturn, 1) := by decide +kernel
theorem dX4_tracksMeeting_144 : decode cX4_tracksMeeting 144 = .ok (.aload_n 0, 1) := by decide +kernel
theorem dX4_tracksMeeting_145 : decode cX4_tracksMeeting 145 = .ok (.aload_n 0, 1) := by decide +kernel
theorem dX4_tracksMeeting_146 : decode cX4_tracksMeeting 146 = .ok (.aload_n 1, 1) := by decide +kernel
theorem dX4_tracksMeeting_147 : decode cX4_tracksMeeting 147 = .ok (.getfield 322, 3) := by decide +kernel
theorem dX4_tracksMeeting_150 : decode cX4_tracksMeeting 150 = .ok (.invokevirtual 325, 3) := by decide +kernel
theorem dX4_tracksMeeting_153 : decode cX4_tracksMeeting 153 = .ok (.invokevirtual 328, 3) := by decide +kernel
theorem dX4_tracksMeeting_156 : decode cX4_tracksMeeting 156 = .ok (.ireturn, 1) := by decide +kernel
theorem dX4_tracksMeeting_157 : decode cX4_tracksMeeting 157 = .ok (.aload_n 0, 1) := by decide +kernel
theorem dX4_tracksMeeting_158 : decode cX4_tracksMeeting 158 = .ok (.aload_n 1, 1) := by decide +kernel
theorem dX4_tracksMeeting_159 : decode cX4_tracksMeeting 159 = .ok (.getfield 309, 3) := by decide +kernel
theorem dX4_tracksMeeting_162 : decode cX4_tracksMeeting 162 = .ok (.aload_n 1, 1) := by decide +kernel
theorem dX4_tracksMeeting_163 : decode cX4_tracksMeeting 163 = .ok (.getfield 322, 3) := by decide +kernel
theorem dX4_tracksMeeting_166 : decode cX4_tracksMeeting 166 = .ok (.invokevirtual 331, 3) := by decide +kernel
theorem dX4_tracksMeeting_169 : decode cX4_tracksMeeting 169 = .ok (.ireturn, 1) := by decide +kernel
theorem dX4_tracksThere_0 : decode cX4_tracksThere 0 = .ok (.iconst 0, 1) := by decide +kernel
theorem dX4_tracksThere_1 : decode cX4_tracksThere 1 = .ok (.istore_n 1, 1) := by decide +kernel
theorem dX4_tracksThere_2 : decode cX4_tracksThere 2 = .ok (.iconst 0, 1) := by decide +kernel
theorem dX4_tracksThere_3 : decode cX4_tracksThere 3 = .ok (.istore_n 2, 1) := by decide +kernel
theorem dX4_tracksThere_4 : decode cX4_tracksThere 4 = .ok (.iload_n 2, 1) := by decide +kernel
theorem dX4_tracksThere_5 : decode cX4_tracksThere 5 = .ok (.bipush 24, 2) := by decide +kernel
theorem dX4_tracksThere_7 : decode cX4_tracksThere 7 = .ok (.if_icmp .ge 23, 3) := by decide +kernel
theorem dX4_tracksThere_10 : decode cX4_tracksThere 10 = .ok (.aload_n 0, 1) := by decide +kernel
theorem dX4_tracksThere_11 : decode cX4_tracksThere 11 = .ok (.iload_n 2, 1) := by decide +kernel
theorem dX4_tracksThere_12 : decode cX4_tracksThere 12 = .ok (.invokevirtual 172, 3) := by decide +kernel
theorem dX4_tracksThere_15 : decode cX4_tracksThere 15 = .ok (.ifnull 9, 3) := by decide +kernel
theorem dX4_tracksThere_18 : decode cX4_tracksThere 18 = .ok (.iload_n 1, 1) := by decide +kernel
theorem dX4_tracksThere_19 : decode cX4_tracksThere 19 = .ok (.iconst 1, 1) := by decide +kernel
theorem dX4_tracksThere_20 : decode cX4_tracksThere 20 = .ok (.iload_n 2, 1) := by decide +kernel
theorem dX4_tracksThere_21 : decode cX4_tracksThere 21 = .ok (.ishl, 1) := by decide +kernel
theorem dX4_tracksThere_22 : decode cX4_tracksThere 22 = .ok (.ior, 1) := by decide +kernel
theorem dX4_tracksThere_23 : decode cX4_tracksThere 23 = .ok (.istore_n 1, 1) := by decide +kernel
theorem dX4_tracksThere_24 : decode cX4_tracksThere 24 = .ok (.iinc 2 1, 3) := by decide +kernel
theorem dX4_tracksThere_27 : decode cX4_tracksThere 27 = .ok (.goto (-23), 3) := by decide +kernel
theorem dX4_tracksThere_30 : decode cX4_tracksThere 30 = .ok (.iload_n 1, 1) := by decide +kernel
theorem dX4_tracksThere_31 : decode cX4_tracksThere 31 = .ok (.ireturn, 1) := by decide +kernel
theorem dX4_tracksTagged_0 : decode cX4_tracksTagged 0 = .ok (.iconst 0, 1) := by decide +kernel
theorem dX4_tracksTagged_1 : decode cX4_tracksTagged 1 = .ok (.istore_n 2, 1) := by decide +kernel
theorem dX4_tracksTagged_2 : decode cX4_tracksTagged 2 = .ok (.iconst 0, 1) := by decide +kernel
theorem dX4_tracksTagged_3 : decode cX4_tracksTagged 3 = .ok (.istore_n 3, 1) := by decide +kernel
theorem dX4_tracksTagged_4 : decode cX4_tracksTagged 4 = .ok (.iload_n 3, 1) := by decide +kernel
theorem dX4_tracksTagged_5 : decode cX4_tracksTagged 5 = .ok (.bipush 24, 2) := by decide +kernel
theorem dX4_tracksTagged_7 : decode cX4_tracksTagged 7 = .ok (.if_icmp .ge 37, 3) := by decide +kernel
theorem dX4_tracksTagged_10 : decode cX4_tracksTagged 10 = .ok (.aload_n 0, 1) := by decide +kernel
theorem dX4_tracksTagged_11 : decode cX4_tracksTagged 11 = .ok (.iload_n 3, 1) := by decide +kernel
theorem dX4_tracksTagged_12 : decode cX4_tracksTagged 12 = .ok (.invokevirtual 172, 3) := by decide +kernel
theorem dX4_tracksTagged_15 : decode cX4_tracksTagged 15 = .ok (.astore 4, 2) := by decide +kernel
theorem dX4_tracksTagged_17 : decode cX4_tracksTagged 17 = .ok (.aload 4, 2) := by decide +kernel
theorem dX4_tracksTagged_19 : decode cX4_tracksTagged 19 = .ok (.ifnull 19, 3) := by decide +kernel
theorem dX4_tracksTagged_22 : decode cX4_tracksTagged 22 = .ok (.aload 4, 2) := by decide +kernel
theorem dX4_tracksTagged_24 : decode cX4_tracksTagged 24 = .ok (.getfield 136, 3) := by decide +kernel
theorem dX4_tracksTagged_27 : decode cX4_tracksTagged 27 = .ok (.iload_n 1, 1) := by decide +kernel
theorem dX4_tracksTagged_28 : decode cX4_tracksTagged 28 = .ok (.iand, 1) := by decide +kernel
theorem dX4_tracksTagged_29 : decode cX4_tracksTagged 29 = .ok (.ifCond .eq 9, 3) := by decide +kernel
theorem dX4_tracksTagged_32 : decode cX4_tracksTagged 32 = .ok (.iload_n 2, 1) := by decide +kernel
theorem dX4_tracksTagged_33 : decode cX4_tracksTagged 33 = .ok (.iconst 1, 1) := by decide +kernel
theorem dX4_tracksTagged_34 : decode cX4_tracksTagged 34 = .ok (.iload_n 3, 1) := by decide +kernel
theorem dX4_tracksTagged_35 : decode cX4_tracksTagged 35 = .ok (.ishl, 1) := by decide +kernel
theorem dX4_tracksTagged_36 : decode cX4_tracksTagged 36 = .ok (.ior, 1) := by decide +kernel
theorem dX4_tracksTagged_37 : decode cX4_tracksTagged 37 = .ok (.istore_n 2, 1) := by decide +kernel
theorem dX4_tracksTagged_38 : decode cX4_tracksTagged 38 = .ok (.iinc 3 1, 3) := by decide +kernel
theorem dX4_tracksTagged_41 : decode cX4_tracksTagged 41 = .ok (.goto (-37), 3) := by decide +kernel
theorem dX4_tracksTagged_44 : decode cX4_tracksTagged 44 = .ok (.iload_n 2, 1) := by decide +kernel
theorem dX4_tracksTagged_45 : decode cX4_tracksTagged 45 = .ok (.ireturn, 1) := by decide +kernel
theorem dX4_tracksMeetingNumber_0 : decode cX4_tracksMeetingNumber 0 = .ok (.iconst 0, 1) := by decide +kernel
theorem dX4_tracksMeetingNumber_1 : decode cX4_tracksMeetingNumber 1 = .ok (.istore_n 3, 1) := by decide +kernel
theorem dX4_tracksMeetingNumber_2 : decode cX4_tracksMeetingNumber 2 = .ok (.iconst 0, 1) := by decide +kernel
theorem dX4_tracksMeetingNumber_3 : decode cX4_tracksMeetingNumber 3 = .ok (.istore 4, 2) := by decide +kernel
theorem dX4_tracksMeetingNumber_5 : decode cX4_tracksMeetingNumber 5 = .ok (.iload 4, 2) := by decide +kernel
theorem dX4_tracksMeetingNumber_7 : decode cX4_tracksMeetingNumber 7 = .ok (.bipush 24, 2) := by decide +kernel
theorem dX4_tracksMeetingNumber_9 : decode cX4_tracksMeetingNumber 9 = .ok (.if_icmp .ge 40, 3) := by decide +kernel
theorem dX4_tracksMeetingNumber_12 : decode cX4_tracksMeetingNumber 12 = .ok (.aload_n 0, 1) := by decide +kernel
theorem dX4_tracksMeetingNumber_13 : decode cX4_tracksMeetingNumber 13 = .ok (.iload 4, 2) := by decide +kernel
theorem dX4_tracksMeetingNumber_15 : decode cX4_tracksMeetingNumber 15 = .ok (.invokevirtual 172, 3) := by decide +kernel
theorem dX4_tracksMeetingNumber_18 : decode cX4_tracksMeetingNumber 18 = .ok (.astore 5, 2) := by decide +kernel
theorem dX4_tracksMeetingNumber_20 : decode cX4_tracksMeetingNumber 20 = .ok (.aload 5, 2) := by decide +kernel
theorem dX4_tracksMeetingNumber_22 : decode cX4_tracksMeetingNumber 22 = .ok (.ifnull 21, 3) := by decide +kernel
theorem dX4_tracksMeetingNumber_25 : decode cX4_tracksMeetingNumber 25 = .ok (.aload_n 0, 1) := by decide +kernel
theorem dX4_tracksMeetingNumber_26 : decode cX4_tracksMeetingNumber 26 = .ok (.aload 5, 2) := by decide +kernel
theorem dX4_tracksMeetingNumber_28 : decode cX4_tracksMeetingNumber 28 = .ok (.iload_n 1, 1) := by decide +kernel
theorem dX4_tracksMeetingNumber_29 : decode cX4_tracksMeetingNumber 29 = .ok (.iload_n 2, 1) := by decide +kernel
theorem dX4_tracksMeetingNumber_30 : decode cX4_tracksMeetingNumber 30 = .ok (.invokevirtual 334, 3) := by decide +kernel
theorem dX4_tracksMeetingNumber_33 : decode cX4_tracksMeetingNumber 33 = .ok (.ifCond .eq 10, 3) := by decide +kernel
theorem dX4_tracksMeetingNumber_36 : decode cX4_tracksMeetingNumber 36 = .ok (.iload_n 3, 1) := by decide +kernel
theorem dX4_tracksMeetingNumber_37 : decode cX4_tracksMeetingNumber 37 = .ok (.iconst 1, 1) := by decide +kernel
theorem dX4_tracksMeetingNumber_38 : decode cX4_tracksMeetingNumber 38 = .ok (.iload 4, 2) := by decide +kernel
theorem dX4_tracksMeetingNumber_40 : decode cX4_tracksMeetingNumber 40 = .ok (.ishl, 1) := by decide +kernel
theorem dX4_tracksMeetingNumber_41 : decode cX4_tracksMeetingNumber 41 = .ok (.ior, 1) := by decide +kernel
theorem dX4_tracksMeetingNumber_42 : decode cX4_tracksMeetingNumber 42 = .ok (.istore_n 3, 1) := by decide +kernel
theorem dX4_tracksMeetingNumber_43 : decode cX4_tracksMeetingNumber 43 = .ok (.iinc 4 1, 3) := by decide +kernel
theorem dX4_tracksMeetingNumber_46 : decode cX4_tracksMeetingNumber 46 = .ok (.goto (-41), 3) := by decide +kernel
theorem dX4_tracksMeetingNumber_49 : decode cX4_tracksMeetingNumber 49 = .ok (.iload_n 3, 1) := by decide +kernel
theorem dX4_tracksMeetingNumber_50 : decode cX4_tracksMeetingNumber 50 = .ok (.ireturn, 1) := by decide +kernel
theorem dX4_meetsNumber_0 : decode cX4_meetsNumber 0 = .ok (.iload_n 2, 1) := by decide +kernel
theorem dX4_meetsNumber_1 : decode cX4_meetsNumber 1 = .ok (.tableswitch 100 1 4 #[31, 45, 59, 73], 31) := by decide +kernel
theorem dX4_meetsNumber_32 : decode cX4_meetsNumber 32 = .ok (.aload_n 1, 1) := by decide +kernel
theorem dX4_meetsNumber_33 : decode cX4_meetsNumber 33 = .ok (.getfield 101, 3) := by decide +kernel
theorem dX4_meetsNumber_36 : decode cX4_meetsNumber 36 = .ok (.iload_n 3, 1) := by decide +kernel
theorem dX4_meetsNumber_37 : decode cX4_meetsNumber 37 = .ok (.if_icmp .lt 7, 3) := by decide +kernel
theorem dX4_meetsNumber_40 : decode cX4_meetsNumber 40 = .ok (.iconst 1, 1) := by decide +kernel
theorem dX4_meetsNumber_41 : decode cX4_meetsNumber 41 = .ok (.goto 4, 3) := by decide +kernel
theorem dX4_meetsNumber_44 : decode cX4_meetsNumber 44 = .ok (.iconst 0, 1) := by decide +kernel
theorem dX4_meetsNumber_45 : decode cX4_meetsNumber 45 = .ok (.ireturn, 1) := by decide +kernel
theorem dX4_meetsNumber_46 : decode cX4_meetsNumber 46 = .ok (.aload_n 1, 1) := by decide +kernel
theorem dX4_meetsNumber_47 : decode cX4_meetsNumber 47 = .ok (.getfield 104, 3) := by decide +kernel
theorem dX4_meetsNumber_50 : decode cX4_meetsNumber 50 = .ok (.iload_n 3, 1) := by decide +kernel
theorem dX4_meetsNumber_51 : decode cX4_meetsNumber 51 = .ok (.if_icmp .gt 7, 3) := by decide +kernel
theorem dX4_meetsNumber_54 : decode cX4_meetsNumber 54 = .ok (.iconst 1, 1) := by decide +kernel
theorem dX4_meetsNumber_55 : decode cX4_meetsNumber 55 = .ok (.goto 4, 3) := by decide +kernel
theorem dX4_meetsNumber_58 : decode cX4_meetsNumber 58 = .ok (.iconst 0, 1) := by decide +kernel
theorem dX4_meetsNumber_59 : decode cX4_meetsNumber 59 = .ok (.ireturn, 1) := by decide +kernel
theorem dX4_meetsNumber_60 : decode cX4_meetsNumber 60 = .ok (.aload_n 1, 1) := by decide +kernel
theorem dX4_meetsNumber_61 : decode cX4_meetsNumber 61 = .ok (.getfield 112, 3) := by decide +kernel
theorem dX4_meetsNumber_64 : decode cX4_meetsNumber 64 = .ok (.iload_n 3, 1) := by decide +kernel
theorem dX4_meetsNumber_65 : decode cX4_meetsNumber 65 = .ok (.if_icmp .gt 7, 3) := by decide +kernel
theorem dX4_meetsNumber_68 : decode cX4_meetsNumber 68 = .ok (.iconst 1, 1) := by decide +kernel
theorem dX4_meetsNumber_69 : decode cX4_meetsNumber 69 = .ok (.goto 4, 3) := by decide +kernel
theorem dX4_meetsNumber_72 : decode cX4_meetsNumber 72 = .ok (.iconst 0, 1) := by decide +kernel
theorem dX4_meetsNumber_73 : decode cX4_meetsNumber 73 = .ok (.ireturn, 1) := by decide +kernel
theorem dX4_meetsNumber_74 : decode cX4_meetsNumber 74 = .ok (.aload_n 1, 1) := by decide +kernel
theorem dX4_meetsNumber_75 : decode cX4_meetsNumber 75 = .ok (.getfield 109, 3) := by decide +kernel
theorem dX4_meetsNumber_78 : decode cX4_meetsNumber 78 = .ok (.iconst (-1), 1) := by decide +kernel
theorem dX4_meetsNumber_79 : decode cX4_meetsNumber 79 = .ok (.if_icmp .eq 20, 3) := by decide +kernel
theorem dX4_meetsNumber_82 : decode cX4_meetsNumber 82 = .ok (.aload_n 0, 1) := by decide +kernel
theorem dX4_meetsNumber_83 : decode cX4_meetsNumber 83 = .ok (.getfield 68, 3) := by decide +kernel
theorem dX4_meetsNumber_86 : decode cX4_meetsNumber 86 = .ok (.aload_n 1, 1) := by decide +kernel
theorem dX4_meetsNumber_87 : decode cX4_meetsNumber 87 = .ok (.getfield 109, 3) := by decide +kernel
theorem dX4_meetsNumber_90 : decode cX4_meetsNumber 90 = .ok (.isub, 1) := by decide +kernel
theorem dX4_meetsNumber_91 : decode cX4_meetsNumber 91 = .ok (.iload_n 3, 1) := by decide +kernel
theorem dX4_meetsNumber_92 : decode cX4_meetsNumber 92 = .ok (.if_icmp .gt 7, 3) := by decide +kernel
theorem dX4_meetsNumber_95 : decode cX4_meetsNumber 95 = .ok (.iconst 1, 1) := by decide +kernel
theorem dX4_meetsNumber_96 : decode cX4_meetsNumber 96 = .ok (.goto 4, 3) := by decide +kernel
theorem dX4_meetsNumber_99 : decode cX4_meetsNumber 99 = .ok (.iconst 0, 1) := by decide +kernel
theorem dX4_meetsNumber_100 : decode cX4_meetsNumber 100 = .ok (.ireturn, 1) := by decide +kernel
theorem dX4_meetsNumber_101 : decode cX4_meetsNumber 101 = .ok (.iconst 0, 1) := by decide +kernel
theorem dX4_meetsNumber_102 : decode cX4_meetsNumber 102 = .ok (.ireturn, 1) := by decide +kernel
theorem dX4_withListsBehind_0 : decode cX4_withListsBehind 0 = .ok (.iload_n 1, 1) := by decide +kernel
theorem dX4_withListsBehind_1 : decode cX4_withListsBehind 1 = .ok (.istore_n 2, 1) := by decide +kernel
theorem dX4_withListsBehind_2 : decode cX4_withListsBehind 2 = .ok (.iconst 0, 1) := by decide +kernel
theorem dX4_withListsBehind_3 : decode cX4_withListsBehind 3 = .ok (.istore_n 3, 1) := by decide +kernel
theorem dX4_withListsBehind_4 : decode cX4_withListsBehind 4 = .ok (.iload_n 3, 1) := by decide +kernel
theorem dX4_withListsBehind_5 : decode cX4_withListsBehind 5 = .ok (.bipush 8, 2) := by decide +kernel
theorem dX4_withListsBehind_7 : decode cX4_withListsBehind 7 = .ok (.if_icmp .ge 58, 3) := by decide +kernel
theorem dX4_withListsBehind_10 : decode cX4_withListsBehind 10 = .ok (.iconst 0, 1) := by decide +kernel
theorem dX4_withListsBehind_11 : decode cX4_withListsBehind 11 = .ok (.istore 4, 2) := by decide +kernel
theorem dX4_withListsBehind_13 : decode cX4_withListsBehind 13 = .ok (.iload 4, 2) := by decide +kernel
theorem dX4_withListsBehind_15 : decode cX4_withListsBehind 15 = .ok (.bipush 8, 2) := by decide +kernel
theorem dX4_withListsBehind_17 : decode cX4_withListsBehind 17 = .ok (.if_icmp .ge 42, 3) := by decide +kernel
theorem dX4_withListsBehind_20 : decode cX4_withListsBehind 20 = .ok (.aload_n 0, 1) := by decide +kernel
theorem dX4_withListsBehind_21 : decode cX4_withListsBehind 21 = .ok (.iload 4, 2) := by decide +kernel
theorem dX4_withListsBehind_23 : decode cX4_withListsBehind 23 = .ok (.invokevirtual 287, 3) := by decide +kernel
theorem dX4_withListsBehind_26 : decode cX4_withListsBehind 26 = .ok (.astore 5, 2) := by decide +kernel
theorem dX4_withListsBehind_28 : decode cX4_withListsBehind 28 = .ok (.aload 5, 2) := by decide +kernel
theorem dX4_withListsBehind_30 : decode cX4_withListsBehind 30 = .ok (.ifnull 23, 3) := by decide +kernel
theorem dX4_withListsBehind_33 : decode cX4_withListsBehind 33 = .ok (.iload_n 2, 1) := by decide +kernel
theorem dX4_withListsBehind_34 : decode cX4_withListsBehind 34 = .ok (.iload 4, 2) := by decide +kernel
theorem dX4_withListsBehind_36 : decode cX4_withListsBehind 36 = .ok (.invokestatic 209, 3) := by decide +kernel
theorem dX4_withListsBehind_39 : decode cX4_withListsBehind 39 = .ok (.ifCond .eq 14, 3) := by decide +kernel
theorem dX4_withListsBehind_42 : decode cX4_withListsBehind 42 = .ok (.iload_n 2, 1) := by decide +kernel
theorem dX4_withListsBehind_43 : decode cX4_withListsBehind 43 = .ok (.aload 5, 2) := by decide +kernel
theorem dX4_withListsBehind_45 : decode cX4_withListsBehind 45 = .ok (.getfield 215, 3) := by decide +kernel
theorem dX4_withListsBehind_48 : decode cX4_withListsBehind 48 = .ok (.getfield 202, 3) := by decide +kernel
theorem dX4_withListsBehind_51 : decode cX4_withListsBehind 51 = .ok (.ior, 1) := by decide +kernel
theorem dX4_withListsBehind_52 : decode cX4_withListsBehind 52 = .ok (.istore_n 2, 1) := by decide +kernel
theorem dX4_withListsBehind_53 : decode cX4_withListsBehind 53 = .ok (.iinc 4 1, 3) := by decide +kernel
theorem dX4_withListsBehind_56 : decode cX4_withListsBehind 56 = .ok (.goto (-43), 3) := by decide +kernel
theorem dX4_withListsBehind_59 : decode cX4_withListsBehind 59 = .ok (.iinc 3 1, 3) := by decide +kernel
theorem dX4_withListsBehind_62 : decode cX4_withListsBehind 62 = .ok (.goto (-58), 3) := by decide +kernel
theorem dX4_withListsBehind_65 : decode cX4_withListsBehind 65 = .ok (.iload_n 2, 1) := by decide +kernel
theorem dX4_withListsBehind_66 : decode cX4_withListsBehind 66 = .ok (.ireturn, 1) := by decide +kernel
theorem dX4_update_0 : decode cX4_update 0 = .ok (.aload_n 0, 1) := by decide +kernel
theorem dX4_update_1 : decode cX4_update 1 = .ok (.getfield 49, 3) := by decide +kernel
theorem dX4_update_4 : decode cX4_update 4 = .ok (.iconst 0, 1) := by decide +kernel
theorem dX4_update_5 : decode cX4_update 5 = .ok (.aload_n 0, 1) := by decide +kernel
theorem dX4_update_6 : decode cX4_update 6 = .ok (.getfield 53, 3) := by decide +kernel
theorem dX4_update_9 : decode cX4_update 9 = .ok (.iconst 0, 1) := by decide +kernel
theorem dX4_update_10 : decode cX4_update 10 = .ok (.bipush 8, 2) := by decide +kernel
theorem dX4_update_12 : decode cX4_update 12 = .ok (.invokestatic 338, 3) := by decide +kernel
theorem dX4_update_15 : decode cX4_update 15 = .ok (.aload_n 0, 1) := by decide +kernel
theorem dX4_update_16 : decode cX4_update 16 = .ok (.invokevirtual 199, 3) := by decide +kernel
theorem dX4_update_19 : decode cX4_update 19 = .ok (.aload_n 0, 1) := by decide +kernel
theorem dX4_update_20 : decode cX4_update 20 = .ok (.iconst 0, 1) := by decide +kernel
theorem dX4_update_21 : decode cX4_update 21 = .ok (.putfield 75, 3) := by decide +kernel
theorem dX4_update_24 : decode cX4_update 24 = .ok (.iconst 0, 1) := by decide +kernel
theorem dX4_update_25 : decode cX4_update 25 = .ok (.istore_n 1, 1) := by decide +kernel
theorem dX4_update_26 : decode cX4_update 26 = .ok (.iload_n 1, 1) := by decide +kernel
theorem dX4_update_27 : decode cX4_update 27 = .ok (.bipush 8, 2) := by decide +kernel
theorem dX4_update_29 : decode cX4_update 29 = .ok (.if_icmp .ge 34, 3) := by decide +kernel
theorem dX4_update_32 : decode cX4_update 32 = .ok (.aload_n 0, 1) := by decide +kernel
theorem dX4_update_33 : decode cX4_update 33 = .ok (.getfield 49, 3) := by decide +kernel
theorem dX4_update_36 : decode cX4_update 36 = .ok (.iload_n 1, 1) := by decide +kernel
theorem dX4_update_37 : decode cX4_update 37 = .ok (.iaload, 1) := by decide +kernel
theorem dX4_update_38 : decode cX4_update 38 = .ok (.aload_n 0, 1) := by decide +kernel
theorem dX4_update_39 : decode cX4_update 39 = .ok (.getfield 53, 3) := by decide +kernel
theorem dX4_update_42 : decode cX4_update 42 = .ok (.iload_n 1, 1) := by decide +kernel
theorem dX4_update_43 : decode cX4_update 43 = .ok (.iaload, 1) := by decide +kernel
theorem dX4_update_44 : decode cX4_update 44 = .ok (.if_icmp .eq 13, 3) := by decide +kernel
theorem dX4_update_47 : decode cX4_update 47 = .ok (.aload_n 0, 1) := by decide +kernel
theorem dX4_update_48 : decode cX4_update 48 = .ok (.dup, 1) := by decide +kernel
theorem dX4_update_49 : decode cX4_update 49 = .ok (.getfield 75, 3) := by decide +kernel
theorem dX4_update_52 : decode cX4_update 52 = .ok (.iconst 1, 1) := by decide +kernel
theorem dX4_update_53 : decode cX4_update 53 = .ok (.iadd, 1) := by decide +kernel
theorem dX4_update_54 : decode cX4_update 54 = .ok (.putfield 75, 3) := by decide +kernel
theorem dX4_update_57 : decode cX4_update 57 = .ok (.iinc 1 1, 3) := by decide +kernel
theorem dX4_update_60 : decode cX4_update 60 = .ok (.goto (-34), 3) := by decide +kernel
theorem dX4_update_63 : decode cX4_update 63 = .ok (.return_, 1) := by decide +kernel
theorem dX4_fillKept_0 : decode cX4_fillKept 0 = .ok (.iconst 0, 1) := by decide +kernel
theorem dX4_fillKept_1 : decode cX4_fillKept 1 = .ok (.istore_n 1, 1) := by decide +kernel
theorem dX4_fillKept_2 : decode cX4_fillKept 2 = .ok (.iconst 0, 1) := by decide +kernel
theorem dX4_fillKept_3 : decode cX4_fillKept 3 = .ok (.istore_n 2, 1) := by decide +kernel
theorem dX4_fillKept_4 : decode cX4_fillKept 4 = .ok (.iload_n 2, 1) := by decide +kernel
theorem dX4_fillKept_5 : decode cX4_fillKept 5 = .ok (.bipush 8, 2) := by decide +kernel
theorem dX4_fillKept_7 : decode cX4_fillKept 7 = .ok (.if_icmp .ge 80, 3) := by decide +kernel
theorem dX4_fillKept_10 : decode cX4_fillKept 10 = .ok (.iconst 0, 1) := by decide +kernel
theorem dX4_fillKept_11 : decode cX4_fillKept 11 = .ok (.istore_n 3, 1) := by decide +kernel
theorem dX4_fillKept_12 : decode cX4_fillKept 12 = .ok (.iload_n 3, 1) := by decide +kernel
theorem dX4_fillKept_13 : decode cX4_fillKept 13 = .ok (.bipush 8, 2) := by decide +kernel
theorem dX4_fillKept_15 : decode cX4_fillKept 15 = .ok (.if_icmp .ge 66, 3) := by decide +kernel
theorem dX4_fillKept_18 : decode cX4_fillKept 18 = .ok (.aload_n 0, 1) := by decide +kernel
theorem dX4_fillKept_19 : decode cX4_fillKept 19 = .ok (.iload_n 3, 1) := by decide +kernel
theorem dX4_fillKept_20 : decode cX4_fillKept 20 = .ok (.invokevirtual 287, 3) := by decide +kernel
theorem dX4_fillKept_23 : decode cX4_fillKept 23 = .ok (.astore 4, 2) := by decide +kernel
theorem dX4_fillKept_25 : decode cX4_fillKept 25 = .ok (.aload 4, 2) := by decide +kernel
theorem dX4_fillKept_27 : decode cX4_fillKept 27 = .ok (.ifnull 48, 3) := by decide +kernel
theorem dX4_fillKept_30 : decode cX4_fillKept 30 = .ok (.iload_n 1, 1) := by decide +kernel
theorem dX4_fillKept_31 : decode cX4_fillKept 31 = .ok (.iload_n 3, 1) := by decide +kernel
theorem dX4_fillKept_32 : decode cX4_fillKept 32 = .ok (.invokestatic 209, 3) := by decide +kernel
theorem dX4_fillKept_35 : decode cX4_fillKept 35 = .ok (.ifCond .ne 40, 3) := by decide +kernel
theorem dX4_fillKept_38 : decode cX4_fillKept 38 = .ok (.aload 4, 2) := by decide +kernel
theorem dX4_fillKept_40 : decode cX4_fillKept 40 = .ok (.getfield 215, 3) := by decide +kernel
theorem dX4_fillKept_43 : decode cX4_fillKept 43 = .ok (.getfield 202, 3) := by decide +kernel
theorem dX4_fillKept_46 : decode cX4_fillKept 46 = .ok (.iload_n 1, 1) := by decide +kernel
theorem dX4_fillKept_47 : decode cX4_fillKept 47 = .ok (.iconst (-1), 1) := by decide +kernel
theorem dX4_fillKept_48 : decode cX4_fillKept 48 = .ok (.ixor, 1) := by decide +kernel
theorem dX4_fillKept_49 : decode cX4_fillKept 49 = .ok (.iand, 1) := by decide +kernel
theorem dX4_fillKept_50 : decode cX4_fillKept 50 = .ok (.ifCond .ne 25, 3) := by decide +kernel
theorem dX4_fillKept_53 : decode cX4_fillKept 53 = .ok (.aload_n 0, 1) := by decide +kernel
theorem dX4_fillKept_54 : decode cX4_fillKept 54 = .ok (.getfield 49, 3) := by decide +kernel
theorem dX4_fillKept_57 : decode cX4_fillKept 57 = .ok (.iload_n 3, 1) := by decide +kernel
theorem dX4_fillKept_58 : decode cX4_fillKept 58 = .ok (.aload_n 0, 1) := by decide +kernel
theorem dX4_fillKept_59 : decode cX4_fillKept 59 = .ok (.aload 4, 2) := by decide +kernel
theorem dX4_fillKept_61 : decode cX4_fillKept 61 = .ok (.aload_n 0, 1) := by decide +kernel
theorem dX4_fillKept_62 : decode cX4_fillKept 62 = .ok (.getfield 49, 3) := by decide +kernel
theorem dX4_fillKept_65 : decode cX4_fillKept 65 = .ok (.invokevirtual 344, 3) := by decide +kernel
theorem dX4_fillKept_68 : decode cX4_fillKept 68 = .ok (.iastore, 1) := by decide +kernel
theorem dX4_fillKept_69 : decode cX4_fillKept 69 = .ok (.iload_n 1, 1) := by decide +kernel
theorem dX4_fillKept_70 : decode cX4_fillKept 70 = .ok (.iconst 1, 1) := by decide +kernel
theorem dX4_fillKept_71 : decode cX4_fillKept 71 = .ok (.iload_n 3, 1) := by decide +kernel
theorem dX4_fillKept_72 : decode cX4_fillKept 72 = .ok (.ishl, 1) := by decide +kernel
theorem dX4_fillKept_73 : decode cX4_fillKept 73 = .ok (.ior, 1) := by decide +kernel
theorem dX4_fillKept_74 : decode cX4_fillKept 74 = .ok (.istore_n 1, 1) := by decide +kernel
theorem dX4_fillKept_75 : decode cX4_fillKept 75 = .ok (.iinc 3 1, 3) := by decide +kernel
theorem dX4_fillKept_78 : decode cX4_fillKept 78 = .ok (.goto (-66), 3) := by decide +kernel
theorem dX4_fillKept_81 : decode cX4_fillKept 81 = .ok (.iinc 2 1, 3) := by decide +kernel
theorem dX4_fillKept_84 : decode cX4_fillKept 84 = .ok (.goto (-80), 3) := by decide +kernel
theorem dX4_fillKept_87 : decode cX4_fillKept 87 = .ok (.return_, 1) := by decide +kernel
theorem dX4_fillByRounds_0 : decode cX4_fillByRounds 0 = .ok (.aload_n 0, 1) := by decide +kernel
theorem dX4_fillByRounds_1 : decode cX4_fillByRounds 1 = .ok (.getfield 56, 3) := by decide +kernel
theorem dX4_fillByRounds_4 : decode cX4_fillByRounds 4 = .ok (.iconst 0, 1) := by decide +kernel
theorem dX4_fillByRounds_5 : decode cX4_fillByRounds 5 = .ok (.invokestatic 348, 3) := by decide +kernel
theorem dX4_fillByRounds_8 : decode cX4_fillByRounds 8 = .ok (.iconst 1, 1) := by decide +kernel
theorem dX4_fillByRounds_9 : decode cX4_fillByRounds 9 = .ok (.istore_n 1, 1) := by decide +kernel
theorem dX4_fillByRounds_10 : decode cX4_fillByRounds 10 = .ok (.iconst 0, 1) := by decide +kernel
theorem dX4_fillByRounds_11 : decode cX4_fillByRounds 11 = .ok (.istore_n 2, 1) := by decide +kernel
theorem dX4_fillByRounds_12 : decode cX4_fillByRounds 12 = .ok (.iload_n 1, 1) := by decide +kernel
theorem dX4_fillByRounds_13 : decode cX4_fillByRounds 13 = .ok (.ifCond .eq 80, 3) := by decide +kernel
theorem dX4_fillByRounds_16 : decode cX4_fillByRounds 16 = .ok (.iload_n 2, 1) := by decide +kernel
theorem dX4_fillByRounds_17 : decode cX4_fillByRounds 17 = .ok (.bipush 8, 2) := by decide +kernel
theorem dX4_fillByRounds_19 : decode cX4_fillByRounds 19 = .ok (.if_icmp .gt 74, 3) := by decide +kernel
theorem dX4_fillByRounds_22 : decode cX4_fillByRounds 22 = .ok (.iconst 0, 1) := by decide +kernel
theorem dX4_fillByRounds_23 : decode cX4_fillByRounds 23 = .ok (.istore_n 1, 1) := by decide +kernel
theorem dX4_fillByRounds_24 : decode cX4_fillByRounds 24 = .ok (.iconst 0, 1) := by decide +kernel
theorem dX4_fillByRounds_25 : decode cX4_fillByRounds 25 = .ok (.istore_n 3, 1) := by decide +kernel
theorem dX4_fillByRounds_26 : decode cX4_fillByRounds 26 = .ok (.iload_n 3, 1) := by decide +kernel
theorem dX4_fillByRounds_27 : decode cX4_fillByRounds 27 = .ok (.bipush 8, 2) := by decide +kernel
theorem dX4_fillByRounds_29 : decode cX4_fillByRounds 29 = .ok (.if_icmp .ge 58, 3) := by decide +kernel
theorem dX4_fillByRounds_32 : decode cX4_fillByRounds 32 = .ok (.aload_n 0, 1) := by decide +kernel
theorem dX4_fillByRounds_33 : decode cX4_fillByRounds 33 = .ok (.iload_n 3, 1) := by decide +kernel
theorem dX4_fillByRounds_34 : decode cX4_fillByRounds 34 = .ok (.invokevirtual 287, 3) := by decide +kernel
theorem dX4_fillByRounds_37 : decode cX4_fillByRounds 37 = .ok (.astore 4, 2) := by decide +kernel
theorem dX4_fillByRounds_39 : decode cX4_fillByRounds 39 = .ok (.aload 4, 2) := by decide +kernel
theorem dX4_fillByRounds_41 : decode cX4_fillByRounds 41 = .ok (.ifnonnull 7, 3) := by decide +kernel
theorem dX4_fillByRounds_44 : decode cX4_fillByRounds 44 = .ok (.iconst 0, 1) := by decide +kernel
theorem dX4_fillByRounds_45 : decode cX4_fillByRounds 45 = .ok (.goto 13, 3) := by decide +kernel
theorem dX4_fillByRounds_48 : decode cX4_fillByRounds 48 = .ok (.aload_n 0, 1) := by decide +kernel
theorem dX4_fillByRounds_49 : decode cX4_fillByRounds 49 = .ok (.aload 4, 2) := by decide +kernel
theorem dX4_fillByRounds_51 : decode cX4_fillByRounds 51 = .ok (.aload_n 0, 1) := by decide +kernel
theorem dX4_fillByRounds_52 : decode cX4_fillByRounds 52 = .ok (.getfield 56, 3) := by decide +kernel
theorem dX4_fillByRounds_55 : decode cX4_fillByRounds 55 = .ok (.invokevirtual 344, 3) := by decide +kernel
theorem dX4_fillByRounds_58 : decode cX4_fillByRounds 58 = .ok (.istore 5, 2) := by decide +kernel
theorem dX4_fillByRounds_60 : decode cX4_fillByRounds 60 = .ok (.iload 5, 2) := by decide +kernel
theorem dX4_fillByRounds_62 : decode cX4_fillByRounds 62 = .ok (.aload_n 0, 1) := by decide +kernel
theorem dX4_fillByRounds_63 : decode cX4_fillByRounds 63 = .ok (.getfield 56, 3) := by decide +kernel
theorem dX4_fillByRounds_66 : decode cX4_fillByRounds 66 = .ok (.iload_n 3, 1) := by decide +kernel
theorem dX4_fillByRounds_67 : decode cX4_fillByRounds 67 = .ok (.iaload, 1) := by decide +kernel
theorem dX4_fillByRounds_68 : decode cX4_fillByRounds 68 = .ok (.if_icmp .eq 13, 3) := by decide +kernel
theorem dX4_fillByRounds_71 : decode cX4_fillByRounds 71 = .ok (.aload_n 0, 1) := by decide +kernel
theorem dX4_fillByRounds_72 : decode cX4_fillByRounds 72 = .ok (.getfield 56, 3) := by decide +kernel
theorem dX4_fillByRounds_75 : decode cX4_fillByRounds 75 = .ok (.iload_n 3, 1) := by decide +kernel
theorem dX4_fillByRounds_76 : decode cX4_fillByRounds 76 = .ok (.iload 5, 2) := by decide +kernel
theorem dX4_fillByRounds_78 : decode cX4_fillByRounds 78 = .ok (.iastore, 1) := by decide +kernel
theorem dX4_fillByRounds_79 : decode cX4_fillByRounds 79 = .ok (.iconst 1, 1) := by decide +kernel
theorem dX4_fillByRounds_80 : decode cX4_fillByRounds 80 = .ok (.istore_n 1, 1) := by decide +kernel
theorem dX4_fillByRounds_81 : decode cX4_fillByRounds 81 = .ok (.iinc 3 1, 3) := by decide +kernel
theorem dX4_fillByRounds_84 : decode cX4_fillByRounds 84 = .ok (.goto (-58), 3) := by decide +kernel
theorem dX4_fillByRounds_87 : decode cX4_fillByRounds 87 = .ok (.iinc 2 1, 3) := by decide +kernel
theorem dX4_fillByRounds_90 : decode cX4_fillByRounds 90 = .ok (.goto (-78), 3) := by decide +kernel
theorem dX4_fillByRounds_93 : decode cX4_fillByRounds 93 = .ok (.return_, 1) := by decide +kernel
theorem dX4_chosen_0 : decode cX4_chosen 0 = .ok (.aload_n 0, 1) := by decide +kernel
theorem dX4_chosen_1 : decode cX4_chosen 1 = .ok (.aload_n 1, 1) := by decide +kernel
theorem dX4_chosen_2 : decode cX4_chosen 2 = .ok (.getfield 215, 3) := by decide +kernel
theorem dX4_chosen_5 : decode cX4_chosen 5 = .ok (.aload_n 2, 1) := by decide +kernel
theorem dX4_chosen_6 : decode cX4_chosen 6 = .ok (.invokevirtual 246, 3) := by decide +kernel
theorem dX4_chosen_9 : decode cX4_chosen 9 = .ok (.istore_n 3, 1) := by decide +kernel
theorem dX4_chosen_10 : decode cX4_chosen 10 = .ok (.iconst 0, 1) := by decide +kernel
theorem dX4_chosen_11 : decode cX4_chosen 11 = .ok (.istore 4, 2) := by decide +kernel
theorem dX4_chosen_13 : decode cX4_chosen 13 = .ok (.iconst 0, 1) := by decide +kernel
theorem dX4_chosen_14 : decode cX4_chosen 14 = .ok (.istore 5, 2) := by decide +kernel
theorem dX4_chosen_16 : decode cX4_chosen 16 = .ok (.iload_n 3, 1) := by decide +kernel
theorem dX4_chosen_17 : decode cX4_chosen 17 = .ok (.invokestatic 250, 3) := by decide +kernel
theorem dX4_chosen_20 : decode cX4_chosen 20 = .ok (.istore 6, 2) := by decide +kernel
theorem dX4_chosen_22 : decode cX4_chosen 22 = .ok (.iload 6, 2) := by decide +kernel
theorem dX4_chosen_24 : decode cX4_chosen 24 = .ok (.ifCond .le 71, 3) := by decide +kernel
theorem dX4_chosen_27 : decode cX4_chosen 27 = .ok (.aload_n 0, 1) := by decide +kernel
theorem dX4_chosen_28 : decode cX4_chosen 28 = .ok (.iload_n 3, 1) := by decide +kernel
theorem dX4_chosen_29 : decode cX4_chosen 29 = .ok (.aload_n 1, 1) := by decide +kernel
theorem dX4_chosen_30 : decode cX4_chosen 30 = .ok (.getfield 220, 3) := by decide +kernel
theorem dX4_chosen_33 : decode cX4_chosen 33 = .ok (.invokevirtual 257, 3) := by decide +kernel
theorem dX4_chosen_36 : decode cX4_chosen 36 = .ok (.istore 7, 2) := by decide +kernel
theorem dX4_chosen_38 : decode cX4_chosen 38 = .ok (.iload_n 3, 1) := by decide +kernel
theorem dX4_chosen_39 : decode cX4_chosen 39 = .ok (.iconst 1, 1) := by decide +kernel
theorem dX4_chosen_40 : decode cX4_chosen 40 = .ok (.iload 7, 2) := by decide +kernel
theorem dX4_chosen_42 : decode cX4_chosen 42 = .ok (.ishl, 1) := by decide +kernel
theorem dX4_chosen_43 : decode cX4_chosen 43 = .ok (.iconst (-1), 1) := by decide +kernel
theorem dX4_chosen_44 : decode cX4_chosen 44 = .ok (.ixor, 1) := by decide +kernel
theorem dX4_chosen_45 : decode cX4_chosen 45 = .ok (.iand, 1) := by decide +kernel
theorem dX4_chosen_46 : decode cX4_chosen 46 = .ok (.istore_n 3, 1) := by decide +kernel
theorem dX4_chosen_47 : decode cX4_chosen 47 = .ok (.iload 5, 2) := by decide +kernel
theorem dX4_chosen_49 : decode cX4_chosen 49 = .ok (.aload_n 0, 1) := by decide +kernel
theorem dX4_chosen_50 : decode cX4_chosen 50 = .ok (.iconst 1, 1) := by decide +kernel
theorem dX4_chosen_51 : decode cX4_chosen 51 = .ok (.iload 7, 2) := by decide +kernel
theorem dX4_chosen_53 : decode cX4_chosen 53 = .ok (.ishl, 1) := by decide +kernel
theorem dX4_chosen_54 : decode cX4_chosen 54 = .ok (.invokevirtual 264, 3) := by decide +kernel
theorem dX4_chosen_57 : decode cX4_chosen 57 = .ok (.iadd, 1) := by decide +kernel
theorem dX4_chosen_58 : decode cX4_chosen 58 = .ok (.istore 8, 2) := by decide +kernel
theorem dX4_chosen_60 : decode cX4_chosen 60 = .ok (.aload_n 1, 1) := by decide +kernel
theorem dX4_chosen_61 : decode cX4_chosen 61 = .ok (.getfield 224, 3) := by decide +kernel
theorem dX4_chosen_64 : decode cX4_chosen 64 = .ok (.ifCond .eq 12, 3) := by decide +kernel
theorem dX4_chosen_67 : decode cX4_chosen 67 = .ok (.iload 8, 2) := by decide +kernel
theorem dX4_chosen_69 : decode cX4_chosen 69 = .ok (.aload_n 1, 1) := by decide +kernel
theorem dX4_chosen_70 : decode cX4_chosen 70 = .ok (.getfield 224, 3) := by decide +kernel
theorem dX4_chosen_73 : decode cX4_chosen 73 = .ok (.if_icmp .gt 16, 3) := by decide +kernel
theorem dX4_chosen_76 : decode cX4_chosen 76 = .ok (.iload 4, 2) := by decide +kernel
theorem dX4_chosen_78 : decode cX4_chosen 78 = .ok (.iconst 1, 1) := by decide +kernel
theorem dX4_chosen_79 : decode cX4_chosen 79 = .ok (.iload 7, 2) := by decide +kernel
theorem dX4_chosen_81 : decode cX4_chosen 81 = .ok (.ishl, 1) := by decide +kernel
theorem dX4_chosen_82 : decode cX4_chosen 82 = .ok (.ior, 1) := by decide +kernel
theorem dX4_chosen_83 : decode cX4_chosen 83 = .ok (.istore 4, 2) := by decide +kernel
theorem dX4_chosen_85 : decode cX4_chosen 85 = .ok (.iload 8, 2) := by decide +kernel
theorem dX4_chosen_87 : decode cX4_chosen 87 = .ok (.istore 5, 2) := by decide +kernel
theorem dX4_chosen_89 : decode cX4_chosen 89 = .ok (.iinc 6 (-1), 3) := by decide +kernel
theorem dX4_chosen_92 : decode cX4_chosen 92 = .ok (.goto (-70), 3) := by decide +kernel
theorem dX4_chosen_95 : decode cX4_chosen 95 = .ok (.iload 4, 2) := by decide +kernel
theorem dX4_chosen_97 : decode cX4_chosen 97 = .ok (.ireturn, 1) := by decide +kernel
theorem dX4_firstOf_0 : decode cX4_firstOf 0 = .ok (.aconst_null, 1) := by decide +kernel
theorem dX4_firstOf_1 : decode cX4_firstOf 1 = .ok (.astore_n 3, 1) := by decide +kernel
theorem dX4_firstOf_2 : decode cX4_firstOf 2 = .ok (.iconst 0, 1) := by decide +kernel
theorem dX4_firstOf_3 : decode cX4_firstOf 3 = .ok (.istore 4, 2) := by decide +kernel
theorem dX4_firstOf_5 : decode cX4_firstOf 5 = .ok (.iload 4, 2) := by decide +kernel
theorem dX4_firstOf_7 : decode cX4_firstOf 7 = .ok (.bipush 24, 2) := by decide +kernel
theorem dX4_firstOf_9 : decode cX4_firstOf 9 = .ok (.if_icmp .ge 52, 3) := by decide +kernel
theorem dX4_firstOf_12 : decode cX4_firstOf 12 = .ok (.aload_n 0, 1) := by decide +kernel
theorem dX4_firstOf_13 : decode cX4_firstOf 13 = .ok (.iload 4, 2) := by decide +kernel
theorem dX4_firstOf_15 : decode cX4_firstOf 15 = .ok (.invokevirtual 172, 3) := by decide +kernel
theorem dX4_firstOf_18 : decode cX4_firstOf 18 = .ok (.astore 5, 2) := by decide +kernel
theorem dX4_firstOf_20 : decode cX4_firstOf 20 = .ok (.aload 5, 2) := by decide +kernel
theorem dX4_firstOf_22 : decode cX4_firstOf 22 = .ok (.ifnull 33, 3) := by decide +kernel
theorem dX4_firstOf_25 : decode cX4_firstOf 25 = .ok (.iload_n 1, 1) := by decide +kernel
theorem dX4_firstOf_26 : decode cX4_firstOf 26 = .ok (.iload 4, 2) := by decide +kernel
theorem dX4_firstOf_28 : decode cX4_firstOf 28 = .ok (.invokestatic 209, 3) := by decide +kernel
theorem dX4_firstOf_31 : decode cX4_firstOf 31 = .ok (.ifCond .eq 24, 3) := by decide +kernel
theorem dX4_firstOf_34 : decode cX4_firstOf 34 = .ok (.aload_n 3, 1) := by decide +kernel
theorem dX4_firstOf_35 : decode cX4_firstOf 35 = .ok (.ifnull 17, 3) := by decide +kernel
theorem dX4_firstOf_38 : decode cX4_firstOf 38 = .ok (.aload 5, 2) := by decide +kernel
theorem dX4_firstOf_40 : decode cX4_firstOf 40 = .ok (.iload_n 2, 1) := by decide +kernel
theorem dX4_firstOf_41 : decode cX4_firstOf 41 = .ok (.invokestatic 354, 3) := by decide +kernel
theorem dX4_firstOf_44 : decode cX4_firstOf 44 = .ok (.aload_n 3, 1) := by decide +kernel
theorem dX4_firstOf_45 : decode cX4_firstOf 45 = .ok (.iload_n 2, 1) := by decide +kernel
theorem dX4_firstOf_46 : decode cX4_firstOf 46 = .ok (.invokestatic 354, 3) := by decide +kernel
theorem dX4_firstOf_49 : decode cX4_firstOf 49 = .ok (.if_icmp .ge 6, 3) := by decide +kernel
theorem dX4_firstOf_52 : decode cX4_firstOf 52 = .ok (.aload 5, 2) := by decide +kernel
theorem dX4_firstOf_54 : decode cX4_firstOf 54 = .ok (.astore_n 3, 1) := by decide +kernel
theorem dX4_firstOf_55 : decode cX4_firstOf 55 = .ok (.iinc 4 1, 3) := by decide +kernel
theorem dX4_firstOf_58 : decode cX4_firstOf 58 = .ok (.goto (-53), 3) := by decide +kernel
theorem dX4_firstOf_61 : decode cX4_firstOf 61 = .ok (.aload_n 3, 1) := by decide +kernel
theorem dX4_firstOf_62 : decode cX4_firstOf 62 = .ok (.ifnonnull 7, 3) := by decide +kernel
theorem dX4_firstOf_65 : decode cX4_firstOf 65 = .ok (.iconst 0, 1) := by decide +kernel
theorem dX4_firstOf_66 : decode cX4_firstOf 66 = .ok (.goto 7, 3) := by decide +kernel
theorem dX4_firstOf_69 : decode cX4_firstOf 69 = .ok (.aload_n 3, 1) := by decide +kernel
theorem dX4_firstOf_70 : decode cX4_firstOf 70 = .ok (.getfield 98, 3) := by decide +kernel
theorem dX4_firstOf_73 : decode cX4_firstOf 73 = .ok (.ireturn, 1) := by decide +kernel
theorem dX4_placeIn_0 : decode cX4_placeIn 0 = .ok (.iload_n 1, 1) := by decide +kernel
theorem dX4_placeIn_1 : decode cX4_placeIn 1 = .ok (.tableswitch 47 112 115 #[42, 47, 36, 31], 31) := by decide +kernel
theorem dX4_placeIn_32 : decode cX4_placeIn 32 = .ok (.aload_n 0, 1) := by decide +kernel
theorem dX4_placeIn_33 : decode cX4_placeIn 33 = .ok (.getfield 112, 3) := by decide +kernel
theorem dX4_placeIn_36 : decode cX4_placeIn 36 = .ok (.ireturn, 1) := by decide +kernel
theorem dX4_placeIn_37 : decode cX4_placeIn 37 = .ok (.aload_n 0, 1) := by decide +kernel
theorem dX4_placeIn_38 : decode cX4_placeIn 38 = .ok (.getfield 101, 3) := by decide +kernel
theorem dX4_placeIn_41 : decode cX4_placeIn 41 = .ok (.ineg, 1) := by decide +kernel
theorem dX4_placeIn_42 : decode cX4_placeIn 42 = .ok (.ireturn, 1) := by decide +kernel
theorem dX4_placeIn_43 : decode cX4_placeIn 43 = .ok (.aload_n 0, 1) := by decide +kernel
theorem dX4_placeIn_44 : decode cX4_placeIn 44 = .ok (.getfield 104, 3) := by decide +kernel
theorem dX4_placeIn_47 : decode cX4_placeIn 47 = .ok (.ireturn, 1) := by decide +kernel
theorem dX4_placeIn_48 : decode cX4_placeIn 48 = .ok (.aload_n 0, 1) := by decide +kernel
theorem dX4_placeIn_49 : decode cX4_placeIn 49 = .ok (.getfield 98, 3) := by decide +kernel
theorem dX4_placeIn_52 : decode cX4_placeIn 52 = .ok (.ineg, 1) := by decide +kernel
theorem dX4_placeIn_53 : decode cX4_placeIn 53 = .ok (.ireturn, 1) := by decide +kernel
theorem dX4_lengthsOf_0 : decode cX4_lengthsOf 0 = .ok (.iconst 0, 1) := by decide +kernel
theorem dX4_lengthsOf_1 : decode cX4_lengthsOf 1 = .ok (.istore_n 2, 1) := by decide +kernel
theorem dX4_lengthsOf_2 : decode cX4_lengthsOf 2 = .ok (.iconst 0, 1) := by decide +kernel
theorem dX4_lengthsOf_3 : decode cX4_lengthsOf 3 = .ok (.istore_n 3, 1) := by decide +kernel
theorem dX4_lengthsOf_4 : decode cX4_lengthsOf 4 = .ok (.iload_n 3, 1) := by decide +kernel
theorem dX4_lengthsOf_5 : decode cX4_lengthsOf 5 = .ok (.bipush 24, 2) := by decide +kernel
theorem dX4_lengthsOf_7 : decode cX4_lengthsOf 7 = .ok (.if_icmp .ge 37, 3) := by decide +kernel
theorem dX4_lengthsOf_10 : decode cX4_lengthsOf 10 = .ok (.aload_n 0, 1) := by decide +kernel
theorem dX4_lengthsOf_11 : decode cX4_lengthsOf 11 = .ok (.iload_n 3, 1) := by decide +kernel
theorem dX4_lengthsOf_12 : decode cX4_lengthsOf 12 = .ok (.invokevirtual 172, 3) := by decide +kernel
theorem dX4_lengthsOf_15 : decode cX4_lengthsOf 15 = .ok (.astore 4, 2) := by decide +kernel
theorem dX4_lengthsOf_17 : decode cX4_lengthsOf 17 = .ok (.aload 4, 2) := by decide +kernel
theorem dX4_lengthsOf_19 : decode cX4_lengthsOf 19 = .ok (.ifnull 19, 3) := by decide +kernel
theorem dX4_lengthsOf_22 : decode cX4_lengthsOf 22 = .ok (.iload_n 1, 1) := by decide +kernel
theorem dX4_lengthsOf_23 : decode cX4_lengthsOf 23 = .ok (.iload_n 3, 1) := by decide +kernel
theorem dX4_lengthsOf_24 : decode cX4_lengthsOf 24 = .ok (.invokestatic 209, 3) := by decide +kernel
theorem dX4_lengthsOf_27 : decode cX4_lengthsOf 27 = .ok (.ifCond .eq 11, 3) := by decide +kernel
theorem dX4_lengthsOf_30 : decode cX4_lengthsOf 30 = .ok (.iload_n 2, 1) := by decide +kernel
theorem dX4_lengthsOf_31 : decode cX4_lengthsOf 31 = .ok (.aload 4, 2) := by decide +kernel
theorem dX4_lengthsOf_33 : decode cX4_lengthsOf 33 = .ok (.getfield 112, 3) := by decide +kernel
theorem dX4_lengthsOf_36 : decode cX4_lengthsOf 36 = .ok (.iadd, 1) := by decide +kernel
theorem dX4_lengthsOf_37 : decode cX4_lengthsOf 37 = .ok (.istore_n 2, 1) := by decide +kernel
theorem dX4_lengthsOf_38 : decode cX4_lengthsOf 38 = .ok (.iinc 3 1, 3) := by decide +kernel
theorem dX4_lengthsOf_41 : decode cX4_lengthsOf 41 = .ok (.goto (-37), 3) := by decide +kernel
theorem dX4_lengthsOf_44 : decode cX4_lengthsOf 44 = .ok (.iload_n 2, 1) := by decide +kernel
theorem dX4_lengthsOf_45 : decode cX4_lengthsOf 45 = .ok (.ireturn, 1) := by decide +kernel
theorem dJx00060_init_a7421_0 : decode cJx00060_init_a7421 0 = .ok (.aload_n 0, 1) := by decide +kernel
theorem dJx00060_init_a7421_1 : decode cJx00060_init_a7421 1 = .ok (.aload_n 1, 1) := by decide +kernel
theorem dJx00060_init_a7421_2 : decode cJx00060_init_a7421 2 = .ok (.invokespecial 7, 3) := by decide +kernel
theorem dJx00060_init_a7421_5 : decode cJx00060_init_a7421 5 = .ok (.return_, 1) := by decide +kernel
theorem dJ6_bitCount_0f7a4_0 : decode cJ6_bitCount_0f7a4 0 = .ok (.iload_n 0, 1) := by decide +kernel
theorem dJ6_bitCount_0f7a4_1 : decode cJ6_bitCount_0f7a4 1 = .ok (.iload_n 0, 1) := by decide +kernel
theorem dJ6_bitCount_0f7a4_2 : decode cJ6_bitCount_0f7a4 2 = .ok (.iconst 1, 1) := by decide +kernel
theorem dJ6_bitCount_0f7a4_3 : decode cJ6_bitCount_0f7a4 3 = .ok (.iushr, 1) := by decide +kernel
theorem dJ6_bitCount_0f7a4_4 : decode cJ6_bitCount_0f7a4 4 = .ok (.ldc_w 265, 3) := by decide +kernel
theorem dJ6_bitCount_0f7a4_7 : decode cJ6_bitCount_0f7a4 7 = .ok (.iand, 1) := by decide +kernel
theorem dJ6_bitCount_0f7a4_8 : decode cJ6_bitCount_0f7a4 8 = .ok (.isub, 1) := by decide +kernel
theorem dJ6_bitCount_0f7a4_9 : decode cJ6_bitCount_0f7a4 9 = .ok (.istore_n 0, 1) := by decide +kernel
theorem dJ6_bitCount_0f7a4_10 : decode cJ6_bitCount_0f7a4 10 = .ok (.iload_n 0, 1) := by decide +kernel
theorem dJ6_bitCount_0f7a4_11 : decode cJ6_bitCount_0f7a4 11 = .ok (.ldc_w 266, 3) := by decide +kernel
theorem dJ6_bitCount_0f7a4_14 : decode cJ6_bitCount_0f7a4 14 = .ok (.iand, 1) := by decide +kernel
theorem dJ6_bitCount_0f7a4_15 : decode cJ6_bitCount_0f7a4 15 = .ok (.iload_n 0, 1) := by decide +kernel
theorem dJ6_bitCount_0f7a4_16 : decode cJ6_bitCount_0f7a4 16 = .ok (.iconst 2, 1) := by decide +kernel
theorem dJ6_bitCount_0f7a4_17 : decode cJ6_bitCount_0f7a4 17 = .ok (.iushr, 1) := by decide +kernel
theorem dJ6_bitCount_0f7a4_18 : decode cJ6_bitCount_0f7a4 18 = .ok (.ldc_w 266, 3) := by decide +kernel
theorem dJ6_bitCount_0f7a4_21 : decode cJ6_bitCount_0f7a4 21 = .ok (.iand, 1) := by decide +kernel
theorem dJ6_bitCount_0f7a4_22 : decode cJ6_bitCount_0f7a4 22 = .ok (.iadd, 1) := by decide +kernel
theorem dJ6_bitCount_0f7a4_23 : decode cJ6_bitCount_0f7a4 23 = .ok (.istore_n 0, 1) := by decide +kernel
theorem dJ6_bitCount_0f7a4_24 : decode cJ6_bitCount_0f7a4 24 = .ok (.iload_n 0, 1) := by decide +kernel
theorem dJ6_bitCount_0f7a4_25 : decode cJ6_bitCount_0f7a4 25 = .ok (.iload_n 0, 1) := by decide +kernel
theorem dJ6_bitCount_0f7a4_26 : decode cJ6_bitCount_0f7a4 26 = .ok (.iconst 4, 1) := by decide +kernel
theorem dJ6_bitCount_0f7a4_27 : decode cJ6_bitCount_0f7a4 27 = .ok (.iushr, 1) := by decide +kernel
theorem dJ6_bitCount_0f7a4_28 : decode cJ6_bitCount_0f7a4 28 = .ok (.iadd, 1) := by decide +kernel
theorem dJ6_bitCount_0f7a4_29 : decode cJ6_bitCount_0f7a4 29 = .ok (.ldc_w 267, 3) := by decide +kernel
theorem dJ6_bitCount_0f7a4_32 : decode cJ6_bitCount_0f7a4 32 = .ok (.iand, 1) := by decide +kernel
theorem dJ6_bitCount_0f7a4_33 : decode cJ6_bitCount_0f7a4 33 = .ok (.istore_n 0, 1) := by decide +kernel
theorem dJ6_bitCount_0f7a4_34 : decode cJ6_bitCount_0f7a4 34 = .ok (.iload_n 0, 1) := by decide +kernel
theorem dJ6_bitCount_0f7a4_35 : decode cJ6_bitCount_0f7a4 35 = .ok (.iload_n 0, 1) := by decide +kernel
theorem dJ6_bitCount_0f7a4_36 : decode cJ6_bitCount_0f7a4 36 = .ok (.bipush 8, 2) := by decide +kernel
theorem dJ6_bitCount_0f7a4_38 : decode cJ6_bitCount_0f7a4 38 = .ok (.iushr, 1) := by decide +kernel
theorem dJ6_bitCount_0f7a4_39 : decode cJ6_bitCount_0f7a4 39 = .ok (.iadd, 1) := by decide +kernel
theorem dJ6_bitCount_0f7a4_40 : decode cJ6_bitCount_0f7a4 40 = .ok (.istore_n 0, 1) := by decide +kernel
theorem dJ6_bitCount_0f7a4_41 : decode cJ6_bitCount_0f7a4 41 = .ok (.iload_n 0, 1) := by decide +kernel
theorem dJ6_bitCount_0f7a4_42 : decode cJ6_bitCount_0f7a4 42 = .ok (.iload_n 0, 1) := by decide +kernel
theorem dJ6_bitCount_0f7a4_43 : decode cJ6_bitCount_0f7a4 43 = .ok (.bipush 16, 2) := by decide +kernel
theorem dJ6_bitCount_0f7a4_45 : decode cJ6_bitCount_0f7a4 45 = .ok (.iushr, 1) := by decide +kernel
theorem dJ6_bitCount_0f7a4_46 : decode cJ6_bitCount_0f7a4 46 = .ok (.iadd, 1) := by decide +kernel
theorem dJ6_bitCount_0f7a4_47 : decode cJ6_bitCount_0f7a4 47 = .ok (.istore_n 0, 1) := by decide +kernel
theorem dJ6_bitCount_0f7a4_48 : decode cJ6_bitCount_0f7a4 48 = .ok (.iload_n 0, 1) := by decide +kernel
theorem dJ6_bitCount_0f7a4_49 : decode cJ6_bitCount_0f7a4 49 = .ok (.bipush 63, 2) := by decide +kernel
theorem dJ6_bitCount_0f7a4_51 : decode cJ6_bitCount_0f7a4 51 = .ok (.iand, 1) := by decide +kernel
theorem dJ6_bitCount_0f7a4_52 : decode cJ6_bitCount_0f7a4 52 = .ok (.ireturn, 1) := by decide +kernel
theorem dJ9_max_7cf53_0 : decode cJ9_max_7cf53 0 = .ok (.iload_n 0, 1) := by decide +kernel
theorem dJ9_max_7cf53_1 : decode cJ9_max_7cf53 1 = .ok (.iload_n 1, 1) := by decide +kernel
theorem dJ9_max_7cf53_2 : decode cJ9_max_7cf53 2 = .ok (.if_icmp .lt 7, 3) := by decide +kernel
theorem dJ9_max_7cf53_5 : decode cJ9_max_7cf53 5 = .ok (.iload_n 0, 1) := by decide +kernel
theorem dJ9_max_7cf53_6 : decode cJ9_max_7cf53 6 = .ok (.goto 4, 3) := by decide +kernel
theorem dJ9_max_7cf53_9 : decode cJ9_max_7cf53 9 = .ok (.iload_n 1, 1) := by decide +kernel
theorem dJ9_max_7cf53_10 : decode cJ9_max_7cf53 10 = .ok (.ireturn, 1) := by decide +kernel
theorem dJ9_min_7cf53_0 : decode cJ9_min_7cf53 0 = .ok (.iload_n 0, 1) := by decide +kernel
theorem dJ9_min_7cf53_1 : decode cJ9_min_7cf53 1 = .ok (.iload_n 1, 1) := by decide +kernel
theorem dJ9_min_7cf53_2 : decode cJ9_min_7cf53 2 = .ok (.if_icmp .gt 7, 3) := by decide +kernel
theorem dJ9_min_7cf53_5 : decode cJ9_min_7cf53 5 = .ok (.iload_n 0, 1) := by decide +kernel
theorem dJ9_min_7cf53_6 : decode cJ9_min_7cf53 6 = .ok (.goto 4, 3) := by decide +kernel
theorem dJ9_min_7cf53_9 : decode cJ9_min_7cf53 9 = .ok (.iload_n 1, 1) := by decide +kernel
theorem dJ9_min_7cf53_10 : decode cJ9_min_7cf53 10 = .ok (.ireturn, 1) := by decide +kernel
theorem dJ7_fill_53178_0 : decode cJ7_fill_53178 0 = .ok (.iconst 0, 1) := by decide +kernel
theorem dJ7_fill_53178_1 : decode cJ7_fill_53178 1 = .ok (.istore_n 2, 1) := by decide +kernel
theorem dJ7_fill_53178_2 : decode cJ7_fill_53178 2 = .ok (.aload_n 0, 1) := by decide +kernel
theorem dJ7_fill_53178_3 : decode cJ7_fill_53178 3 = .ok (.arraylength, 1) := by decide +kernel
theorem dJ7_fill_53178_4 : decode cJ7_fill_53178 4 = .ok (.istore_n 3, 1) := by decide +kernel
theorem dJ7_fill_53178_5 : decode cJ7_fill_53178 5 = .ok (.iload_n 2, 1) := by decide +kernel
theorem dJ7_fill_53178_6 : decode cJ7_fill_53178 6 = .ok (.iload_n 3, 1) := by decide +kernel
theorem dJ7_fill_53178_7 : decode cJ7_fill_53178 7 = .ok (.if_icmp .ge 13, 3) := by decide +kernel
theorem dJ7_fill_53178_10 : decode cJ7_fill_53178 10 = .ok (.aload_n 0, 1) := by decide +kernel
theorem dJ7_fill_53178_11 : decode cJ7_fill_53178 11 = .ok (.iload_n 2, 1) := by decide +kernel
theorem dJ7_fill_53178_12 : decode cJ7_fill_53178 12 = .ok (.iload_n 1, 1) := by decide +kernel
theorem dJ7_fill_53178_13 : decode cJ7_fill_53178 13 = .ok (.iastore, 1) := by decide +kernel
theorem dJ7_fill_53178_14 : decode cJ7_fill_53178 14 = .ok (.iinc 2 1, 3) := by decide +kernel
theorem dJ7_fill_53178_17 : decode cJ7_fill_53178 17 = .ok (.goto (-12), 3) := by decide +kernel
theorem dJ7_fill_53178_20 : decode cJ7_fill_53178 20 = .ok (.return_, 1) := by decide +kernel
