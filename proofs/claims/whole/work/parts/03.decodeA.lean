theorem dX0_init_0 : decode cX0_init 0 = .ok (.aload_n 0, 1) := by decide +kernel
theorem dX0_init_1 : decode cX0_init 1 = .ok (.invokespecial 3, 3) := by decide +kernel
theorem dX0_init_4 : decode cX0_init 4 = .ok (.return_, 1) := by decide +kernel
theorem dX0_begin_0 : decode cX0_begin 0 = .ok (.aload_n 0, 1) := by decide +kernel
theorem dX0_begin_1 : decode cX0_begin 1 = .ok (.iload_n 1, 1) := by decide +kernel
theorem dX0_begin_2 : decode cX0_begin 2 = .ok (.putfield 9, 3) := by decide +kernel
theorem dX0_begin_5 : decode cX0_begin 5 = .ok (.aload_n 0, 1) := by decide +kernel
theorem dX0_begin_6 : decode cX0_begin 6 = .ok (.iload_n 2, 1) := by decide +kernel
theorem dX0_begin_7 : decode cX0_begin 7 = .ok (.putfield 15, 3) := by decide +kernel
theorem dX0_begin_10 : decode cX0_begin 10 = .ok (.aload_n 0, 1) := by decide +kernel
theorem dX0_begin_11 : decode cX0_begin 11 = .ok (.bipush 20, 2) := by decide +kernel
theorem dX0_begin_13 : decode cX0_begin 13 = .ok (.putfield 18, 3) := by decide +kernel
theorem dX0_begin_16 : decode cX0_begin 16 = .ok (.aload_n 0, 1) := by decide +kernel
theorem dX0_begin_17 : decode cX0_begin 17 = .ok (.iconst (-1), 1) := by decide +kernel
theorem dX0_begin_18 : decode cX0_begin 18 = .ok (.putfield 21, 3) := by decide +kernel
theorem dX0_begin_21 : decode cX0_begin 21 = .ok (.aload_n 0, 1) := by decide +kernel
theorem dX0_begin_22 : decode cX0_begin 22 = .ok (.iconst 0, 1) := by decide +kernel
theorem dX0_begin_23 : decode cX0_begin 23 = .ok (.putfield 24, 3) := by decide +kernel
theorem dX0_begin_26 : decode cX0_begin 26 = .ok (.aload_n 0, 1) := by decide +kernel
theorem dX0_begin_27 : decode cX0_begin 27 = .ok (.iconst (-1), 1) := by decide +kernel
theorem dX0_begin_28 : decode cX0_begin 28 = .ok (.putfield 27, 3) := by decide +kernel
theorem dX0_begin_31 : decode cX0_begin 31 = .ok (.aload_n 0, 1) := by decide +kernel
theorem dX0_begin_32 : decode cX0_begin 32 = .ok (.iconst 0, 1) := by decide +kernel
theorem dX0_begin_33 : decode cX0_begin 33 = .ok (.putfield 30, 3) := by decide +kernel
theorem dX0_begin_36 : decode cX0_begin 36 = .ok (.aload_n 0, 1) := by decide +kernel
theorem dX0_begin_37 : decode cX0_begin 37 = .ok (.iconst 0, 1) := by decide +kernel
theorem dX0_begin_38 : decode cX0_begin 38 = .ok (.putfield 33, 3) := by decide +kernel
theorem dX0_begin_41 : decode cX0_begin 41 = .ok (.return_, 1) := by decide +kernel
theorem dX0_become_0 : decode cX0_become 0 = .ok (.aload_n 0, 1) := by decide +kernel
theorem dX0_become_1 : decode cX0_become 1 = .ok (.aload_n 1, 1) := by decide +kernel
theorem dX0_become_2 : decode cX0_become 2 = .ok (.getfield 9, 3) := by decide +kernel
theorem dX0_become_5 : decode cX0_become 5 = .ok (.putfield 9, 3) := by decide +kernel
theorem dX0_become_8 : decode cX0_become 8 = .ok (.aload_n 0, 1) := by decide +kernel
theorem dX0_become_9 : decode cX0_become 9 = .ok (.aload_n 1, 1) := by decide +kernel
theorem dX0_become_10 : decode cX0_become 10 = .ok (.getfield 15, 3) := by decide +kernel
theorem dX0_become_13 : decode cX0_become 13 = .ok (.putfield 15, 3) := by decide +kernel
theorem dX0_become_16 : decode cX0_become 16 = .ok (.aload_n 0, 1) := by decide +kernel
theorem dX0_become_17 : decode cX0_become 17 = .ok (.aload_n 1, 1) := by decide +kernel
theorem dX0_become_18 : decode cX0_become 18 = .ok (.getfield 18, 3) := by decide +kernel
theorem dX0_become_21 : decode cX0_become 21 = .ok (.putfield 18, 3) := by decide +kernel
theorem dX0_become_24 : decode cX0_become 24 = .ok (.aload_n 0, 1) := by decide +kernel
theorem dX0_become_25 : decode cX0_become 25 = .ok (.aload_n 1, 1) := by decide +kernel
theorem dX0_become_26 : decode cX0_become 26 = .ok (.getfield 21, 3) := by decide +kernel
theorem dX0_become_29 : decode cX0_become 29 = .ok (.putfield 21, 3) := by decide +kernel
theorem dX0_become_32 : decode cX0_become 32 = .ok (.aload_n 0, 1) := by decide +kernel
theorem dX0_become_33 : decode cX0_become 33 = .ok (.aload_n 1, 1) := by decide +kernel
theorem dX0_become_34 : decode cX0_become 34 = .ok (.getfield 24, 3) := by decide +kernel
theorem dX0_become_37 : decode cX0_become 37 = .ok (.putfield 24, 3) := by decide +kernel
theorem dX0_become_40 : decode cX0_become 40 = .ok (.aload_n 0, 1) := by decide +kernel
theorem dX0_become_41 : decode cX0_become 41 = .ok (.aload_n 1, 1) := by decide +kernel
theorem dX0_become_42 : decode cX0_become 42 = .ok (.invokevirtual 36, 3) := by decide +kernel
theorem dX0_become_45 : decode cX0_become 45 = .ok (.return_, 1) := by decide +kernel
theorem dX0_takePairOf_0 : decode cX0_takePairOf 0 = .ok (.aload_n 0, 1) := by decide +kernel
theorem dX0_takePairOf_1 : decode cX0_takePairOf 1 = .ok (.aload_n 1, 1) := by decide +kernel
theorem dX0_takePairOf_2 : decode cX0_takePairOf 2 = .ok (.getfield 27, 3) := by decide +kernel
theorem dX0_takePairOf_5 : decode cX0_takePairOf 5 = .ok (.putfield 27, 3) := by decide +kernel
theorem dX0_takePairOf_8 : decode cX0_takePairOf 8 = .ok (.aload_n 0, 1) := by decide +kernel
theorem dX0_takePairOf_9 : decode cX0_takePairOf 9 = .ok (.aload_n 1, 1) := by decide +kernel
theorem dX0_takePairOf_10 : decode cX0_takePairOf 10 = .ok (.getfield 30, 3) := by decide +kernel
theorem dX0_takePairOf_13 : decode cX0_takePairOf 13 = .ok (.putfield 30, 3) := by decide +kernel
theorem dX0_takePairOf_16 : decode cX0_takePairOf 16 = .ok (.aload_n 0, 1) := by decide +kernel
theorem dX0_takePairOf_17 : decode cX0_takePairOf 17 = .ok (.aload_n 1, 1) := by decide +kernel
theorem dX0_takePairOf_18 : decode cX0_takePairOf 18 = .ok (.getfield 33, 3) := by decide +kernel
theorem dX0_takePairOf_21 : decode cX0_takePairOf 21 = .ok (.putfield 33, 3) := by decide +kernel
theorem dX0_takePairOf_24 : decode cX0_takePairOf 24 = .ok (.return_, 1) := by decide +kernel
theorem dX0_told_0 : decode cX0_told 0 = .ok (.iload_n 1, 1) := by decide +kernel
theorem dX0_told_1 : decode cX0_told 1 = .ok (.tableswitch 113 0 9 #[55, 60, 65, 70, 75, 80, 85, 90, 95, 104], 55) := by decide +kernel
theorem dX0_told_56 : decode cX0_told 56 = .ok (.aload_n 0, 1) := by decide +kernel
theorem dX0_told_57 : decode cX0_told 57 = .ok (.getfield 15, 3) := by decide +kernel
theorem dX0_told_60 : decode cX0_told 60 = .ok (.ireturn, 1) := by decide +kernel
theorem dX0_told_61 : decode cX0_told 61 = .ok (.aload_n 0, 1) := by decide +kernel
theorem dX0_told_62 : decode cX0_told 62 = .ok (.getfield 18, 3) := by decide +kernel
theorem dX0_told_65 : decode cX0_told 65 = .ok (.ireturn, 1) := by decide +kernel
theorem dX0_told_66 : decode cX0_told 66 = .ok (.aload_n 0, 1) := by decide +kernel
theorem dX0_told_67 : decode cX0_told 67 = .ok (.getfield 21, 3) := by decide +kernel
theorem dX0_told_70 : decode cX0_told 70 = .ok (.ireturn, 1) := by decide +kernel
theorem dX0_told_71 : decode cX0_told 71 = .ok (.aload_n 0, 1) := by decide +kernel
theorem dX0_told_72 : decode cX0_told 72 = .ok (.getfield 24, 3) := by decide +kernel
theorem dX0_told_75 : decode cX0_told 75 = .ok (.ireturn, 1) := by decide +kernel
theorem dX0_told_76 : decode cX0_told 76 = .ok (.aload_n 0, 1) := by decide +kernel
theorem dX0_told_77 : decode cX0_told 77 = .ok (.getfield 27, 3) := by decide +kernel
theorem dX0_told_80 : decode cX0_told 80 = .ok (.ireturn, 1) := by decide +kernel
theorem dX0_told_81 : decode cX0_told 81 = .ok (.aload_n 0, 1) := by decide +kernel
theorem dX0_told_82 : decode cX0_told 82 = .ok (.getfield 30, 3) := by decide +kernel
theorem dX0_told_85 : decode cX0_told 85 = .ok (.ireturn, 1) := by decide +kernel
theorem dX0_told_86 : decode cX0_told 86 = .ok (.aload_n 0, 1) := by decide +kernel
theorem dX0_told_87 : decode cX0_told 87 = .ok (.getfield 33, 3) := by decide +kernel
theorem dX0_told_90 : decode cX0_told 90 = .ok (.ireturn, 1) := by decide +kernel
theorem dX0_told_91 : decode cX0_told 91 = .ok (.aload_n 0, 1) := by decide +kernel
theorem dX0_told_92 : decode cX0_told 92 = .ok (.invokevirtual 40, 3) := by decide +kernel
theorem dX0_told_95 : decode cX0_told 95 = .ok (.ireturn, 1) := by decide +kernel
theorem dX0_told_96 : decode cX0_told 96 = .ok (.aload_n 0, 1) := by decide +kernel
theorem dX0_told_97 : decode cX0_told 97 = .ok (.aload_n 0, 1) := by decide +kernel
theorem dX0_told_98 : decode cX0_told 98 = .ok (.invokevirtual 44, 3) := by decide +kernel
theorem dX0_told_101 : decode cX0_told 101 = .ok (.invokevirtual 47, 3) := by decide +kernel
theorem dX0_told_104 : decode cX0_told 104 = .ok (.ireturn, 1) := by decide +kernel
theorem dX0_told_105 : decode cX0_told 105 = .ok (.aload_n 0, 1) := by decide +kernel
theorem dX0_told_106 : decode cX0_told 106 = .ok (.aload_n 0, 1) := by decide +kernel
theorem dX0_told_107 : decode cX0_told 107 = .ok (.invokevirtual 44, 3) := by decide +kernel
theorem dX0_told_110 : decode cX0_told 110 = .ok (.invokevirtual 51, 3) := by decide +kernel
theorem dX0_told_113 : decode cX0_told 113 = .ok (.ireturn, 1) := by decide +kernel
theorem dX0_told_114 : decode cX0_told 114 = .ok (.ldc 54, 2) := by decide +kernel
theorem dX0_told_116 : decode cX0_told 116 = .ok (.ireturn, 1) := by decide +kernel
theorem dX0_put_0 : decode cX0_put 0 = .ok (.iload_n 1, 1) := by decide +kernel
theorem dX0_put_1 : decode cX0_put 1 = .ok (.tableswitch 87 1 6 #[39, 47, 55, 63, 71, 79], 39) := by decide +kernel
theorem dX0_put_40 : decode cX0_put 40 = .ok (.aload_n 0, 1) := by decide +kernel
theorem dX0_put_41 : decode cX0_put 41 = .ok (.iload_n 2, 1) := by decide +kernel
theorem dX0_put_42 : decode cX0_put 42 = .ok (.putfield 18, 3) := by decide +kernel
theorem dX0_put_45 : decode cX0_put 45 = .ok (.goto 43, 3) := by decide +kernel
theorem dX0_put_48 : decode cX0_put 48 = .ok (.aload_n 0, 1) := by decide +kernel
theorem dX0_put_49 : decode cX0_put 49 = .ok (.iload_n 2, 1) := by decide +kernel
theorem dX0_put_50 : decode cX0_put 50 = .ok (.putfield 21, 3) := by decide +kernel
theorem dX0_put_53 : decode cX0_put 53 = .ok (.goto 35, 3) := by decide +kernel
theorem dX0_put_56 : decode cX0_put 56 = .ok (.aload_n 0, 1) := by decide +kernel
theorem dX0_put_57 : decode cX0_put 57 = .ok (.iload_n 2, 1) := by decide +kernel
theorem dX0_put_58 : decode cX0_put 58 = .ok (.putfield 24, 3) := by decide +kernel
theorem dX0_put_61 : decode cX0_put 61 = .ok (.goto 27, 3) := by decide +kernel
theorem dX0_put_64 : decode cX0_put 64 = .ok (.aload_n 0, 1) := by decide +kernel
theorem dX0_put_65 : decode cX0_put 65 = .ok (.iload_n 2, 1) := by decide +kernel
theorem dX0_put_66 : decode cX0_put 66 = .ok (.putfield 27, 3) := by decide +kernel
theorem dX0_put_69 : decode cX0_put 69 = .ok (.goto 19, 3) := by decide +kernel
theorem dX0_put_72 : decode cX0_put 72 = .ok (.aload_n 0, 1) := by decide +kernel
theorem dX0_put_73 : decode cX0_put 73 = .ok (.iload_n 2, 1) := by decide +kernel
theorem dX0_put_74 : decode cX0_put 74 = .ok (.putfield 30, 3) := by decide +kernel
theorem dX0_put_77 : decode cX0_put 77 = .ok (.goto 11, 3) := by decide +kernel
theorem dX0_put_80 : decode cX0_put 80 = .ok (.aload_n 0, 1) := by decide +kernel
theorem dX0_put_81 : decode cX0_put 81 = .ok (.iload_n 2, 1) := by decide +kernel
theorem dX0_put_82 : decode cX0_put 82 = .ok (.putfield 33, 3) := by decide +kernel
theorem dX0_put_85 : decode cX0_put 85 = .ok (.goto 3, 3) := by decide +kernel
theorem dX0_put_88 : decode cX0_put 88 = .ok (.return_, 1) := by decide +kernel
theorem dX0_haveGround_0 : decode cX0_haveGround 0 = .ok (.aload_n 0, 1) := by decide +kernel
theorem dX0_haveGround_1 : decode cX0_haveGround 1 = .ok (.aload_n 0, 1) := by decide +kernel
theorem dX0_haveGround_2 : decode cX0_haveGround 2 = .ok (.getfield 21, 3) := by decide +kernel
theorem dX0_haveGround_5 : decode cX0_haveGround 5 = .ok (.putfield 27, 3) := by decide +kernel
theorem dX0_haveGround_8 : decode cX0_haveGround 8 = .ok (.aload_n 0, 1) := by decide +kernel
theorem dX0_haveGround_9 : decode cX0_haveGround 9 = .ok (.aload_n 0, 1) := by decide +kernel
theorem dX0_haveGround_10 : decode cX0_haveGround 10 = .ok (.invokevirtual 40, 3) := by decide +kernel
theorem dX0_haveGround_13 : decode cX0_haveGround 13 = .ok (.putfield 30, 3) := by decide +kernel
theorem dX0_haveGround_16 : decode cX0_haveGround 16 = .ok (.aload_n 0, 1) := by decide +kernel
theorem dX0_haveGround_17 : decode cX0_haveGround 17 = .ok (.iconst 0, 1) := by decide +kernel
theorem dX0_haveGround_18 : decode cX0_haveGround 18 = .ok (.putfield 33, 3) := by decide +kernel
theorem dX0_haveGround_21 : decode cX0_haveGround 21 = .ok (.aload_n 0, 1) := by decide +kernel
theorem dX0_haveGround_22 : decode cX0_haveGround 22 = .ok (.iconst 0, 1) := by decide +kernel
theorem dX0_haveGround_23 : decode cX0_haveGround 23 = .ok (.putfield 24, 3) := by decide +kernel
theorem dX0_haveGround_26 : decode cX0_haveGround 26 = .ok (.return_, 1) := by decide +kernel
theorem dX0_grinding_0 : decode cX0_grinding 0 = .ok (.bipush 99, 2) := by decide +kernel
theorem dX0_grinding_2 : decode cX0_grinding 2 = .ok (.aload_n 0, 1) := by decide +kernel
theorem dX0_grinding_3 : decode cX0_grinding 3 = .ok (.getfield 18, 3) := by decide +kernel
theorem dX0_grinding_6 : decode cX0_grinding 6 = .ok (.bipush 10, 2) := by decide +kernel
theorem dX0_grinding_8 : decode cX0_grinding 8 = .ok (.iadd, 1) := by decide +kernel
theorem dX0_grinding_9 : decode cX0_grinding 9 = .ok (.invokestatic 55, 3) := by decide +kernel
theorem dX0_grinding_12 : decode cX0_grinding 12 = .ok (.istore_n 1, 1) := by decide +kernel
theorem dX0_grinding_13 : decode cX0_grinding 13 = .ok (.aload_n 0, 1) := by decide +kernel
theorem dX0_grinding_14 : decode cX0_grinding 14 = .ok (.getfield 18, 3) := by decide +kernel
theorem dX0_grinding_17 : decode cX0_grinding 17 = .ok (.iconst 2, 1) := by decide +kernel
theorem dX0_grinding_18 : decode cX0_grinding 18 = .ok (.idiv, 1) := by decide +kernel
theorem dX0_grinding_19 : decode cX0_grinding 19 = .ok (.istore_n 2, 1) := by decide +kernel
theorem dX0_grinding_20 : decode cX0_grinding 20 = .ok (.aload_n 0, 1) := by decide +kernel
theorem dX0_grinding_21 : decode cX0_grinding 21 = .ok (.getfield 15, 3) := by decide +kernel
theorem dX0_grinding_24 : decode cX0_grinding 24 = .ok (.tableswitch 57 1 5 #[36, 38, 40, 42, 52], 36) := by decide +kernel
theorem dX0_grinding_60 : decode cX0_grinding 60 = .ok (.iload_n 1, 1) := by decide +kernel
theorem dX0_grinding_61 : decode cX0_grinding 61 = .ok (.ireturn, 1) := by decide +kernel
theorem dX0_grinding_62 : decode cX0_grinding 62 = .ok (.iload_n 2, 1) := by decide +kernel
theorem dX0_grinding_63 : decode cX0_grinding 63 = .ok (.ireturn, 1) := by decide +kernel
theorem dX0_grinding_64 : decode cX0_grinding 64 = .ok (.iconst 0, 1) := by decide +kernel
theorem dX0_grinding_65 : decode cX0_grinding 65 = .ok (.ireturn, 1) := by decide +kernel
theorem dX0_grinding_66 : decode cX0_grinding 66 = .ok (.bipush 99, 2) := by decide +kernel
theorem dX0_grinding_68 : decode cX0_grinding 68 = .ok (.iload_n 1, 1) := by decide +kernel
theorem dX0_grinding_69 : decode cX0_grinding 69 = .ok (.bipush 10, 2) := by decide +kernel
theorem dX0_grinding_71 : decode cX0_grinding 71 = .ok (.iadd, 1) := by decide +kernel
theorem dX0_grinding_72 : decode cX0_grinding 72 = .ok (.invokestatic 55, 3) := by decide +kernel
theorem dX0_grinding_75 : decode cX0_grinding 75 = .ok (.ireturn, 1) := by decide +kernel
theorem dX0_grinding_76 : decode cX0_grinding 76 = .ok (.iload_n 2, 1) := by decide +kernel
theorem dX0_grinding_77 : decode cX0_grinding 77 = .ok (.bipush 20, 2) := by decide +kernel
theorem dX0_grinding_79 : decode cX0_grinding 79 = .ok (.iadd, 1) := by decide +kernel
theorem dX0_grinding_80 : decode cX0_grinding 80 = .ok (.ireturn, 1) := by decide +kernel
theorem dX0_grinding_81 : decode cX0_grinding 81 = .ok (.aload_n 0, 1) := by decide +kernel
theorem dX0_grinding_82 : decode cX0_grinding 82 = .ok (.getfield 18, 3) := by decide +kernel
theorem dX0_grinding_85 : decode cX0_grinding 85 = .ok (.ireturn, 1) := by decide +kernel
theorem dX0_sharpnessAt_0 : decode cX0_sharpnessAt 0 = .ok (.aload_n 0, 1) := by decide +kernel
theorem dX0_sharpnessAt_1 : decode cX0_sharpnessAt 1 = .ok (.getfield 24, 3) := by decide +kernel
theorem dX0_sharpnessAt_4 : decode cX0_sharpnessAt 4 = .ok (.iconst 1, 1) := by decide +kernel
theorem dX0_sharpnessAt_5 : decode cX0_sharpnessAt 5 = .ok (.if_icmp .ne 6, 3) := by decide +kernel
theorem dX0_sharpnessAt_8 : decode cX0_sharpnessAt 8 = .ok (.bipush 50, 2) := by decide +kernel
theorem dX0_sharpnessAt_10 : decode cX0_sharpnessAt 10 = .ok (.ireturn, 1) := by decide +kernel
theorem dX0_sharpnessAt_11 : decode cX0_sharpnessAt 11 = .ok (.iload_n 1, 1) := by decide +kernel
theorem dX0_sharpnessAt_12 : decode cX0_sharpnessAt 12 = .ok (.aload_n 0, 1) := by decide +kernel
theorem dX0_sharpnessAt_13 : decode cX0_sharpnessAt 13 = .ok (.getfield 27, 3) := by decide +kernel
theorem dX0_sharpnessAt_16 : decode cX0_sharpnessAt 16 = .ok (.if_icmp .ne 19, 3) := by decide +kernel
theorem dX0_sharpnessAt_19 : decode cX0_sharpnessAt 19 = .ok (.iconst 0, 1) := by decide +kernel
theorem dX0_sharpnessAt_20 : decode cX0_sharpnessAt 20 = .ok (.aload_n 0, 1) := by decide +kernel
theorem dX0_sharpnessAt_21 : decode cX0_sharpnessAt 21 = .ok (.getfield 30, 3) := by decide +kernel
theorem dX0_sharpnessAt_24 : decode cX0_sharpnessAt 24 = .ok (.aload_n 0, 1) := by decide +kernel
theorem dX0_sharpnessAt_25 : decode cX0_sharpnessAt 25 = .ok (.getfield 33, 3) := by decide +kernel
theorem dX0_sharpnessAt_28 : decode cX0_sharpnessAt 28 = .ok (.isub, 1) := by decide +kernel
theorem dX0_sharpnessAt_29 : decode cX0_sharpnessAt 29 = .ok (.invokestatic 61, 3) := by decide +kernel
theorem dX0_sharpnessAt_32 : decode cX0_sharpnessAt 32 = .ok (.goto 9, 3) := by decide +kernel
theorem dX0_sharpnessAt_35 : decode cX0_sharpnessAt 35 = .ok (.aload_n 0, 1) := by decide +kernel
theorem dX0_sharpnessAt_36 : decode cX0_sharpnessAt 36 = .ok (.getfield 33, 3) := by decide +kernel
theorem dX0_sharpnessAt_39 : decode cX0_sharpnessAt 39 = .ok (.iconst 2, 1) := by decide +kernel
theorem dX0_sharpnessAt_40 : decode cX0_sharpnessAt 40 = .ok (.idiv, 1) := by decide +kernel
theorem dX0_sharpnessAt_41 : decode cX0_sharpnessAt 41 = .ok (.istore_n 2, 1) := by decide +kernel
theorem dX0_sharpnessAt_42 : decode cX0_sharpnessAt 42 = .ok (.iload_n 2, 1) := by decide +kernel
theorem dX0_sharpnessAt_43 : decode cX0_sharpnessAt 43 = .ok (.iload_n 1, 1) := by decide +kernel
theorem dX0_sharpnessAt_44 : decode cX0_sharpnessAt 44 = .ok (.aload_n 0, 1) := by decide +kernel
theorem dX0_sharpnessAt_45 : decode cX0_sharpnessAt 45 = .ok (.getfield 9, 3) := by decide +kernel
theorem dX0_sharpnessAt_48 : decode cX0_sharpnessAt 48 = .ok (.iconst 1, 1) := by decide +kernel
theorem dX0_sharpnessAt_49 : decode cX0_sharpnessAt 49 = .ok (.iadd, 1) := by decide +kernel
theorem dX0_sharpnessAt_50 : decode cX0_sharpnessAt 50 = .ok (.if_icmp .ne 7, 3) := by decide +kernel
theorem dX0_sharpnessAt_53 : decode cX0_sharpnessAt 53 = .ok (.iconst 5, 1) := by decide +kernel
theorem dX0_sharpnessAt_54 : decode cX0_sharpnessAt 54 = .ok (.goto 4, 3) := by decide +kernel
theorem dX0_sharpnessAt_57 : decode cX0_sharpnessAt 57 = .ok (.iconst 0, 1) := by decide +kernel
theorem dX0_sharpnessAt_58 : decode cX0_sharpnessAt 58 = .ok (.iadd, 1) := by decide +kernel
theorem dX0_sharpnessAt_59 : decode cX0_sharpnessAt 59 = .ok (.istore_n 3, 1) := by decide +kernel
theorem dX0_sharpnessAt_60 : decode cX0_sharpnessAt 60 = .ok (.iload_n 2, 1) := by decide +kernel
theorem dX0_sharpnessAt_61 : decode cX0_sharpnessAt 61 = .ok (.iload_n 1, 1) := by decide +kernel
theorem dX0_sharpnessAt_62 : decode cX0_sharpnessAt 62 = .ok (.aload_n 0, 1) := by decide +kernel
theorem dX0_sharpnessAt_63 : decode cX0_sharpnessAt 63 = .ok (.getfield 9, 3) := by decide +kernel
theorem dX0_sharpnessAt_66 : decode cX0_sharpnessAt 66 = .ok (.if_icmp .ge 7, 3) := by decide +kernel
theorem dX0_sharpnessAt_69 : decode cX0_sharpnessAt 69 = .ok (.iconst 2, 1) := by decide +kernel
theorem dX0_sharpnessAt_70 : decode cX0_sharpnessAt 70 = .ok (.goto 4, 3) := by decide +kernel
theorem dX0_sharpnessAt_73 : decode cX0_sharpnessAt 73 = .ok (.iconst 1, 1) := by decide +kernel
theorem dX0_sharpnessAt_74 : decode cX0_sharpnessAt 74 = .ok (.imul, 1) := by decide +kernel
theorem dX0_sharpnessAt_75 : decode cX0_sharpnessAt 75 = .ok (.istore 4, 2) := by decide +kernel
theorem dX0_sharpnessAt_77 : decode cX0_sharpnessAt 77 = .ok (.aload_n 0, 1) := by decide +kernel
theorem dX0_sharpnessAt_78 : decode cX0_sharpnessAt 78 = .ok (.getfield 15, 3) := by decide +kernel
theorem dX0_sharpnessAt_81 : decode cX0_sharpnessAt 81 = .ok (.tableswitch 68 1 5 #[35, 37, 40, 43, 61], 35) := by decide +kernel
theorem dX0_sharpnessAt_116 : decode cX0_sharpnessAt 116 = .ok (.iload_n 3, 1) := by decide +kernel
theorem dX0_sharpnessAt_117 : decode cX0_sharpnessAt 117 = .ok (.ireturn, 1) := by decide +kernel
theorem dX0_sharpnessAt_118 : decode cX0_sharpnessAt 118 = .ok (.iload 4, 2) := by decide +kernel
theorem dX0_sharpnessAt_120 : decode cX0_sharpnessAt 120 = .ok (.ireturn, 1) := by decide +kernel
theorem dX0_sharpnessAt_121 : decode cX0_sharpnessAt 121 = .ok (.bipush 10, 2) := by decide +kernel
theorem dX0_sharpnessAt_123 : decode cX0_sharpnessAt 123 = .ok (.ireturn, 1) := by decide +kernel
theorem dX0_sharpnessAt_124 : decode cX0_sharpnessAt 124 = .ok (.iload_n 3, 1) := by decide +kernel
theorem dX0_sharpnessAt_125 : decode cX0_sharpnessAt 125 = .ok (.aload_n 0, 1) := by decide +kernel
theorem dX0_sharpnessAt_126 : decode cX0_sharpnessAt 126 = .ok (.getfield 9, 3) := by decide +kernel
theorem dX0_sharpnessAt_129 : decode cX0_sharpnessAt 129 = .ok (.iload_n 1, 1) := by decide +kernel
theorem dX0_sharpnessAt_130 : decode cX0_sharpnessAt 130 = .ok (.iconst 1, 1) := by decide +kernel
theorem dX0_sharpnessAt_131 : decode cX0_sharpnessAt 131 = .ok (.iadd, 1) := by decide +kernel
theorem dX0_sharpnessAt_132 : decode cX0_sharpnessAt 132 = .ok (.if_icmp .ne 7, 3) := by decide +kernel
theorem dX0_sharpnessAt_135 : decode cX0_sharpnessAt 135 = .ok (.iconst 5, 1) := by decide +kernel
theorem dX0_sharpnessAt_136 : decode cX0_sharpnessAt 136 = .ok (.goto 4, 3) := by decide +kernel
theorem dX0_sharpnessAt_139 : decode cX0_sharpnessAt 139 = .ok (.iconst 0, 1) := by decide +kernel
theorem dX0_sharpnessAt_140 : decode cX0_sharpnessAt 140 = .ok (.iadd, 1) := by decide +kernel
theorem dX0_sharpnessAt_141 : decode cX0_sharpnessAt 141 = .ok (.ireturn, 1) := by decide +kernel
theorem dX0_sharpnessAt_142 : decode cX0_sharpnessAt 142 = .ok (.iconst 5, 1) := by decide +kernel
theorem dX0_sharpnessAt_143 : decode cX0_sharpnessAt 143 = .ok (.iload 4, 2) := by decide +kernel
theorem dX0_sharpnessAt_145 : decode cX0_sharpnessAt 145 = .ok (.invokestatic 61, 3) := by decide +kernel
theorem dX0_sharpnessAt_148 : decode cX0_sharpnessAt 148 = .ok (.ireturn, 1) := by decide +kernel
theorem dX0_sharpnessAt_149 : decode cX0_sharpnessAt 149 = .ok (.iload_n 2, 1) := by decide +kernel
theorem dX0_sharpnessAt_150 : decode cX0_sharpnessAt 150 = .ok (.ireturn, 1) := by decide +kernel
theorem dX0_sharpnessAtItsOne_0 : decode cX0_sharpnessAtItsOne 0 = .ok (.aload_n 0, 1) := by decide +kernel
theorem dX0_sharpnessAtItsOne_1 : decode cX0_sharpnessAtItsOne 1 = .ok (.getfield 21, 3) := by decide +kernel
theorem dX0_sharpnessAtItsOne_4 : decode cX0_sharpnessAtItsOne 4 = .ok (.iconst (-1), 1) := by decide +kernel
theorem dX0_sharpnessAtItsOne_5 : decode cX0_sharpnessAtItsOne 5 = .ok (.if_icmp .ne 7, 3) := by decide +kernel
theorem dX0_sharpnessAtItsOne_8 : decode cX0_sharpnessAtItsOne 8 = .ok (.iconst 0, 1) := by decide +kernel
theorem dX0_sharpnessAtItsOne_9 : decode cX0_sharpnessAtItsOne 9 = .ok (.goto 11, 3) := by decide +kernel
theorem dX0_sharpnessAtItsOne_12 : decode cX0_sharpnessAtItsOne 12 = .ok (.aload_n 0, 1) := by decide +kernel
theorem dX0_sharpnessAtItsOne_13 : decode cX0_sharpnessAtItsOne 13 = .ok (.aload_n 0, 1) := by decide +kernel
theorem dX0_sharpnessAtItsOne_14 : decode cX0_sharpnessAtItsOne 14 = .ok (.getfield 21, 3) := by decide +kernel
theorem dX0_sharpnessAtItsOne_17 : decode cX0_sharpnessAtItsOne 17 = .ok (.invokevirtual 64, 3) := by decide +kernel
theorem dX0_sharpnessAtItsOne_20 : decode cX0_sharpnessAtItsOne 20 = .ok (.ireturn, 1) := by decide +kernel
theorem dX0_forgiving_0 : decode cX0_forgiving 0 = .ok (.iload_n 1, 1) := by decide +kernel
theorem dX0_forgiving_1 : decode cX0_forgiving 1 = .ok (.bipush 30, 2) := by decide +kernel
theorem dX0_forgiving_3 : decode cX0_forgiving 3 = .ok (.if_icmp .ge 7, 3) := by decide +kernel
theorem dX0_forgiving_6 : decode cX0_forgiving 6 = .ok (.iconst 1, 1) := by decide +kernel
theorem dX0_forgiving_7 : decode cX0_forgiving 7 = .ok (.goto 4, 3) := by decide +kernel
theorem dX0_forgiving_10 : decode cX0_forgiving 10 = .ok (.iconst 0, 1) := by decide +kernel
theorem dX0_forgiving_11 : decode cX0_forgiving 11 = .ok (.istore_n 2, 1) := by decide +kernel
theorem dX0_forgiving_12 : decode cX0_forgiving 12 = .ok (.aload_n 0, 1) := by decide +kernel
theorem dX0_forgiving_13 : decode cX0_forgiving 13 = .ok (.getfield 18, 3) := by decide +kernel
theorem dX0_forgiving_16 : decode cX0_forgiving 16 = .ok (.bipush 50, 2) := by decide +kernel
theorem dX0_forgiving_18 : decode cX0_forgiving 18 = .ok (.if_icmp .le 7, 3) := by decide +kernel
theorem dX0_forgiving_21 : decode cX0_forgiving 21 = .ok (.iconst 0, 1) := by decide +kernel
theorem dX0_forgiving_22 : decode cX0_forgiving 22 = .ok (.goto 4, 3) := by decide +kernel
theorem dX0_forgiving_25 : decode cX0_forgiving 25 = .ok (.iload_n 2, 1) := by decide +kernel
theorem dX0_forgiving_26 : decode cX0_forgiving 26 = .ok (.istore_n 3, 1) := by decide +kernel
theorem dX0_forgiving_27 : decode cX0_forgiving 27 = .ok (.iconst 2, 1) := by decide +kernel
theorem dX0_forgiving_28 : decode cX0_forgiving 28 = .ok (.iload_n 2, 1) := by decide +kernel
theorem dX0_forgiving_29 : decode cX0_forgiving 29 = .ok (.imul, 1) := by decide +kernel
theorem dX0_forgiving_30 : decode cX0_forgiving 30 = .ok (.istore 4, 2) := by decide +kernel
theorem dX0_forgiving_32 : decode cX0_forgiving 32 = .ok (.aload_n 0, 1) := by decide +kernel
theorem dX0_forgiving_33 : decode cX0_forgiving 33 = .ok (.getfield 15, 3) := by decide +kernel
theorem dX0_forgiving_36 : decode cX0_forgiving 36 = .ok (.tableswitch 53 1 5 #[36, 38, 41, 43, 45], 36) := by decide +kernel
theorem dX0_forgiving_72 : decode cX0_forgiving 72 = .ok (.iload_n 3, 1) := by decide +kernel
theorem dX0_forgiving_73 : decode cX0_forgiving 73 = .ok (.ireturn, 1) := by decide +kernel
theorem dX0_forgiving_74 : decode cX0_forgiving 74 = .ok (.iload 4, 2) := by decide +kernel
theorem dX0_forgiving_76 : decode cX0_forgiving 76 = .ok (.ireturn, 1) := by decide +kernel
theorem dX0_forgiving_77 : decode cX0_forgiving 77 = .ok (.iconst 3, 1) := by decide +kernel
theorem dX0_forgiving_78 : decode cX0_forgiving 78 = .ok (.ireturn, 1) := by decide +kernel
theorem dX0_forgiving_79 : decode cX0_forgiving 79 = .ok (.iload_n 3, 1) := by decide +kernel
theorem dX0_forgiving_80 : decode cX0_forgiving 80 = .ok (.ireturn, 1) := by decide +kernel
theorem dX0_forgiving_81 : decode cX0_forgiving 81 = .ok (.iload 4, 2) := by decide +kernel
theorem dX0_forgiving_83 : decode cX0_forgiving 83 = .ok (.aload_n 0, 1) := by decide +kernel
theorem dX0_forgiving_84 : decode cX0_forgiving 84 = .ok (.getfield 24, 3) := by decide +kernel
theorem dX0_forgiving_87 : decode cX0_forgiving 87 = .ok (.iadd, 1) := by decide +kernel
theorem dX0_forgiving_88 : decode cX0_forgiving 88 = .ok (.ireturn, 1) := by decide +kernel
theorem dX0_forgiving_89 : decode cX0_forgiving 89 = .ok (.iload_n 2, 1) := by decide +kernel
theorem dX0_forgiving_90 : decode cX0_forgiving 90 = .ok (.ireturn, 1) := by decide +kernel
theorem dX0_growing_0 : decode cX0_growing 0 = .ok (.iload_n 1, 1) := by decide +kernel
theorem dX0_growing_1 : decode cX0_growing 1 = .ok (.bipush 60, 2) := by decide +kernel
theorem dX0_growing_3 : decode cX0_growing 3 = .ok (.if_icmp .lt 7, 3) := by decide +kernel
theorem dX0_growing_6 : decode cX0_growing 6 = .ok (.iconst 1, 1) := by decide +kernel
theorem dX0_growing_7 : decode cX0_growing 7 = .ok (.goto 4, 3) := by decide +kernel
theorem dX0_growing_10 : decode cX0_growing 10 = .ok (.iconst 0, 1) := by decide +kernel
theorem dX0_growing_11 : decode cX0_growing 11 = .ok (.istore_n 2, 1) := by decide +kernel
theorem dX0_growing_12 : decode cX0_growing 12 = .ok (.iload_n 2, 1) := by decide +kernel
theorem dX0_growing_13 : decode cX0_growing 13 = .ok (.iload_n 1, 1) := by decide +kernel
theorem dX0_growing_14 : decode cX0_growing 14 = .ok (.bipush 80, 2) := by decide +kernel
theorem dX0_growing_16 : decode cX0_growing 16 = .ok (.if_icmp .lt 7, 3) := by decide +kernel
theorem dX0_growing_19 : decode cX0_growing 19 = .ok (.iconst 1, 1) := by decide +kernel
theorem dX0_growing_20 : decode cX0_growing 20 = .ok (.goto 4, 3) := by decide +kernel
theorem dX0_growing_23 : decode cX0_growing 23 = .ok (.iconst 0, 1) := by decide +kernel
theorem dX0_growing_24 : decode cX0_growing 24 = .ok (.iadd, 1) := by decide +kernel
theorem dX0_growing_25 : decode cX0_growing 25 = .ok (.istore_n 3, 1) := by decide +kernel
theorem dX0_growing_26 : decode cX0_growing 26 = .ok (.aload_n 0, 1) := by decide +kernel
theorem dX0_growing_27 : decode cX0_growing 27 = .ok (.getfield 15, 3) := by decide +kernel
theorem dX0_growing_30 : decode cX0_growing 30 = .ok (.tableswitch 38 1 4 #[30, 38, 32, 34], 30) := by decide +kernel
theorem dX0_growing_60 : decode cX0_growing 60 = .ok (.iload_n 3, 1) := by decide +kernel
theorem dX0_growing_61 : decode cX0_growing 61 = .ok (.ireturn, 1) := by decide +kernel
theorem dX0_growing_62 : decode cX0_growing 62 = .ok (.iconst 0, 1) := by decide +kernel
theorem dX0_growing_63 : decode cX0_growing 63 = .ok (.ireturn, 1) := by decide +kernel
theorem dX0_growing_64 : decode cX0_growing 64 = .ok (.iconst 2, 1) := by decide +kernel
theorem dX0_growing_65 : decode cX0_growing 65 = .ok (.iload_n 3, 1) := by decide +kernel
theorem dX0_growing_66 : decode cX0_growing 66 = .ok (.imul, 1) := by decide +kernel
theorem dX0_growing_67 : decode cX0_growing 67 = .ok (.ireturn, 1) := by decide +kernel
theorem dX0_growing_68 : decode cX0_growing 68 = .ok (.iload_n 2, 1) := by decide +kernel
theorem dX0_growing_69 : decode cX0_growing 69 = .ok (.ireturn, 1) := by decide +kernel
theorem dX0_letDayGo_0 : decode cX0_letDayGo 0 = .ok (.aload_n 0, 1) := by decide +kernel
theorem dX0_letDayGo_1 : decode cX0_letDayGo 1 = .ok (.invokevirtual 44, 3) := by decide +kernel
theorem dX0_letDayGo_4 : decode cX0_letDayGo 4 = .ok (.istore_n 1, 1) := by decide +kernel
theorem dX0_letDayGo_5 : decode cX0_letDayGo 5 = .ok (.aload_n 0, 1) := by decide +kernel
theorem dX0_letDayGo_6 : decode cX0_letDayGo 6 = .ok (.getfield 18, 3) := by decide +kernel
theorem dX0_letDayGo_9 : decode cX0_letDayGo 9 = .ok (.aload_n 0, 1) := by decide +kernel
theorem dX0_letDayGo_10 : decode cX0_letDayGo 10 = .ok (.iload_n 1, 1) := by decide +kernel
theorem dX0_letDayGo_11 : decode cX0_letDayGo 11 = .ok (.invokevirtual 51, 3) := by decide +kernel
theorem dX0_letDayGo_14 : decode cX0_letDayGo 14 = .ok (.iadd, 1) := by decide +kernel
theorem dX0_letDayGo_15 : decode cX0_letDayGo 15 = .ok (.aload_n 0, 1) := by decide +kernel
theorem dX0_letDayGo_16 : decode cX0_letDayGo 16 = .ok (.iload_n 1, 1) := by decide +kernel
theorem dX0_letDayGo_17 : decode cX0_letDayGo 17 = .ok (.invokevirtual 47, 3) := by decide +kernel
theorem dX0_letDayGo_20 : decode cX0_letDayGo 20 = .ok (.isub, 1) := by decide +kernel
theorem dX0_letDayGo_21 : decode cX0_letDayGo 21 = .ok (.istore_n 2, 1) := by decide +kernel
theorem dX0_letDayGo_22 : decode cX0_letDayGo 22 = .ok (.aload_n 0, 1) := by decide +kernel
theorem dX0_letDayGo_23 : decode cX0_letDayGo 23 = .ok (.iconst 0, 1) := by decide +kernel
theorem dX0_letDayGo_24 : decode cX0_letDayGo 24 = .ok (.bipush 99, 2) := by decide +kernel
theorem dX0_letDayGo_26 : decode cX0_letDayGo 26 = .ok (.iload_n 2, 1) := by decide +kernel
theorem dX0_letDayGo_27 : decode cX0_letDayGo 27 = .ok (.invokestatic 55, 3) := by decide +kernel
theorem dX0_letDayGo_30 : decode cX0_letDayGo 30 = .ok (.invokestatic 61, 3) := by decide +kernel
theorem dX0_letDayGo_33 : decode cX0_letDayGo 33 = .ok (.putfield 18, 3) := by decide +kernel
theorem dX0_letDayGo_36 : decode cX0_letDayGo 36 = .ok (.aload_n 0, 1) := by decide +kernel
theorem dX0_letDayGo_37 : decode cX0_letDayGo 37 = .ok (.getfield 24, 3) := by decide +kernel
theorem dX0_letDayGo_40 : decode cX0_letDayGo 40 = .ok (.ifCond .ne 33, 3) := by decide +kernel
theorem dX0_letDayGo_43 : decode cX0_letDayGo 43 = .ok (.aload_n 0, 1) := by decide +kernel
theorem dX0_letDayGo_44 : decode cX0_letDayGo 44 = .ok (.getfield 18, 3) := by decide +kernel
theorem dX0_letDayGo_47 : decode cX0_letDayGo 47 = .ok (.aload_n 0, 1) := by decide +kernel
theorem dX0_letDayGo_48 : decode cX0_letDayGo 48 = .ok (.getfield 30, 3) := by decide +kernel
theorem dX0_letDayGo_51 : decode cX0_letDayGo 51 = .ok (.if_icmp .ge 22, 3) := by decide +kernel
theorem dX0_letDayGo_54 : decode cX0_letDayGo 54 = .ok (.aload_n 0, 1) := by decide +kernel
theorem dX0_letDayGo_55 : decode cX0_letDayGo 55 = .ok (.getfield 33, 3) := by decide +kernel
theorem dX0_letDayGo_58 : decode cX0_letDayGo 58 = .ok (.bipush 99, 2) := by decide +kernel
theorem dX0_letDayGo_60 : decode cX0_letDayGo 60 = .ok (.if_icmp .ge 13, 3) := by decide +kernel
theorem dX0_letDayGo_63 : decode cX0_letDayGo 63 = .ok (.aload_n 0, 1) := by decide +kernel
theorem dX0_letDayGo_64 : decode cX0_letDayGo 64 = .ok (.dup, 1) := by decide +kernel
theorem dX0_letDayGo_65 : decode cX0_letDayGo 65 = .ok (.getfield 33, 3) := by decide +kernel
theorem dX0_letDayGo_68 : decode cX0_letDayGo 68 = .ok (.iconst 1, 1) := by decide +kernel
theorem dX0_letDayGo_69 : decode cX0_letDayGo 69 = .ok (.iadd, 1) := by decide +kernel
theorem dX0_letDayGo_70 : decode cX0_letDayGo 70 = .ok (.putfield 33, 3) := by decide +kernel
theorem dX0_letDayGo_73 : decode cX0_letDayGo 73 = .ok (.return_, 1) := by decide +kernel
theorem dX0_letDaysGo_0 : decode cX0_letDaysGo 0 = .ok (.iconst 0, 1) := by decide +kernel
theorem dX0_letDaysGo_1 : decode cX0_letDaysGo 1 = .ok (.istore_n 2, 1) := by decide +kernel
theorem dX0_letDaysGo_2 : decode cX0_letDaysGo 2 = .ok (.iload_n 2, 1) := by decide +kernel
theorem dX0_letDaysGo_3 : decode cX0_letDaysGo 3 = .ok (.iload_n 1, 1) := by decide +kernel
theorem dX0_letDaysGo_4 : decode cX0_letDaysGo 4 = .ok (.if_icmp .ge 13, 3) := by decide +kernel
theorem dX0_letDaysGo_7 : decode cX0_letDaysGo 7 = .ok (.aload_n 0, 1) := by decide +kernel
theorem dX0_letDaysGo_8 : decode cX0_letDaysGo 8 = .ok (.invokevirtual 67, 3) := by decide +kernel
theorem dX0_letDaysGo_11 : decode cX0_letDaysGo 11 = .ok (.iinc 2 1, 3) := by decide +kernel
theorem dX0_letDaysGo_14 : decode cX0_letDaysGo 14 = .ok (.goto (-12), 3) := by decide +kernel
theorem dX0_letDaysGo_17 : decode cX0_letDaysGo 17 = .ok (.return_, 1) := by decide +kernel
theorem dX1_init_0 : decode cX1_init 0 = .ok (.aload_n 0, 1) := by decide +kernel
theorem dX1_init_1 : decode cX1_init 1 = .ok (.invokespecial 3, 3) := by decide +kernel
theorem dX1_init_4 : decode cX1_init 4 = .ok (.aload_n 0, 1) := by decide +kernel
theorem dX1_init_5 : decode cX1_init 5 = .ok (.iconst 0, 1) := by decide +kernel
theorem dX1_init_6 : decode cX1_init 6 = .ok (.putfield 9, 3) := by decide +kernel
theorem dX1_init_9 : decode cX1_init 9 = .ok (.aload_n 0, 1) := by decide +kernel
theorem dX1_init_10 : decode cX1_init 10 = .ok (.iconst 0, 1) := by decide +kernel
theorem dX1_init_11 : decode cX1_init 11 = .ok (.putfield 15, 3) := by decide +kernel
theorem dX1_init_14 : decode cX1_init 14 = .ok (.aload_n 0, 1) := by decide +kernel
theorem dX1_init_15 : decode cX1_init 15 = .ok (.bipush 8, 2) := by decide +kernel
theorem dX1_init_17 : decode cX1_init 17 = .ok (.anewarray 18, 3) := by decide +kernel
theorem dX1_init_20 : decode cX1_init 20 = .ok (.putfield 20, 3) := by decide +kernel
theorem dX1_init_23 : decode cX1_init 23 = .ok (.aload_n 0, 1) := by decide +kernel
theorem dX1_init_24 : decode cX1_init 24 = .ok (.bipush 8, 2) := by decide +kernel
theorem dX1_init_26 : decode cX1_init 26 = .ok (.newarray .int, 2) := by decide +kernel
theorem dX1_init_28 : decode cX1_init 28 = .ok (.putfield 24, 3) := by decide +kernel
theorem dX1_init_31 : decode cX1_init 31 = .ok (.iconst 0, 1) := by decide +kernel
theorem dX1_init_32 : decode cX1_init 32 = .ok (.istore_n 1, 1) := by decide +kernel
theorem dX1_init_33 : decode cX1_init 33 = .ok (.iload_n 1, 1) := by decide +kernel
theorem dX1_init_34 : decode cX1_init 34 = .ok (.bipush 8, 2) := by decide +kernel
theorem dX1_init_36 : decode cX1_init 36 = .ok (.if_icmp .ge 22, 3) := by decide +kernel
theorem dX1_init_39 : decode cX1_init 39 = .ok (.aload_n 0, 1) := by decide +kernel
theorem dX1_init_40 : decode cX1_init 40 = .ok (.getfield 20, 3) := by decide +kernel
theorem dX1_init_43 : decode cX1_init 43 = .ok (.iload_n 1, 1) := by decide +kernel
theorem dX1_init_44 : decode cX1_init 44 = .ok (.new 18, 3) := by decide +kernel
theorem dX1_init_47 : decode cX1_init 47 = .ok (.dup, 1) := by decide +kernel
theorem dX1_init_48 : decode cX1_init 48 = .ok (.invokespecial 28, 3) := by decide +kernel
theorem dX1_init_51 : decode cX1_init 51 = .ok (.aastore, 1) := by decide +kernel
theorem dX1_init_52 : decode cX1_init 52 = .ok (.iinc 1 1, 3) := by decide +kernel
theorem dX1_init_55 : decode cX1_init 55 = .ok (.goto (-22), 3) := by decide +kernel
theorem dX1_init_58 : decode cX1_init 58 = .ok (.return_, 1) := by decide +kernel
theorem dX1_become_0 : decode cX1_become 0 = .ok (.aload_n 0, 1) := by decide +kernel
theorem dX1_become_1 : decode cX1_become 1 = .ok (.aload_n 1, 1) := by decide +kernel
theorem dX1_become_2 : decode cX1_become 2 = .ok (.getfield 9, 3) := by decide +kernel
theorem dX1_become_5 : decode cX1_become 5 = .ok (.putfield 9, 3) := by decide +kernel
theorem dX1_become_8 : decode cX1_become 8 = .ok (.aload_n 0, 1) := by decide +kernel
theorem dX1_become_9 : decode cX1_become 9 = .ok (.aload_n 1, 1) := by decide +kernel
theorem dX1_become_10 : decode cX1_become 10 = .ok (.getfield 15, 3) := by decide +kernel
theorem dX1_become_13 : decode cX1_become 13 = .ok (.putfield 15, 3) := by decide +kernel
theorem dX1_become_16 : decode cX1_become 16 = .ok (.iconst 0, 1) := by decide +kernel
theorem dX1_become_17 : decode cX1_become 17 = .ok (.istore_n 2, 1) := by decide +kernel
theorem dX1_become_18 : decode cX1_become 18 = .ok (.iload_n 2, 1) := by decide +kernel
theorem dX1_become_19 : decode cX1_become 19 = .ok (.aload_n 0, 1) := by decide +kernel
theorem dX1_become_20 : decode cX1_become 20 = .ok (.getfield 15, 3) := by decide +kernel
theorem dX1_become_23 : decode cX1_become 23 = .ok (.if_icmp .ge 24, 3) := by decide +kernel
theorem dX1_become_26 : decode cX1_become 26 = .ok (.aload_n 0, 1) := by decide +kernel
theorem dX1_become_27 : decode cX1_become 27 = .ok (.getfield 20, 3) := by decide +kernel
theorem dX1_become_30 : decode cX1_become 30 = .ok (.iload_n 2, 1) := by decide +kernel
theorem dX1_become_31 : decode cX1_become 31 = .ok (.aaload, 1) := by decide +kernel
theorem dX1_become_32 : decode cX1_become 32 = .ok (.aload_n 1, 1) := by decide +kernel
theorem dX1_become_33 : decode cX1_become 33 = .ok (.getfield 20, 3) := by decide +kernel
theorem dX1_become_36 : decode cX1_become 36 = .ok (.iload_n 2, 1) := by decide +kernel
theorem dX1_become_37 : decode cX1_become 37 = .ok (.aaload, 1) := by decide +kernel
theorem dX1_become_38 : decode cX1_become 38 = .ok (.invokevirtual 29, 3) := by decide +kernel
theorem dX1_become_41 : decode cX1_become 41 = .ok (.iinc 2 1, 3) := by decide +kernel
theorem dX1_become_44 : decode cX1_become 44 = .ok (.goto (-26), 3) := by decide +kernel
theorem dX1_become_47 : decode cX1_become 47 = .ok (.return_, 1) := by decide +kernel
theorem dX1_isFull_0 : decode cX1_isFull 0 = .ok (.aload_n 0, 1) := by decide +kernel
theorem dX1_isFull_1 : decode cX1_isFull 1 = .ok (.getfield 15, 3) := by decide +kernel
theorem dX1_isFull_4 : decode cX1_isFull 4 = .ok (.bipush 8, 2) := by decide +kernel
theorem dX1_isFull_6 : decode cX1_isFull 6 = .ok (.if_icmp .lt 7, 3) := by decide +kernel
theorem dX1_isFull_9 : decode cX1_isFull 9 = .ok (.iconst 1, 1) := by decide +kernel
theorem dX1_isFull_10 : decode cX1_isFull 10 = .ok (.goto 4, 3) := by decide +kernel
theorem dX1_isFull_13 : decode cX1_isFull 13 = .ok (.iconst 0, 1) := by decide +kernel
theorem dX1_isFull_14 : decode cX1_isFull 14 = .ok (.ireturn, 1) := by decide +kernel
theorem dX1_welcome_0 : decode cX1_welcome 0 = .ok (.aload_n 0, 1) := by decide +kernel
theorem dX1_welcome_1 : decode cX1_welcome 1 = .ok (.getfield 20, 3) := by decide +kernel
theorem dX1_welcome_4 : decode cX1_welcome 4 = .ok (.aload_n 0, 1) := by decide +kernel
theorem dX1_welcome_5 : decode cX1_welcome 5 = .ok (.getfield 15, 3) := by decide +kernel
theorem dX1_welcome_8 : decode cX1_welcome 8 = .ok (.aaload, 1) := by decide +kernel
theorem dX1_welcome_9 : decode cX1_welcome 9 = .ok (.astore_n 2, 1) := by decide +kernel
theorem dX1_welcome_10 : decode cX1_welcome 10 = .ok (.aload_n 2, 1) := by decide +kernel
theorem dX1_welcome_11 : decode cX1_welcome 11 = .ok (.aload_n 0, 1) := by decide +kernel
theorem dX1_welcome_12 : decode cX1_welcome 12 = .ok (.getfield 15, 3) := by decide +kernel
theorem dX1_welcome_15 : decode cX1_welcome 15 = .ok (.iload_n 1, 1) := by decide +kernel
theorem dX1_welcome_16 : decode cX1_welcome 16 = .ok (.invokevirtual 33, 3) := by decide +kernel
theorem dX1_welcome_19 : decode cX1_welcome 19 = .ok (.aload_n 0, 1) := by decide +kernel
theorem dX1_welcome_20 : decode cX1_welcome 20 = .ok (.dup, 1) := by decide +kernel
theorem dX1_welcome_21 : decode cX1_welcome 21 = .ok (.getfield 15, 3) := by decide +kernel
theorem dX1_welcome_24 : decode cX1_welcome 24 = .ok (.iconst 1, 1) := by decide +kernel
theorem dX1_welcome_25 : decode cX1_welcome 25 = .ok (.iadd, 1) := by decide +kernel
theorem dX1_welcome_26 : decode cX1_welcome 26 = .ok (.putfield 15, 3) := by decide +kernel
theorem dX1_welcome_29 : decode cX1_welcome 29 = .ok (.aload_n 2, 1) := by decide +kernel
theorem dX1_welcome_30 : decode cX1_welcome 30 = .ok (.areturn, 1) := by decide +kernel
theorem dX1_letDaysGo_0 : decode cX1_letDaysGo 0 = .ok (.iconst 0, 1) := by decide +kernel
theorem dX1_letDaysGo_1 : decode cX1_letDaysGo 1 = .ok (.istore_n 2, 1) := by decide +kernel
theorem dX1_letDaysGo_2 : decode cX1_letDaysGo 2 = .ok (.iload_n 2, 1) := by decide +kernel
theorem dX1_letDaysGo_3 : decode cX1_letDaysGo 3 = .ok (.iload_n 1, 1) := by decide +kernel
theorem dX1_letDaysGo_4 : decode cX1_letDaysGo 4 = .ok (.if_icmp .ge 44, 3) := by decide +kernel
theorem dX1_letDaysGo_7 : decode cX1_letDaysGo 7 = .ok (.iconst 0, 1) := by decide +kernel
theorem dX1_letDaysGo_8 : decode cX1_letDaysGo 8 = .ok (.istore_n 3, 1) := by decide +kernel
theorem dX1_letDaysGo_9 : decode cX1_letDaysGo 9 = .ok (.iload_n 3, 1) := by decide +kernel
theorem dX1_letDaysGo_10 : decode cX1_letDaysGo 10 = .ok (.aload_n 0, 1) := by decide +kernel
theorem dX1_letDaysGo_11 : decode cX1_letDaysGo 11 = .ok (.getfield 15, 3) := by decide +kernel
theorem dX1_letDaysGo_14 : decode cX1_letDaysGo 14 = .ok (.if_icmp .ge 18, 3) := by decide +kernel
theorem dX1_letDaysGo_17 : decode cX1_letDaysGo 17 = .ok (.aload_n 0, 1) := by decide +kernel
theorem dX1_letDaysGo_18 : decode cX1_letDaysGo 18 = .ok (.getfield 20, 3) := by decide +kernel
theorem dX1_letDaysGo_21 : decode cX1_letDaysGo 21 = .ok (.iload_n 3, 1) := by decide +kernel
theorem dX1_letDaysGo_22 : decode cX1_letDaysGo 22 = .ok (.aaload, 1) := by decide +kernel
theorem dX1_letDaysGo_23 : decode cX1_letDaysGo 23 = .ok (.invokevirtual 37, 3) := by decide +kernel
theorem dX1_letDaysGo_26 : decode cX1_letDaysGo 26 = .ok (.iinc 3 1, 3) := by decide +kernel
theorem dX1_letDaysGo_29 : decode cX1_letDaysGo 29 = .ok (.goto (-20), 3) := by decide +kernel
theorem dX1_letDaysGo_32 : decode cX1_letDaysGo 32 = .ok (.aload_n 0, 1) := by decide +kernel
theorem dX1_letDaysGo_33 : decode cX1_letDaysGo 33 = .ok (.dup, 1) := by decide +kernel
theorem dX1_letDaysGo_34 : decode cX1_letDaysGo 34 = .ok (.getfield 9, 3) := by decide +kernel
theorem dX1_letDaysGo_37 : decode cX1_letDaysGo 37 = .ok (.iconst 1, 1) := by decide +kernel
theorem dX1_letDaysGo_38 : decode cX1_letDaysGo 38 = .ok (.iadd, 1) := by decide +kernel
theorem dX1_letDaysGo_39 : decode cX1_letDaysGo 39 = .ok (.putfield 9, 3) := by decide +kernel
theorem dX1_letDaysGo_42 : decode cX1_letDaysGo 42 = .ok (.iinc 2 1, 3) := by decide +kernel
theorem dX1_letDaysGo_45 : decode cX1_letDaysGo 45 = .ok (.goto (-43), 3) := by decide +kernel
theorem dX1_letDaysGo_48 : decode cX1_letDaysGo 48 = .ok (.return_, 1) := by decide +kernel
theorem dX1_all_0 : decode cX1_all 0 = .ok (.iconst 1, 1) := by decide +kernel
theorem dX1_all_1 : decode cX1_all 1 = .ok (.aload_n 0, 1) := by decide +kernel
theorem dX1_all_2 : decode cX1_all 2 = .ok (.getfield 15, 3) := by decide +kernel
theorem dX1_all_5 : decode cX1_all 5 = .ok (.ishl, 1) := by decide +kernel
theorem dX1_all_6 : decode cX1_all 6 = .ok (.iconst 1, 1) := by decide +kernel
theorem dX1_all_7 : decode cX1_all 7 = .ok (.isub, 1) := by decide +kernel
theorem dX1_all_8 : decode cX1_all 8 = .ok (.ireturn, 1) := by decide +kernel
theorem dX1_grudges_0 : decode cX1_grudges 0 = .ok (.iconst 0, 1) := by decide +kernel
theorem dX1_grudges_1 : decode cX1_grudges 1 = .ok (.istore_n 1, 1) := by decide +kernel
theorem dX1_grudges_2 : decode cX1_grudges 2 = .ok (.iconst 0, 1) := by decide +kernel
theorem dX1_grudges_3 : decode cX1_grudges 3 = .ok (.istore_n 2, 1) := by decide +kernel
theorem dX1_grudges_4 : decode cX1_grudges 4 = .ok (.iload_n 2, 1) := by decide +kernel
theorem dX1_grudges_5 : decode cX1_grudges 5 = .ok (.aload_n 0, 1) := by decide +kernel
theorem dX1_grudges_6 : decode cX1_grudges 6 = .ok (.getfield 15, 3) := by decide +kernel
theorem dX1_grudges_9 : decode cX1_grudges 9 = .ok (.if_icmp .ge 21, 3) := by decide +kernel
theorem dX1_grudges_12 : decode cX1_grudges 12 = .ok (.iload_n 1, 1) := by decide +kernel
theorem dX1_grudges_13 : decode cX1_grudges 13 = .ok (.aload_n 0, 1) := by decide +kernel
theorem dX1_grudges_14 : decode cX1_grudges 14 = .ok (.getfield 20, 3) := by decide +kernel
theorem dX1_grudges_17 : decode cX1_grudges 17 = .ok (.iload_n 2, 1) := by decide +kernel
theorem dX1_grudges_18 : decode cX1_grudges 18 = .ok (.aaload, 1) := by decide +kernel
theorem dX1_grudges_19 : decode cX1_grudges 19 = .ok (.getfield 40, 3) := by decide +kernel
theorem dX1_grudges_22 : decode cX1_grudges 22 = .ok (.iadd, 1) := by decide +kernel
theorem dX1_grudges_23 : decode cX1_grudges 23 = .ok (.istore_n 1, 1) := by decide +kernel
theorem dX1_grudges_24 : decode cX1_grudges 24 = .ok (.iinc 2 1, 3) := by decide +kernel
theorem dX1_grudges_27 : decode cX1_grudges 27 = .ok (.goto (-23), 3) := by decide +kernel
theorem dX1_grudges_30 : decode cX1_grudges 30 = .ok (.iload_n 1, 1) := by decide +kernel
theorem dX1_grudges_31 : decode cX1_grudges 31 = .ok (.ireturn, 1) := by decide +kernel
theorem dX1_wornTogether_0 : decode cX1_wornTogether 0 = .ok (.iconst 0, 1) := by decide +kernel
theorem dX1_wornTogether_1 : decode cX1_wornTogether 1 = .ok (.istore_n 1, 1) := by decide +kernel
theorem dX1_wornTogether_2 : decode cX1_wornTogether 2 = .ok (.iconst 0, 1) := by decide +kernel
theorem dX1_wornTogether_3 : decode cX1_wornTogether 3 = .ok (.istore_n 2, 1) := by decide +kernel
theorem dX1_wornTogether_4 : decode cX1_wornTogether 4 = .ok (.iload_n 2, 1) := by decide +kernel
theorem dX1_wornTogether_5 : decode cX1_wornTogether 5 = .ok (.aload_n 0, 1) := by decide +kernel
theorem dX1_wornTogether_6 : decode cX1_wornTogether 6 = .ok (.getfield 15, 3) := by decide +kernel
theorem dX1_wornTogether_9 : decode cX1_wornTogether 9 = .ok (.if_icmp .ge 21, 3) := by decide +kernel
theorem dX1_wornTogether_12 : decode cX1_wornTogether 12 = .ok (.iload_n 1, 1) := by decide +kernel
theorem dX1_wornTogether_13 : decode cX1_wornTogether 13 = .ok (.aload_n 0, 1) := by decide +kernel
theorem dX1_wornTogether_14 : decode cX1_wornTogether 14 = .ok (.getfield 20, 3) := by decide +kernel
theorem dX1_wornTogether_17 : decode cX1_wornTogether 17 = .ok (.iload_n 2, 1) := by decide +kernel
theorem dX1_wornTogether_18 : decode cX1_wornTogether 18 = .ok (.aaload, 1) := by decide +kernel
theorem dX1_wornTogether_19 : decode cX1_wornTogether 19 = .ok (.getfield 43, 3) := by decide +kernel
theorem dX1_wornTogether_22 : decode cX1_wornTogether 22 = .ok (.iadd, 1) := by decide +kernel
theorem dX1_wornTogether_23 : decode cX1_wornTogether 23 = .ok (.istore_n 1, 1) := by decide +kernel
theorem dX1_wornTogether_24 : decode cX1_wornTogether 24 = .ok (.iinc 2 1, 3) := by decide +kernel
theorem dX1_wornTogether_27 : decode cX1_wornTogether 27 = .ok (.goto (-23), 3) := by decide +kernel
theorem dX1_wornTogether_30 : decode cX1_wornTogether 30 = .ok (.iload_n 1, 1) := by decide +kernel
theorem dX1_wornTogether_31 : decode cX1_wornTogether 31 = .ok (.ireturn, 1) := by decide +kernel
theorem dX1_pairsThatShowNobody_0 : decode cX1_pairsThatShowNobody 0 = .ok (.iconst 0, 1) := by decide +kernel
theorem dX1_pairsThatShowNobody_1 : decode cX1_pairsThatShowNobody 1 = .ok (.istore_n 1, 1) := by decide +kernel
theorem dX1_pairsThatShowNobody_2 : decode cX1_pairsThatShowNobody 2 = .ok (.iconst 0, 1) := by decide +kernel
theorem dX1_pairsThatShowNobody_3 : decode cX1_pairsThatShowNobody 3 = .ok (.istore_n 2, 1) := by decide +kernel
theorem dX1_pairsThatShowNobody_4 : decode cX1_pairsThatShowNobody 4 = .ok (.iload_n 2, 1) := by decide +kernel
theorem dX1_pairsThatShowNobody_5 : decode cX1_pairsThatShowNobody 5 = .ok (.aload_n 0, 1) := by decide +kernel
theorem dX1_pairsThatShowNobody_6 : decode cX1_pairsThatShowNobody 6 = .ok (.getfield 15, 3) := by decide +kernel
theorem dX1_pairsThatShowNobody_9 : decode cX1_pairsThatShowNobody 9 = .ok (.if_icmp .ge 30, 3) := by decide +kernel
theorem dX1_pairsThatShowNobody_12 : decode cX1_pairsThatShowNobody 12 = .ok (.iload_n 1, 1) := by decide +kernel
theorem dX1_pairsThatShowNobody_13 : decode cX1_pairsThatShowNobody 13 = .ok (.aload_n 0, 1) := by decide +kernel
theorem dX1_pairsThatShowNobody_14 : decode cX1_pairsThatShowNobody 14 = .ok (.getfield 20, 3) := by decide +kernel
theorem dX1_pairsThatShowNobody_17 : decode cX1_pairsThatShowNobody 17 = .ok (.iload_n 2, 1) := by decide +kernel
theorem dX1_pairsThatShowNobody_18 : decode cX1_pairsThatShowNobody 18 = .ok (.aaload, 1) := by decide +kernel
theorem dX1_pairsThatShowNobody_19 : decode cX1_pairsThatShowNobody 19 = .ok (.getfield 46, 3) := by decide +kernel
theorem dX1_pairsThatShowNobody_22 : decode cX1_pairsThatShowNobody 22 = .ok (.iconst (-1), 1) := by decide +kernel
theorem dX1_pairsThatShowNobody_23 : decode cX1_pairsThatShowNobody 23 = .ok (.if_icmp .ne 7, 3) := by decide +kernel
theorem dX1_pairsThatShowNobody_26 : decode cX1_pairsThatShowNobody 26 = .ok (.iconst 1, 1) := by decide +kernel
theorem dX1_pairsThatShowNobody_27 : decode cX1_pairsThatShowNobody 27 = .ok (.goto 4, 3) := by decide +kernel
theorem dX1_pairsThatShowNobody_30 : decode cX1_pairsThatShowNobody 30 = .ok (.iconst 0, 1) := by decide +kernel
theorem dX1_pairsThatShowNobody_31 : decode cX1_pairsThatShowNobody 31 = .ok (.iadd, 1) := by decide +kernel
theorem dX1_pairsThatShowNobody_32 : decode cX1_pairsThatShowNobody 32 = .ok (.istore_n 1, 1) := by decide +kernel
theorem dX1_pairsThatShowNobody_33 : decode cX1_pairsThatShowNobody 33 = .ok (.iinc 2 1, 3) := by decide +kernel
theorem dX1_pairsThatShowNobody_36 : decode cX1_pairsThatShowNobody 36 = .ok (.goto (-32), 3) := by decide +kernel
theorem dX1_pairsThatShowNobody_39 : decode cX1_pairsThatShowNobody 39 = .ok (.iload_n 1, 1) := by decide +kernel
theorem dX1_pairsThatShowNobody_40 : decode cX1_pairsThatShowNobody 40 = .ok (.ireturn, 1) := by decide +kernel
theorem dX1_thoseWithoutGrudge_0 : decode cX1_thoseWithoutGrudge 0 = .ok (.iconst 0, 1) := by decide +kernel
theorem dX1_thoseWithoutGrudge_1 : decode cX1_thoseWithoutGrudge 1 = .ok (.istore_n 1, 1) := by decide +kernel
theorem dX1_thoseWithoutGrudge_2 : decode cX1_thoseWithoutGrudge 2 = .ok (.iconst 0, 1) := by decide +kernel
theorem dX1_thoseWithoutGrudge_3 : decode cX1_thoseWithoutGrudge 3 = .ok (.istore_n 2, 1) := by decide +kernel
theorem dX1_thoseWithoutGrudge_4 : decode cX1_thoseWithoutGrudge 4 = .ok (.iload_n 2, 1) := by decide +kernel
theorem dX1_thoseWithoutGrudge_5 : decode cX1_thoseWithoutGrudge 5 = .ok (.aload_n 0, 1) := by decide +kernel
theorem dX1_thoseWithoutGrudge_6 : decode cX1_thoseWithoutGrudge 6 = .ok (.getfield 15, 3) := by decide +kernel
theorem dX1_thoseWithoutGrudge_9 : decode cX1_thoseWithoutGrudge 9 = .ok (.if_icmp .ge 31, 3) := by decide +kernel
theorem dX1_thoseWithoutGrudge_12 : decode cX1_thoseWithoutGrudge 12 = .ok (.iload_n 1, 1) := by decide +kernel
theorem dX1_thoseWithoutGrudge_13 : decode cX1_thoseWithoutGrudge 13 = .ok (.aload_n 0, 1) := by decide +kernel
theorem dX1_thoseWithoutGrudge_14 : decode cX1_thoseWithoutGrudge 14 = .ok (.getfield 20, 3) := by decide +kernel
theorem dX1_thoseWithoutGrudge_17 : decode cX1_thoseWithoutGrudge 17 = .ok (.iload_n 2, 1) := by decide +kernel
theorem dX1_thoseWithoutGrudge_18 : decode cX1_thoseWithoutGrudge 18 = .ok (.aaload, 1) := by decide +kernel
theorem dX1_thoseWithoutGrudge_19 : decode cX1_thoseWithoutGrudge 19 = .ok (.getfield 40, 3) := by decide +kernel
theorem dX1_thoseWithoutGrudge_22 : decode cX1_thoseWithoutGrudge 22 = .ok (.ifCond .ne 9, 3) := by decide +kernel
theorem dX1_thoseWithoutGrudge_25 : decode cX1_thoseWithoutGrudge 25 = .ok (.iconst 1, 1) := by decide +kernel
theorem dX1_thoseWithoutGrudge_26 : decode cX1_thoseWithoutGrudge 26 = .ok (.iload_n 2, 1) := by decide +kernel
theorem dX1_thoseWithoutGrudge_27 : decode cX1_thoseWithoutGrudge 27 = .ok (.ishl, 1) := by decide +kernel
theorem dX1_thoseWithoutGrudge_28 : decode cX1_thoseWithoutGrudge 28 = .ok (.goto 4, 3) := by decide +kernel
theorem dX1_thoseWithoutGrudge_31 : decode cX1_thoseWithoutGrudge 31 = .ok (.iconst 0, 1) := by decide +kernel
theorem dX1_thoseWithoutGrudge_32 : decode cX1_thoseWithoutGrudge 32 = .ok (.ior, 1) := by decide +kernel
theorem dX1_thoseWithoutGrudge_33 : decode cX1_thoseWithoutGrudge 33 = .ok (.istore_n 1, 1) := by decide +kernel
theorem dX1_thoseWithoutGrudge_34 : decode cX1_thoseWithoutGrudge 34 = .ok (.iinc 2 1, 3) := by decide +kernel
theorem dX1_thoseWithoutGrudge_37 : decode cX1_thoseWithoutGrudge 37 = .ok (.goto (-33), 3) := by decide +kernel
theorem dX1_thoseWithoutGrudge_40 : decode cX1_thoseWithoutGrudge 40 = .ok (.iload_n 1, 1) := by decide +kernel
theorem dX1_thoseWithoutGrudge_41 : decode cX1_thoseWithoutGrudge 41 = .ok (.ireturn, 1) := by decide +kernel
theorem dX1_thoseUp_0 : decode cX1_thoseUp 0 = .ok (.iconst 0, 1) := by decide +kernel
theorem dX1_thoseUp_1 : decode cX1_thoseUp 1 = .ok (.istore_n 1, 1) := by decide +kernel
theorem dX1_thoseUp_2 : decode cX1_thoseUp 2 = .ok (.iconst 0, 1) := by decide +kernel
theorem dX1_thoseUp_3 : decode cX1_thoseUp 3 = .ok (.istore_n 2, 1) := by decide +kernel
theorem dX1_thoseUp_4 : decode cX1_thoseUp 4 = .ok (.iload_n 2, 1) := by decide +kernel
theorem dX1_thoseUp_5 : decode cX1_thoseUp 5 = .ok (.aload_n 0, 1) := by decide +kernel
theorem dX1_thoseUp_6 : decode cX1_thoseUp 6 = .ok (.getfield 15, 3) := by decide +kernel
theorem dX1_thoseUp_9 : decode cX1_thoseUp 9 = .ok (.if_icmp .ge 23, 3) := by decide +kernel
theorem dX1_thoseUp_12 : decode cX1_thoseUp 12 = .ok (.iload_n 1, 1) := by decide +kernel
theorem dX1_thoseUp_13 : decode cX1_thoseUp 13 = .ok (.aload_n 0, 1) := by decide +kernel
theorem dX1_thoseUp_14 : decode cX1_thoseUp 14 = .ok (.getfield 20, 3) := by decide +kernel
theorem dX1_thoseUp_17 : decode cX1_thoseUp 17 = .ok (.iload_n 2, 1) := by decide +kernel
theorem dX1_thoseUp_18 : decode cX1_thoseUp 18 = .ok (.aaload, 1) := by decide +kernel
theorem dX1_thoseUp_19 : decode cX1_thoseUp 19 = .ok (.getfield 49, 3) := by decide +kernel
theorem dX1_thoseUp_22 : decode cX1_thoseUp 22 = .ok (.iload_n 2, 1) := by decide +kernel
theorem dX1_thoseUp_23 : decode cX1_thoseUp 23 = .ok (.ishl, 1) := by decide +kernel
theorem dX1_thoseUp_24 : decode cX1_thoseUp 24 = .ok (.ior, 1) := by decide +kernel
theorem dX1_thoseUp_25 : decode cX1_thoseUp 25 = .ok (.istore_n 1, 1) := by decide +kernel
theorem dX1_thoseUp_26 : decode cX1_thoseUp 26 = .ok (.iinc 2 1, 3) := by decide +kernel
theorem dX1_thoseUp_29 : decode cX1_thoseUp 29 = .ok (.goto (-25), 3) := by decide +kernel
theorem dX1_thoseUp_32 : decode cX1_thoseUp 32 = .ok (.iload_n 1, 1) := by decide +kernel
theorem dX1_thoseUp_33 : decode cX1_thoseUp 33 = .ok (.ireturn, 1) := by decide +kernel
theorem dX1_othersAsSharpAs_0 : decode cX1_othersAsSharpAs 0 = .ok (.iconst 0, 1) := by decide +kernel
theorem dX1_othersAsSharpAs_1 : decode cX1_othersAsSharpAs 1 = .ok (.istore_n 3, 1) := by decide +kernel
theorem dX1_othersAsSharpAs_2 : decode cX1_othersAsSharpAs 2 = .ok (.iconst 0, 1) := by decide +kernel
theorem dX1_othersAsSharpAs_3 : decode cX1_othersAsSharpAs 3 = .ok (.istore 4, 2) := by decide +kernel
theorem dX1_othersAsSharpAs_5 : decode cX1_othersAsSharpAs 5 = .ok (.iload 4, 2) := by decide +kernel
theorem dX1_othersAsSharpAs_7 : decode cX1_othersAsSharpAs 7 = .ok (.aload_n 0, 1) := by decide +kernel
theorem dX1_othersAsSharpAs_8 : decode cX1_othersAsSharpAs 8 = .ok (.getfield 15, 3) := by decide +kernel
theorem dX1_othersAsSharpAs_11 : decode cX1_othersAsSharpAs 11 = .ok (.if_icmp .ge 37, 3) := by decide +kernel
theorem dX1_othersAsSharpAs_14 : decode cX1_othersAsSharpAs 14 = .ok (.iload 4, 2) := by decide +kernel
theorem dX1_othersAsSharpAs_16 : decode cX1_othersAsSharpAs 16 = .ok (.iload_n 1, 1) := by decide +kernel
theorem dX1_othersAsSharpAs_17 : decode cX1_othersAsSharpAs 17 = .ok (.if_icmp .eq 25, 3) := by decide +kernel
theorem dX1_othersAsSharpAs_20 : decode cX1_othersAsSharpAs 20 = .ok (.aload_n 0, 1) := by decide +kernel
theorem dX1_othersAsSharpAs_21 : decode cX1_othersAsSharpAs 21 = .ok (.getfield 20, 3) := by decide +kernel
theorem dX1_othersAsSharpAs_24 : decode cX1_othersAsSharpAs 24 = .ok (.iload_n 1, 1) := by decide +kernel
theorem dX1_othersAsSharpAs_25 : decode cX1_othersAsSharpAs 25 = .ok (.aaload, 1) := by decide +kernel
theorem dX1_othersAsSharpAs_26 : decode cX1_othersAsSharpAs 26 = .ok (.iload 4, 2) := by decide +kernel
theorem dX1_othersAsSharpAs_28 : decode cX1_othersAsSharpAs 28 = .ok (.invokevirtual 52, 3) := by decide +kernel
theorem dX1_othersAsSharpAs_31 : decode cX1_othersAsSharpAs 31 = .ok (.iload_n 2, 1) := by decide +kernel
theorem dX1_othersAsSharpAs_32 : decode cX1_othersAsSharpAs 32 = .ok (.if_icmp .lt 10, 3) := by decide +kernel
theorem dX1_othersAsSharpAs_35 : decode cX1_othersAsSharpAs 35 = .ok (.iload_n 3, 1) := by decide +kernel
theorem dX1_othersAsSharpAs_36 : decode cX1_othersAsSharpAs 36 = .ok (.iconst 1, 1) := by decide +kernel
theorem dX1_othersAsSharpAs_37 : decode cX1_othersAsSharpAs 37 = .ok (.iload 4, 2) := by decide +kernel
theorem dX1_othersAsSharpAs_39 : decode cX1_othersAsSharpAs 39 = .ok (.ishl, 1) := by decide +kernel
theorem dX1_othersAsSharpAs_40 : decode cX1_othersAsSharpAs 40 = .ok (.ior, 1) := by decide +kernel
theorem dX1_othersAsSharpAs_41 : decode cX1_othersAsSharpAs 41 = .ok (.istore_n 3, 1) := by decide +kernel
theorem dX1_othersAsSharpAs_42 : decode cX1_othersAsSharpAs 42 = .ok (.iinc 4 1, 3) := by decide +kernel
theorem dX1_othersAsSharpAs_45 : decode cX1_othersAsSharpAs 45 = .ok (.goto (-40), 3) := by decide +kernel
theorem dX1_othersAsSharpAs_48 : decode cX1_othersAsSharpAs 48 = .ok (.iload_n 3, 1) := by decide +kernel
theorem dX1_othersAsSharpAs_49 : decode cX1_othersAsSharpAs 49 = .ok (.ireturn, 1) := by decide +kernel
theorem dX1_thoseSeen_0 : decode cX1_thoseSeen 0 = .ok (.iconst 0, 1) := by decide +kernel
theorem dX1_thoseSeen_1 : decode cX1_thoseSeen 1 = .ok (.istore_n 1, 1) := by decide +kernel
theorem dX1_thoseSeen_2 : decode cX1_thoseSeen 2 = .ok (.iconst 0, 1) := by decide +kernel
theorem dX1_thoseSeen_3 : decode cX1_thoseSeen 3 = .ok (.istore_n 2, 1) := by decide +kernel
theorem dX1_thoseSeen_4 : decode cX1_thoseSeen 4 = .ok (.iload_n 2, 1) := by decide +kernel
theorem dX1_thoseSeen_5 : decode cX1_thoseSeen 5 = .ok (.aload_n 0, 1) := by decide +kernel
theorem dX1_thoseSeen_6 : decode cX1_thoseSeen 6 = .ok (.getfield 15, 3) := by decide +kernel
theorem dX1_thoseSeen_9 : decode cX1_thoseSeen 9 = .ok (.if_icmp .ge 19, 3) := by decide +kernel
theorem dX1_thoseSeen_12 : decode cX1_thoseSeen 12 = .ok (.iload_n 1, 1) := by decide +kernel
theorem dX1_thoseSeen_13 : decode cX1_thoseSeen 13 = .ok (.aload_n 0, 1) := by decide +kernel
theorem dX1_thoseSeen_14 : decode cX1_thoseSeen 14 = .ok (.iload_n 2, 1) := by decide +kernel
theorem dX1_thoseSeen_15 : decode cX1_thoseSeen 15 = .ok (.bipush 30, 2) := by decide +kernel
theorem dX1_thoseSeen_17 : decode cX1_thoseSeen 17 = .ok (.invokevirtual 56, 3) := by decide +kernel
theorem dX1_thoseSeen_20 : decode cX1_thoseSeen 20 = .ok (.ior, 1) := by decide +kernel
theorem dX1_thoseSeen_21 : decode cX1_thoseSeen 21 = .ok (.istore_n 1, 1) := by decide +kernel
theorem dX1_thoseSeen_22 : decode cX1_thoseSeen 22 = .ok (.iinc 2 1, 3) := by decide +kernel
theorem dX1_thoseSeen_25 : decode cX1_thoseSeen 25 = .ok (.goto (-21), 3) := by decide +kernel
theorem dX1_thoseSeen_28 : decode cX1_thoseSeen 28 = .ok (.iload_n 1, 1) := by decide +kernel
theorem dX1_thoseSeen_29 : decode cX1_thoseSeen 29 = .ok (.ireturn, 1) := by decide +kernel
theorem dX1_noteWhoSeesWhom_0 : decode cX1_noteWhoSeesWhom 0 = .ok (.iconst 0, 1) := by decide +kernel
theorem dX1_noteWhoSeesWhom_1 : decode cX1_noteWhoSeesWhom 1 = .ok (.istore_n 1, 1) := by decide +kernel
theorem dX1_noteWhoSeesWhom_2 : decode cX1_noteWhoSeesWhom 2 = .ok (.iload_n 1, 1) := by decide +kernel
theorem dX1_noteWhoSeesWhom_3 : decode cX1_noteWhoSeesWhom 3 = .ok (.aload_n 0, 1) := by decide +kernel
theorem dX1_noteWhoSeesWhom_4 : decode cX1_noteWhoSeesWhom 4 = .ok (.getfield 15, 3) := by decide +kernel
theorem dX1_noteWhoSeesWhom_7 : decode cX1_noteWhoSeesWhom 7 = .ok (.if_icmp .ge 22, 3) := by decide +kernel
theorem dX1_noteWhoSeesWhom_10 : decode cX1_noteWhoSeesWhom 10 = .ok (.aload_n 0, 1) := by decide +kernel
theorem dX1_noteWhoSeesWhom_11 : decode cX1_noteWhoSeesWhom 11 = .ok (.getfield 24, 3) := by decide +kernel
theorem dX1_noteWhoSeesWhom_14 : decode cX1_noteWhoSeesWhom 14 = .ok (.iload_n 1, 1) := by decide +kernel
theorem dX1_noteWhoSeesWhom_15 : decode cX1_noteWhoSeesWhom 15 = .ok (.aload_n 0, 1) := by decide +kernel
theorem dX1_noteWhoSeesWhom_16 : decode cX1_noteWhoSeesWhom 16 = .ok (.iload_n 1, 1) := by decide +kernel
theorem dX1_noteWhoSeesWhom_17 : decode cX1_noteWhoSeesWhom 17 = .ok (.bipush 30, 2) := by decide +kernel
theorem dX1_noteWhoSeesWhom_19 : decode cX1_noteWhoSeesWhom 19 = .ok (.invokevirtual 56, 3) := by decide +kernel
theorem dX1_noteWhoSeesWhom_22 : decode cX1_noteWhoSeesWhom 22 = .ok (.iastore, 1) := by decide +kernel
theorem dX1_noteWhoSeesWhom_23 : decode cX1_noteWhoSeesWhom 23 = .ok (.iinc 1 1, 3) := by decide +kernel
theorem dX1_noteWhoSeesWhom_26 : decode cX1_noteWhoSeesWhom 26 = .ok (.goto (-24), 3) := by decide +kernel
theorem dX1_noteWhoSeesWhom_29 : decode cX1_noteWhoSeesWhom 29 = .ok (.return_, 1) := by decide +kernel
theorem dX1_seenWithUp_0 : decode cX1_seenWithUp 0 = .ok (.iconst 0, 1) := by decide +kernel
theorem dX1_seenWithUp_1 : decode cX1_seenWithUp 1 = .ok (.istore_n 2, 1) := by decide +kernel
theorem dX1_seenWithUp_2 : decode cX1_seenWithUp 2 = .ok (.iconst 0, 1) := by decide +kernel
theorem dX1_seenWithUp_3 : decode cX1_seenWithUp 3 = .ok (.istore_n 3, 1) := by decide +kernel
theorem dX1_seenWithUp_4 : decode cX1_seenWithUp 4 = .ok (.iload_n 3, 1) := by decide +kernel
theorem dX1_seenWithUp_5 : decode cX1_seenWithUp 5 = .ok (.aload_n 0, 1) := by decide +kernel
theorem dX1_seenWithUp_6 : decode cX1_seenWithUp 6 = .ok (.getfield 15, 3) := by decide +kernel
theorem dX1_seenWithUp_9 : decode cX1_seenWithUp 9 = .ok (.if_icmp .ge 51, 3) := by decide +kernel
theorem dX1_seenWithUp_12 : decode cX1_seenWithUp 12 = .ok (.iload_n 1, 1) := by decide +kernel
theorem dX1_seenWithUp_13 : decode cX1_seenWithUp 13 = .ok (.iconst 1, 1) := by decide +kernel
theorem dX1_seenWithUp_14 : decode cX1_seenWithUp 14 = .ok (.iload_n 3, 1) := by decide +kernel
theorem dX1_seenWithUp_15 : decode cX1_seenWithUp 15 = .ok (.ishl, 1) := by decide +kernel
theorem dX1_seenWithUp_16 : decode cX1_seenWithUp 16 = .ok (.iand, 1) := by decide +kernel
theorem dX1_seenWithUp_17 : decode cX1_seenWithUp 17 = .ok (.ifCond .eq 7, 3) := by decide +kernel
theorem dX1_seenWithUp_20 : decode cX1_seenWithUp 20 = .ok (.iconst 1, 1) := by decide +kernel
theorem dX1_seenWithUp_21 : decode cX1_seenWithUp 21 = .ok (.goto 4, 3) := by decide +kernel
theorem dX1_seenWithUp_24 : decode cX1_seenWithUp 24 = .ok (.iconst 0, 1) := by decide +kernel
theorem dX1_seenWithUp_25 : decode cX1_seenWithUp 25 = .ok (.istore 4, 2) := by decide +kernel
theorem dX1_seenWithUp_27 : decode cX1_seenWithUp 27 = .ok (.iload_n 2, 1) := by decide +kernel
theorem dX1_seenWithUp_28 : decode cX1_seenWithUp 28 = .ok (.iload 4, 2) := by decide +kernel
theorem dX1_seenWithUp_30 : decode cX1_seenWithUp 30 = .ok (.ifCond .eq 16, 3) := by decide +kernel
theorem dX1_seenWithUp_33 : decode cX1_seenWithUp 33 = .ok (.aload_n 0, 1) := by decide +kernel
theorem dX1_seenWithUp_34 : decode cX1_seenWithUp 34 = .ok (.invokevirtual 60, 3) := by decide +kernel
theorem dX1_seenWithUp_37 : decode cX1_seenWithUp 37 = .ok (.iconst 1, 1) := by decide +kernel
theorem dX1_seenWithUp_38 : decode cX1_seenWithUp 38 = .ok (.iload_n 3, 1) := by decide +kernel
theorem dX1_seenWithUp_39 : decode cX1_seenWithUp 39 = .ok (.ishl, 1) := by decide +kernel
theorem dX1_seenWithUp_40 : decode cX1_seenWithUp 40 = .ok (.iconst (-1), 1) := by decide +kernel
theorem dX1_seenWithUp_41 : decode cX1_seenWithUp 41 = .ok (.ixor, 1) := by decide +kernel
theorem dX1_seenWithUp_42 : decode cX1_seenWithUp 42 = .ok (.iand, 1) := by decide +kernel
theorem dX1_seenWithUp_43 : decode cX1_seenWithUp 43 = .ok (.goto 9, 3) := by decide +kernel
theorem dX1_seenWithUp_46 : decode cX1_seenWithUp 46 = .ok (.aload_n 0, 1) := by decide +kernel
theorem dX1_seenWithUp_47 : decode cX1_seenWithUp 47 = .ok (.getfield 24, 3) := by decide +kernel
theorem dX1_seenWithUp_50 : decode cX1_seenWithUp 50 = .ok (.iload_n 3, 1) := by decide +kernel
theorem dX1_seenWithUp_51 : decode cX1_seenWithUp 51 = .ok (.iaload, 1) := by decide +kernel
theorem dX1_seenWithUp_52 : decode cX1_seenWithUp 52 = .ok (.ior, 1) := by decide +kernel
theorem dX1_seenWithUp_53 : decode cX1_seenWithUp 53 = .ok (.istore_n 2, 1) := by decide +kernel
theorem dX1_seenWithUp_54 : decode cX1_seenWithUp 54 = .ok (.iinc 3 1, 3) := by decide +kernel
theorem dX1_seenWithUp_57 : decode cX1_seenWithUp 57 = .ok (.goto (-53), 3) := by decide +kernel
theorem dX1_seenWithUp_60 : decode cX1_seenWithUp 60 = .ok (.iload_n 2, 1) := by decide +kernel
theorem dX1_seenWithUp_61 : decode cX1_seenWithUp 61 = .ok (.ireturn, 1) := by decide +kernel
theorem dX1_sharpestOfAll_0 : decode cX1_sharpestOfAll 0 = .ok (.iconst 0, 1) := by decide +kernel
theorem dX1_sharpestOfAll_1 : decode cX1_sharpestOfAll 1 = .ok (.istore_n 1, 1) := by decide +kernel
theorem dX1_sharpestOfAll_2 : decode cX1_sharpestOfAll 2 = .ok (.iconst (-1), 1) := by decide +kernel
theorem dX1_sharpestOfAll_3 : decode cX1_sharpestOfAll 3 = .ok (.istore_n 2, 1) := by decide +kernel
theorem dX1_sharpestOfAll_4 : decode cX1_sharpestOfAll 4 = .ok (.iconst 0, 1) := by decide +kernel
theorem dX1_sharpestOfAll_5 : decode cX1_sharpestOfAll 5 = .ok (.istore_n 3, 1) := by decide +kernel
theorem dX1_sharpestOfAll_6 : decode cX1_sharpestOfAll 6 = .ok (.iload_n 3, 1) := by decide +kernel
theorem dX1_sharpestOfAll_7 : decode cX1_sharpestOfAll 7 = .ok (.aload_n 0, 1) := by decide +kernel
theorem dX1_sharpestOfAll_8 : decode cX1_sharpestOfAll 8 = .ok (.getfield 15, 3) := by decide +kernel
theorem dX1_sharpestOfAll_11 : decode cX1_sharpestOfAll 11 = .ok (.if_icmp .ge 27, 3) := by decide +kernel
theorem dX1_sharpestOfAll_14 : decode cX1_sharpestOfAll 14 = .ok (.aload_n 0, 1) := by decide +kernel
theorem dX1_sharpestOfAll_15 : decode cX1_sharpestOfAll 15 = .ok (.iload_n 3, 1) := by decide +kernel
theorem dX1_sharpestOfAll_16 : decode cX1_sharpestOfAll 16 = .ok (.invokevirtual 64, 3) := by decide +kernel
theorem dX1_sharpestOfAll_19 : decode cX1_sharpestOfAll 19 = .ok (.istore 4, 2) := by decide +kernel
theorem dX1_sharpestOfAll_21 : decode cX1_sharpestOfAll 21 = .ok (.iload 4, 2) := by decide +kernel
theorem dX1_sharpestOfAll_23 : decode cX1_sharpestOfAll 23 = .ok (.iload_n 2, 1) := by decide +kernel
theorem dX1_sharpestOfAll_24 : decode cX1_sharpestOfAll 24 = .ok (.if_icmp .le 8, 3) := by decide +kernel
theorem dX1_sharpestOfAll_27 : decode cX1_sharpestOfAll 27 = .ok (.iload 4, 2) := by decide +kernel
theorem dX1_sharpestOfAll_29 : decode cX1_sharpestOfAll 29 = .ok (.istore_n 2, 1) := by decide +kernel
theorem dX1_sharpestOfAll_30 : decode cX1_sharpestOfAll 30 = .ok (.iload_n 3, 1) := by decide +kernel
theorem dX1_sharpestOfAll_31 : decode cX1_sharpestOfAll 31 = .ok (.istore_n 1, 1) := by decide +kernel
theorem dX1_sharpestOfAll_32 : decode cX1_sharpestOfAll 32 = .ok (.iinc 3 1, 3) := by decide +kernel
theorem dX1_sharpestOfAll_35 : decode cX1_sharpestOfAll 35 = .ok (.goto (-29), 3) := by decide +kernel
theorem dX1_sharpestOfAll_38 : decode cX1_sharpestOfAll 38 = .ok (.iload_n 1, 1) := by decide +kernel
theorem dX1_sharpestOfAll_39 : decode cX1_sharpestOfAll 39 = .ok (.ireturn, 1) := by decide +kernel
theorem dX1_sharpnessAtOthers_0 : decode cX1_sharpnessAtOthers 0 = .ok (.iconst 0, 1) := by decide +kernel
theorem dX1_sharpnessAtOthers_1 : decode cX1_sharpnessAtOthers 1 = .ok (.istore_n 2, 1) := by decide +kernel
theorem dX1_sharpnessAtOthers_2 : decode cX1_sharpnessAtOthers 2 = .ok (.iconst 0, 1) := by decide +kernel
theorem dX1_sharpnessAtOthers_3 : decode cX1_sharpnessAtOthers 3 = .ok (.istore_n 3, 1) := by decide +kernel
theorem dX1_sharpnessAtOthers_4 : decode cX1_sharpnessAtOthers 4 = .ok (.iload_n 3, 1) := by decide +kernel
theorem dX1_sharpnessAtOthers_5 : decode cX1_sharpnessAtOthers 5 = .ok (.aload_n 0, 1) := by decide +kernel
theorem dX1_sharpnessAtOthers_6 : decode cX1_sharpnessAtOthers 6 = .ok (.getfield 15, 3) := by decide +kernel
theorem dX1_sharpnessAtOthers_9 : decode cX1_sharpnessAtOthers 9 = .ok (.if_icmp .ge 31, 3) := by decide +kernel
theorem dX1_sharpnessAtOthers_12 : decode cX1_sharpnessAtOthers 12 = .ok (.iload_n 2, 1) := by decide +kernel
theorem dX1_sharpnessAtOthers_13 : decode cX1_sharpnessAtOthers 13 = .ok (.iload_n 3, 1) := by decide +kernel
theorem dX1_sharpnessAtOthers_14 : decode cX1_sharpnessAtOthers 14 = .ok (.iload_n 1, 1) := by decide +kernel
theorem dX1_sharpnessAtOthers_15 : decode cX1_sharpnessAtOthers 15 = .ok (.if_icmp .ne 7, 3) := by decide +kernel
theorem dX1_sharpnessAtOthers_18 : decode cX1_sharpnessAtOthers 18 = .ok (.iconst 0, 1) := by decide +kernel
theorem dX1_sharpnessAtOthers_19 : decode cX1_sharpnessAtOthers 19 = .ok (.goto 13, 3) := by decide +kernel
theorem dX1_sharpnessAtOthers_22 : decode cX1_sharpnessAtOthers 22 = .ok (.aload_n 0, 1) := by decide +kernel
theorem dX1_sharpnessAtOthers_23 : decode cX1_sharpnessAtOthers 23 = .ok (.getfield 20, 3) := by decide +kernel
theorem dX1_sharpnessAtOthers_26 : decode cX1_sharpnessAtOthers 26 = .ok (.iload_n 1, 1) := by decide +kernel
theorem dX1_sharpnessAtOthers_27 : decode cX1_sharpnessAtOthers 27 = .ok (.aaload, 1) := by decide +kernel
theorem dX1_sharpnessAtOthers_28 : decode cX1_sharpnessAtOthers 28 = .ok (.iload_n 3, 1) := by decide +kernel
theorem dX1_sharpnessAtOthers_29 : decode cX1_sharpnessAtOthers 29 = .ok (.invokevirtual 52, 3) := by decide +kernel
theorem dX1_sharpnessAtOthers_32 : decode cX1_sharpnessAtOthers 32 = .ok (.iadd, 1) := by decide +kernel
theorem dX1_sharpnessAtOthers_33 : decode cX1_sharpnessAtOthers 33 = .ok (.istore_n 2, 1) := by decide +kernel
theorem dX1_sharpnessAtOthers_34 : decode cX1_sharpnessAtOthers 34 = .ok (.iinc 3 1, 3) := by decide +kernel
theorem dX1_sharpnessAtOthers_37 : decode cX1_sharpnessAtOthers 37 = .ok (.goto (-33), 3) := by decide +kernel
theorem dX1_sharpnessAtOthers_40 : decode cX1_sharpnessAtOthers 40 = .ok (.iload_n 2, 1) := by decide +kernel
theorem dX1_sharpnessAtOthers_41 : decode cX1_sharpnessAtOthers 41 = .ok (.ireturn, 1) := by decide +kernel
theorem dX2_init_0 : decode cX2_init 0 = .ok (.aload_n 0, 1) := by decide +kernel
theorem dX2_init_1 : decode cX2_init 1 = .ok (.invokespecial 3, 3) := by decide +kernel
theorem dX2_init_4 : decode cX2_init 4 = .ok (.aload_n 0, 1) := by decide +kernel
theorem dX2_init_5 : decode cX2_init 5 = .ok (.iconst 0, 1) := by decide +kernel
theorem dX2_init_6 : decode cX2_init 6 = .ok (.putfield 9, 3) := by decide +kernel
theorem dX2_init_9 : decode cX2_init 9 = .ok (.aload_n 0, 1) := by decide +kernel
theorem dX2_init_10 : decode cX2_init 10 = .ok (.iconst 0, 1) := by decide +kernel
theorem dX2_init_11 : decode cX2_init 11 = .ok (.putfield 15, 3) := by decide +kernel
theorem dX2_init_14 : decode cX2_init 14 = .ok (.aload_n 0, 1) := by decide +kernel
theorem dX2_init_15 : decode cX2_init 15 = .ok (.bipush 40, 2) := by decide +kernel
theorem dX2_init_17 : decode cX2_init 17 = .ok (.newarray .long, 2) := by decide +kernel
theorem dX2_init_19 : decode cX2_init 19 = .ok (.putfield 18, 3) := by decide +kernel
theorem dX2_init_22 : decode cX2_init 22 = .ok (.return_, 1) := by decide +kernel
theorem dX2_begin_0 : decode cX2_begin 0 = .ok (.aload_n 0, 1) := by decide +kernel
theorem dX2_begin_1 : decode cX2_begin 1 = .ok (.iload_n 1, 1) := by decide +kernel
theorem dX2_begin_2 : decode cX2_begin 2 = .ok (.putfield 9, 3) := by decide +kernel
theorem dX2_begin_5 : decode cX2_begin 5 = .ok (.aload_n 0, 1) := by decide +kernel
theorem dX2_begin_6 : decode cX2_begin 6 = .ok (.iload_n 1, 1) := by decide +kernel
theorem dX2_begin_7 : decode cX2_begin 7 = .ok (.ifCond .ne 7, 3) := by decide +kernel
theorem dX2_begin_10 : decode cX2_begin 10 = .ok (.iconst 0, 1) := by decide +kernel
theorem dX2_begin_11 : decode cX2_begin 11 = .ok (.goto 4, 3) := by decide +kernel
theorem dX2_begin_14 : decode cX2_begin 14 = .ok (.iload_n 2, 1) := by decide +kernel
theorem dX2_begin_15 : decode cX2_begin 15 = .ok (.putfield 15, 3) := by decide +kernel
theorem dX2_begin_18 : decode cX2_begin 18 = .ok (.iconst 0, 1) := by decide +kernel
theorem dX2_begin_19 : decode cX2_begin 19 = .ok (.istore_n 3, 1) := by decide +kernel
theorem dX2_begin_20 : decode cX2_begin 20 = .ok (.iload_n 3, 1) := by decide +kernel
theorem dX2_begin_21 : decode cX2_begin 21 = .ok (.bipush 40, 2) := by decide +kernel
theorem dX2_begin_23 : decode cX2_begin 23 = .ok (.if_icmp .ge 16, 3) := by decide +kernel
theorem dX2_begin_26 : decode cX2_begin 26 = .ok (.aload_n 0, 1) := by decide +kernel
theorem dX2_begin_27 : decode cX2_begin 27 = .ok (.getfield 18, 3) := by decide +kernel
theorem dX2_begin_30 : decode cX2_begin 30 = .ok (.iload_n 3, 1) := by decide +kernel
theorem dX2_begin_31 : decode cX2_begin 31 = .ok (.lconst 0, 1) := by decide +kernel
theorem dX2_begin_32 : decode cX2_begin 32 = .ok (.lastore, 1) := by decide +kernel
theorem dX2_begin_33 : decode cX2_begin 33 = .ok (.iinc 3 1, 3) := by decide +kernel
theorem dX2_begin_36 : decode cX2_begin 36 = .ok (.goto (-16), 3) := by decide +kernel
theorem dX2_begin_39 : decode cX2_begin 39 = .ok (.return_, 1) := by decide +kernel
theorem dX2_isMissing_0 : decode cX2_isMissing 0 = .ok (.aload_n 0, 1) := by decide +kernel
theorem dX2_isMissing_1 : decode cX2_isMissing 1 = .ok (.getfield 9, 3) := by decide +kernel
theorem dX2_isMissing_4 : decode cX2_isMissing 4 = .ok (.ifCond .ne 7, 3) := by decide +kernel
theorem dX2_isMissing_7 : decode cX2_isMissing 7 = .ok (.iconst 1, 1) := by decide +kernel
theorem dX2_isMissing_8 : decode cX2_isMissing 8 = .ok (.goto 4, 3) := by decide +kernel
theorem dX2_isMissing_11 : decode cX2_isMissing 11 = .ok (.iconst 0, 1) := by decide +kernel
theorem dX2_isMissing_12 : decode cX2_isMissing 12 = .ok (.ireturn, 1) := by decide +kernel
theorem dX2_has_0 : decode cX2_has 0 = .ok (.iload_n 1, 1) := by decide +kernel
theorem dX2_has_1 : decode cX2_has 1 = .ok (.ifCond .lt 29, 3) := by decide +kernel
theorem dX2_has_4 : decode cX2_has 4 = .ok (.iload_n 2, 1) := by decide +kernel
theorem dX2_has_5 : decode cX2_has 5 = .ok (.ifCond .lt 25, 3) := by decide +kernel
theorem dX2_has_8 : decode cX2_has 8 = .ok (.iload_n 2, 1) := by decide +kernel
theorem dX2_has_9 : decode cX2_has 9 = .ok (.aload_n 0, 1) := by decide +kernel
theorem dX2_has_10 : decode cX2_has 10 = .ok (.getfield 15, 3) := by decide +kernel
theorem dX2_has_13 : decode cX2_has 13 = .ok (.if_icmp .gt 17, 3) := by decide +kernel
theorem dX2_has_16 : decode cX2_has 16 = .ok (.iload_n 1, 1) := by decide +kernel
theorem dX2_has_17 : decode cX2_has 17 = .ok (.aload_n 0, 1) := by decide +kernel
theorem dX2_has_18 : decode cX2_has 18 = .ok (.getfield 15, 3) := by decide +kernel
theorem dX2_has_21 : decode cX2_has 21 = .ok (.iload_n 2, 1) := by decide +kernel
theorem dX2_has_22 : decode cX2_has 22 = .ok (.isub, 1) := by decide +kernel
theorem dX2_has_23 : decode cX2_has 23 = .ok (.if_icmp .gt 7, 3) := by decide +kernel
theorem dX2_has_26 : decode cX2_has 26 = .ok (.iconst 1, 1) := by decide +kernel
theorem dX2_has_27 : decode cX2_has 27 = .ok (.goto 4, 3) := by decide +kernel
theorem dX2_has_30 : decode cX2_has 30 = .ok (.iconst 0, 1) := by decide +kernel
theorem dX2_has_31 : decode cX2_has 31 = .ok (.ireturn, 1) := by decide +kernel
theorem dX2_put_0 : decode cX2_put 0 = .ok (.aload_n 0, 1) := by decide +kernel
theorem dX2_put_1 : decode cX2_put 1 = .ok (.getfield 9, 3) := by decide +kernel
theorem dX2_put_4 : decode cX2_put 4 = .ok (.bipush 8, 2) := by decide +kernel
theorem dX2_put_6 : decode cX2_put 6 = .ok (.if_icmp .ne 16, 3) := by decide +kernel
theorem dX2_put_9 : decode cX2_put 9 = .ok (.aload_n 0, 1) := by decide +kernel
theorem dX2_put_10 : decode cX2_put 10 = .ok (.getfield 18, 3) := by decide +kernel
theorem dX2_put_13 : decode cX2_put 13 = .ok (.iload_n 1, 1) := by decide +kernel
theorem dX2_put_14 : decode cX2_put 14 = .ok (.lload_n 2, 1) := by decide +kernel
theorem dX2_put_15 : decode cX2_put 15 = .ok (.l2i, 1) := by decide +kernel
theorem dX2_put_16 : decode cX2_put 16 = .ok (.i2b, 1) := by decide +kernel
theorem dX2_put_17 : decode cX2_put 17 = .ok (.i2l, 1) := by decide +kernel
theorem dX2_put_18 : decode cX2_put 18 = .ok (.lastore, 1) := by decide +kernel
theorem dX2_put_19 : decode cX2_put 19 = .ok (.goto 32, 3) := by decide +kernel
theorem dX2_put_22 : decode cX2_put 22 = .ok (.aload_n 0, 1) := by decide +kernel
theorem dX2_put_23 : decode cX2_put 23 = .ok (.getfield 9, 3) := by decide +kernel
theorem dX2_put_26 : decode cX2_put 26 = .ok (.bipush 16, 2) := by decide +kernel
theorem dX2_put_28 : decode cX2_put 28 = .ok (.if_icmp .ne 16, 3) := by decide +kernel
theorem dX2_put_31 : decode cX2_put 31 = .ok (.aload_n 0, 1) := by decide +kernel
theorem dX2_put_32 : decode cX2_put 32 = .ok (.getfield 18, 3) := by decide +kernel
theorem dX2_put_35 : decode cX2_put 35 = .ok (.iload_n 1, 1) := by decide +kernel
theorem dX2_put_36 : decode cX2_put 36 = .ok (.lload_n 2, 1) := by decide +kernel
theorem dX2_put_37 : decode cX2_put 37 = .ok (.l2i, 1) := by decide +kernel
theorem dX2_put_38 : decode cX2_put 38 = .ok (.i2s, 1) := by decide +kernel
theorem dX2_put_39 : decode cX2_put 39 = .ok (.i2l, 1) := by decide +kernel
theorem dX2_put_40 : decode cX2_put 40 = .ok (.lastore, 1) := by decide +kernel
theorem dX2_put_41 : decode cX2_put 41 = .ok (.goto 10, 3) := by decide +kernel
theorem dX2_put_44 : decode cX2_put 44 = .ok (.aload_n 0, 1) := by decide +kernel
theorem dX2_put_45 : decode cX2_put 45 = .ok (.getfield 18, 3) := by decide +kernel
theorem dX2_put_48 : decode cX2_put 48 = .ok (.iload_n 1, 1) := by decide +kernel
theorem dX2_put_49 : decode cX2_put 49 = .ok (.lload_n 2, 1) := by decide +kernel
theorem dX2_put_50 : decode cX2_put 50 = .ok (.lastore, 1) := by decide +kernel
theorem dX2_put_51 : decode cX2_put 51 = .ok (.return_, 1) := by decide +kernel
theorem dX3_init_0 : decode cX3_init 0 = .ok (.aload_n 0, 1) := by decide +kernel
theorem dX3_init_1 : decode cX3_init 1 = .ok (.invokespecial 3, 3) := by decide +kernel
theorem dX3_init_4 : decode cX3_init 4 = .ok (.aload_n 0, 1) := by decide +kernel
theorem dX3_init_5 : decode cX3_init 5 = .ok (.bipush 120, 2) := by decide +kernel
theorem dX3_init_7 : decode cX3_init 7 = .ok (.newarray .int, 2) := by decide +kernel
theorem dX3_init_9 : decode cX3_init 9 = .ok (.putfield 9, 3) := by decide +kernel
theorem dX3_init_12 : decode cX3_init 12 = .ok (.aload_n 0, 1) := by decide +kernel
theorem dX3_init_13 : decode cX3_init 13 = .ok (.iconst 0, 1) := by decide +kernel
theorem dX3_init_14 : decode cX3_init 14 = .ok (.putfield 15, 3) := by decide +kernel
theorem dX3_init_17 : decode cX3_init 17 = .ok (.aload_n 0, 1) := by decide +kernel
theorem dX3_init_18 : decode cX3_init 18 = .ok (.iconst 0, 1) := by decide +kernel
theorem dX3_init_19 : decode cX3_init 19 = .ok (.putfield 19, 3) := by decide +kernel
theorem dX3_init_22 : decode cX3_init 22 = .ok (.aload_n 0, 1) := by decide +kernel
theorem dX3_init_23 : decode cX3_init 23 = .ok (.iconst 0, 1) := by decide +kernel
theorem dX3_init_24 : decode cX3_init 24 = .ok (.putfield 22, 3) := by decide +kernel
theorem dX3_init_27 : decode cX3_init 27 = .ok (.aload_n 0, 1) := by decide +kernel
theorem dX3_init_28 : decode cX3_init 28 = .ok (.iconst 0, 1) := by decide +kernel
theorem dX3_init_29 : decode cX3_init 29 = .ok (.putfield 25, 3) := by decide +kernel
theorem dX3_init_32 : decode cX3_init 32 = .ok (.return_, 1) := by decide +kernel
theorem dX3_add_0 : decode cX3_add 0 = .ok (.aload_n 0, 1) := by decide +kernel
theorem dX3_add_1 : decode cX3_add 1 = .ok (.getfield 9, 3) := by decide +kernel
theorem dX3_add_4 : decode cX3_add 4 = .ok (.aload_n 0, 1) := by decide +kernel
theorem dX3_add_5 : decode cX3_add 5 = .ok (.getfield 15, 3) := by decide +kernel
theorem dX3_add_8 : decode cX3_add 8 = .ok (.iload_n 1, 1) := by decide +kernel
theorem dX3_add_9 : decode cX3_add 9 = .ok (.iastore, 1) := by decide +kernel
theorem dX3_add_10 : decode cX3_add 10 = .ok (.aload_n 0, 1) := by decide +kernel
theorem dX3_add_11 : decode cX3_add 11 = .ok (.dup, 1) := by decide +kernel
theorem dX3_add_12 : decode cX3_add 12 = .ok (.getfield 15, 3) := by decide +kernel
theorem dX3_add_15 : decode cX3_add 15 = .ok (.iconst 1, 1) := by decide +kernel
theorem dX3_add_16 : decode cX3_add 16 = .ok (.iadd, 1) := by decide +kernel
theorem dX3_add_17 : decode cX3_add 17 = .ok (.putfield 15, 3) := by decide +kernel
theorem dX3_add_20 : decode cX3_add 20 = .ok (.return_, 1) := by decide +kernel
theorem dX3_rewind_0 : decode cX3_rewind 0 = .ok (.aload_n 0, 1) := by decide +kernel
theorem dX3_rewind_1 : decode cX3_rewind 1 = .ok (.iconst 0, 1) := by decide +kernel
theorem dX3_rewind_2 : decode cX3_rewind 2 = .ok (.putfield 25, 3) := by decide +kernel
theorem dX3_rewind_5 : decode cX3_rewind 5 = .ok (.aload_n 0, 1) := by decide +kernel
theorem dX3_rewind_6 : decode cX3_rewind 6 = .ok (.invokevirtual 28, 3) := by decide +kernel
theorem dX3_rewind_9 : decode cX3_rewind 9 = .ok (.return_, 1) := by decide +kernel
theorem dX3_step_0 : decode cX3_step 0 = .ok (.aload_n 0, 1) := by decide +kernel
theorem dX3_step_1 : decode cX3_step 1 = .ok (.aload_n 0, 1) := by decide +kernel
theorem dX3_step_2 : decode cX3_step 2 = .ok (.getfield 25, 3) := by decide +kernel
theorem dX3_step_5 : decode cX3_step 5 = .ok (.putfield 22, 3) := by decide +kernel
theorem dX3_step_8 : decode cX3_step 8 = .ok (.aload_n 0, 1) := by decide +kernel
theorem dX3_step_9 : decode cX3_step 9 = .ok (.getfield 22, 3) := by decide +kernel
theorem dX3_step_12 : decode cX3_step 12 = .ok (.aload_n 0, 1) := by decide +kernel
theorem dX3_step_13 : decode cX3_step 13 = .ok (.getfield 15, 3) := by decide +kernel
theorem dX3_step_16 : decode cX3_step 16 = .ok (.if_icmp .ge 30, 3) := by decide +kernel
theorem dX3_step_19 : decode cX3_step 19 = .ok (.aload_n 0, 1) := by decide +kernel
theorem dX3_step_20 : decode cX3_step 20 = .ok (.getfield 9, 3) := by decide +kernel
theorem dX3_step_23 : decode cX3_step 23 = .ok (.aload_n 0, 1) := by decide +kernel
theorem dX3_step_24 : decode cX3_step 24 = .ok (.getfield 22, 3) := by decide +kernel
theorem dX3_step_27 : decode cX3_step 27 = .ok (.iaload, 1) := by decide +kernel
theorem dX3_step_28 : decode cX3_step 28 = .ok (.bipush 32, 2) := by decide +kernel
theorem dX3_step_30 : decode cX3_step 30 = .ok (.if_icmp .ne 16, 3) := by decide +kernel
theorem dX3_step_33 : decode cX3_step 33 = .ok (.aload_n 0, 1) := by decide +kernel
theorem dX3_step_34 : decode cX3_step 34 = .ok (.dup, 1) := by decide +kernel
theorem dX3_step_35 : decode cX3_step 35 = .ok (.getfield 22, 3) := by decide +kernel
theorem dX3_step_38 : decode cX3_step 38 = .ok (.iconst 1, 1) := by decide +kernel
theorem dX3_step_39 : decode cX3_step 39 = .ok (.iadd, 1) := by decide +kernel
theorem dX3_step_40 : decode cX3_step 40 = .ok (.putfield 22, 3) := by decide +kernel
theorem dX3_step_43 : decode cX3_step 43 = .ok (.goto (-35), 3) := by decide +kernel
theorem dX3_step_46 : decode cX3_step 46 = .ok (.aload_n 0, 1) := by decide +kernel
theorem dX3_step_47 : decode cX3_step 47 = .ok (.aload_n 0, 1) := by decide +kernel
theorem dX3_step_48 : decode cX3_step 48 = .ok (.getfield 22, 3) := by decide +kernel
theorem dX3_step_51 : decode cX3_step 51 = .ok (.putfield 25, 3) := by decide +kernel
theorem dX3_step_54 : decode cX3_step 54 = .ok (.aload_n 0, 1) := by decide +kernel
theorem dX3_step_55 : decode cX3_step 55 = .ok (.getfield 22, 3) := by decide +kernel
theorem dX3_step_58 : decode cX3_step 58 = .ok (.aload_n 0, 1) := by decide +kernel
theorem dX3_step_59 : decode cX3_step 59 = .ok (.getfield 15, 3) := by decide +kernel
theorem dX3_step_62 : decode cX3_step 62 = .ok (.if_icmp .lt 11, 3) := by decide +kernel
theorem dX3_step_65 : decode cX3_step 65 = .ok (.aload_n 0, 1) := by decide +kernel
theorem dX3_step_66 : decode cX3_step 66 = .ok (.iconst 0, 1) := by decide +kernel
theorem dX3_step_67 : decode cX3_step 67 = .ok (.putfield 19, 3) := by decide +kernel
theorem dX3_step_70 : decode cX3_step 70 = .ok (.goto 154, 3) := by decide +kernel
theorem dX3_step_73 : decode cX3_step 73 = .ok (.aload_n 0, 1) := by decide +kernel
theorem dX3_step_74 : decode cX3_step 74 = .ok (.getfield 9, 3) := by decide +kernel
theorem dX3_step_77 : decode cX3_step 77 = .ok (.aload_n 0, 1) := by decide +kernel
theorem dX3_step_78 : decode cX3_step 78 = .ok (.getfield 22, 3) := by decide +kernel
theorem dX3_step_81 : decode cX3_step 81 = .ok (.iaload, 1) := by decide +kernel
theorem dX3_step_82 : decode cX3_step 82 = .ok (.invokestatic 31, 3) := by decide +kernel
theorem dX3_step_85 : decode cX3_step 85 = .ok (.ifCond .eq 47, 3) := by decide +kernel
theorem dX3_step_88 : decode cX3_step 88 = .ok (.aload_n 0, 1) := by decide +kernel
theorem dX3_step_89 : decode cX3_step 89 = .ok (.iconst 1, 1) := by decide +kernel
theorem dX3_step_90 : decode cX3_step 90 = .ok (.putfield 19, 3) := by decide +kernel
theorem dX3_step_93 : decode cX3_step 93 = .ok (.aload_n 0, 1) := by decide +kernel
theorem dX3_step_94 : decode cX3_step 94 = .ok (.getfield 25, 3) := by decide +kernel
theorem dX3_step_97 : decode cX3_step 97 = .ok (.aload_n 0, 1) := by decide +kernel
theorem dX3_step_98 : decode cX3_step 98 = .ok (.getfield 15, 3) := by decide +kernel
theorem dX3_step_101 : decode cX3_step 101 = .ok (.if_icmp .ge 123, 3) := by decide +kernel
theorem dX3_step_104 : decode cX3_step 104 = .ok (.aload_n 0, 1) := by decide +kernel
theorem dX3_step_105 : decode cX3_step 105 = .ok (.getfield 9, 3) := by decide +kernel
theorem dX3_step_108 : decode cX3_step 108 = .ok (.aload_n 0, 1) := by decide +kernel
theorem dX3_step_109 : decode cX3_step 109 = .ok (.getfield 25, 3) := by decide +kernel
theorem dX3_step_112 : decode cX3_step 112 = .ok (.iaload, 1) := by decide +kernel
theorem dX3_step_113 : decode cX3_step 113 = .ok (.invokestatic 31, 3) := by decide +kernel
theorem dX3_step_116 : decode cX3_step 116 = .ok (.ifCond .eq 108, 3) := by decide +kernel
theorem dX3_step_119 : decode cX3_step 119 = .ok (.aload_n 0, 1) := by decide +kernel
theorem dX3_step_120 : decode cX3_step 120 = .ok (.dup, 1) := by decide +kernel
theorem dX3_step_121 : decode cX3_step 121 = .ok (.getfield 25, 3) := by decide +kernel
theorem dX3_step_124 : decode cX3_step 124 = .ok (.iconst 1, 1) := by decide +kernel
theorem dX3_step_125 : decode cX3_step 125 = .ok (.iadd, 1) := by decide +kernel
theorem dX3_step_126 : decode cX3_step 126 = .ok (.putfield 25, 3) := by decide +kernel
theorem dX3_step_129 : decode cX3_step 129 = .ok (.goto (-36), 3) := by decide +kernel
theorem dX3_step_132 : decode cX3_step 132 = .ok (.aload_n 0, 1) := by decide +kernel
theorem dX3_step_133 : decode cX3_step 133 = .ok (.getfield 9, 3) := by decide +kernel
theorem dX3_step_136 : decode cX3_step 136 = .ok (.aload_n 0, 1) := by decide +kernel
theorem dX3_step_137 : decode cX3_step 137 = .ok (.getfield 22, 3) := by decide +kernel
theorem dX3_step_140 : decode cX3_step 140 = .ok (.iaload, 1) := by decide +kernel
theorem dX3_step_141 : decode cX3_step 141 = .ok (.invokestatic 35, 3) := by decide +kernel
theorem dX3_step_144 : decode cX3_step 144 = .ok (.ifCond .eq 47, 3) := by decide +kernel
theorem dX3_step_147 : decode cX3_step 147 = .ok (.aload_n 0, 1) := by decide +kernel
theorem dX3_step_148 : decode cX3_step 148 = .ok (.iconst 2, 1) := by decide +kernel
theorem dX3_step_149 : decode cX3_step 149 = .ok (.putfield 19, 3) := by decide +kernel
theorem dX3_step_152 : decode cX3_step 152 = .ok (.aload_n 0, 1) := by decide +kernel
theorem dX3_step_153 : decode cX3_step 153 = .ok (.getfield 25, 3) := by decide +kernel
theorem dX3_step_156 : decode cX3_step 156 = .ok (.aload_n 0, 1) := by decide +kernel
theorem dX3_step_157 : decode cX3_step 157 = .ok (.getfield 15, 3) := by decide +kernel
theorem dX3_step_160 : decode cX3_step 160 = .ok (.if_icmp .ge 64, 3) := by decide +kernel
theorem dX3_step_163 : decode cX3_step 163 = .ok (.aload_n 0, 1) := by decide +kernel
theorem dX3_step_164 : decode cX3_step 164 = .ok (.getfield 9, 3) := by decide +kernel
theorem dX3_step_167 : decode cX3_step 167 = .ok (.aload_n 0, 1) := by decide +kernel
theorem dX3_step_168 : decode cX3_step 168 = .ok (.getfield 25, 3) := by decide +kernel
theorem dX3_step_171 : decode cX3_step 171 = .ok (.iaload, 1) := by decide +kernel
theorem dX3_step_172 : decode cX3_step 172 = .ok (.invokestatic 35, 3) := by decide +kernel
theorem dX3_step_175 : decode cX3_step 175 = .ok (.ifCond .eq 49, 3) := by decide +kernel
theorem dX3_step_178 : decode cX3_step 178 = .ok (.aload_n 0, 1) := by decide +kernel
theorem dX3_step_179 : decode cX3_step 179 = .ok (.dup, 1) := by decide +kernel
theorem dX3_step_180 : decode cX3_step 180 = .ok (.getfield 25, 3) := by decide +kernel
theorem dX3_step_183 : decode cX3_step 183 = .ok (.iconst 1, 1) := by decide +kernel
theorem dX3_step_184 : decode cX3_step 184 = .ok (.iadd, 1) := by decide +kernel
theorem dX3_step_185 : decode cX3_step 185 = .ok (.putfield 25, 3) := by decide +kernel
theorem dX3_step_188 : decode cX3_step 188 = .ok (.goto (-36), 3) := by decide +kernel
theorem dX3_step_191 : decode cX3_step 191 = .ok (.aload_n 0, 1) := by decide +kernel
theorem dX3_step_192 : decode cX3_step 192 = .ok (.aload_n 0, 1) := by decide +kernel
theorem dX3_step_193 : decode cX3_step 193 = .ok (.getfield 9, 3) := by decide +kernel
theorem dX3_step_196 : decode cX3_step 196 = .ok (.aload_n 0, 1) := by decide +kernel
theorem dX3_step_197 : decode cX3_step 197 = .ok (.getfield 22, 3) := by decide +kernel
theorem dX3_step_200 : decode cX3_step 200 = .ok (.iaload, 1) := by decide +kernel
theorem dX3_step_201 : decode cX3_step 201 = .ok (.bipush 59, 2) := by decide +kernel
theorem dX3_step_203 : decode cX3_step 203 = .ok (.if_icmp .ne 7, 3) := by decide +kernel
theorem dX3_step_206 : decode cX3_step 206 = .ok (.iconst 3, 1) := by decide +kernel
theorem dX3_step_207 : decode cX3_step 207 = .ok (.goto 4, 3) := by decide +kernel
theorem dX3_step_210 : decode cX3_step 210 = .ok (.iconst 4, 1) := by decide +kernel
theorem dX3_step_211 : decode cX3_step 211 = .ok (.putfield 19, 3) := by decide +kernel
theorem dX3_step_214 : decode cX3_step 214 = .ok (.aload_n 0, 1) := by decide +kernel
theorem dX3_step_215 : decode cX3_step 215 = .ok (.dup, 1) := by decide +kernel
theorem dX3_step_216 : decode cX3_step 216 = .ok (.getfield 25, 3) := by decide +kernel
theorem dX3_step_219 : decode cX3_step 219 = .ok (.iconst 1, 1) := by decide +kernel
theorem dX3_step_220 : decode cX3_step 220 = .ok (.iadd, 1) := by decide +kernel
theorem dX3_step_221 : decode cX3_step 221 = .ok (.putfield 25, 3) := by decide +kernel
theorem dX3_step_224 : decode cX3_step 224 = .ok (.return_, 1) := by decide +kernel
theorem dX3_isLetter_0 : decode cX3_isLetter 0 = .ok (.iload_n 0, 1) := by decide +kernel
theorem dX3_isLetter_1 : decode cX3_isLetter 1 = .ok (.bipush 97, 2) := by decide +kernel
theorem dX3_isLetter_3 : decode cX3_isLetter 3 = .ok (.if_icmp .lt 13, 3) := by decide +kernel
theorem dX3_isLetter_6 : decode cX3_isLetter 6 = .ok (.iload_n 0, 1) := by decide +kernel
theorem dX3_isLetter_7 : decode cX3_isLetter 7 = .ok (.bipush 122, 2) := by decide +kernel
theorem dX3_isLetter_9 : decode cX3_isLetter 9 = .ok (.if_icmp .gt 7, 3) := by decide +kernel
theorem dX3_isLetter_12 : decode cX3_isLetter 12 = .ok (.iconst 1, 1) := by decide +kernel
theorem dX3_isLetter_13 : decode cX3_isLetter 13 = .ok (.goto 4, 3) := by decide +kernel
theorem dX3_isLetter_16 : decode cX3_isLetter 16 = .ok (.iconst 0, 1) := by decide +kernel
theorem dX3_isLetter_17 : decode cX3_isLetter 17 = .ok (.ireturn, 1) := by decide +kernel
theorem dX3_isDigit_0 : decode cX3_isDigit 0 = .ok (.iload_n 0, 1) := by decide +kernel
theorem dX3_isDigit_1 : decode cX3_isDigit 1 = .ok (.bipush 48, 2) := by decide +kernel
theorem dX3_isDigit_3 : decode cX3_isDigit 3 = .ok (.if_icmp .lt 13, 3) := by decide +kernel
theorem dX3_isDigit_6 : decode cX3_isDigit 6 = .ok (.iload_n 0, 1) := by decide +kernel
theorem dX3_isDigit_7 : decode cX3_isDigit 7 = .ok (.bipush 57, 2) := by decide +kernel
theorem dX3_isDigit_9 : decode cX3_isDigit 9 = .ok (.if_icmp .gt 7, 3) := by decide +kernel
theorem dX3_isDigit_12 : decode cX3_isDigit 12 = .ok (.iconst 1, 1) := by decide +kernel
theorem dX3_isDigit_13 : decode cX3_isDigit 13 = .ok (.goto 4, 3) := by decide +kernel
theorem dX3_isDigit_16 : decode cX3_isDigit 16 = .ok (.iconst 0, 1) := by decide +kernel
theorem dX3_isDigit_17 : decode cX3_isDigit 17 = .ok (.ireturn, 1) := by decide +kernel
theorem dX3_isAtEnd_0 : decode cX3_isAtEnd 0 = .ok (.aload_n 0, 1) := by decide +kernel
theorem dX3_isAtEnd_1 : decode cX3_isAtEnd 1 = .ok (.getfield 19, 3) := by decide +kernel
theorem dX3_isAtEnd_4 : decode cX3_isAtEnd 4 = .ok (.ifCond .ne 7, 3) := by decide +kernel
theorem dX3_isAtEnd_7 : decode cX3_isAtEnd 7 = .ok (.iconst 1, 1) := by decide +kernel
theorem dX3_isAtEnd_8 : decode cX3_isAtEnd 8 = .ok (.goto 4, 3) := by decide +kernel
theorem dX3_isAtEnd_11 : decode cX3_isAtEnd 11 = .ok (.iconst 0, 1) := by decide +kernel
theorem dX3_isAtEnd_12 : decode cX3_isAtEnd 12 = .ok (.ireturn, 1) := by decide +kernel
theorem dX3_isAtSign_0 : decode cX3_isAtSign 0 = .ok (.aload_n 0, 1) := by decide +kernel
theorem dX3_isAtSign_1 : decode cX3_isAtSign 1 = .ok (.getfield 19, 3) := by decide +kernel
theorem dX3_isAtSign_4 : decode cX3_isAtSign 4 = .ok (.iconst 3, 1) := by decide +kernel
theorem dX3_isAtSign_5 : decode cX3_isAtSign 5 = .ok (.if_icmp .ne 7, 3) := by decide +kernel
theorem dX3_isAtSign_8 : decode cX3_isAtSign 8 = .ok (.iconst 1, 1) := by decide +kernel
theorem dX3_isAtSign_9 : decode cX3_isAtSign 9 = .ok (.goto 4, 3) := by decide +kernel
theorem dX3_isAtSign_12 : decode cX3_isAtSign 12 = .ok (.iconst 0, 1) := by decide +kernel
theorem dX3_isAtSign_13 : decode cX3_isAtSign 13 = .ok (.ireturn, 1) := by decide +kernel
theorem dX3_isAtWord_0 : decode cX3_isAtWord 0 = .ok (.aload_n 0, 1) := by decide +kernel
theorem dX3_isAtWord_1 : decode cX3_isAtWord 1 = .ok (.getfield 19, 3) := by decide +kernel
theorem dX3_isAtWord_4 : decode cX3_isAtWord 4 = .ok (.iconst 1, 1) := by decide +kernel
theorem dX3_isAtWord_5 : decode cX3_isAtWord 5 = .ok (.if_icmp .ne 19, 3) := by decide +kernel
theorem dX3_isAtWord_8 : decode cX3_isAtWord 8 = .ok (.aload_n 0, 1) := by decide +kernel
theorem dX3_isAtWord_9 : decode cX3_isAtWord 9 = .ok (.getfield 25, 3) := by decide +kernel
theorem dX3_isAtWord_12 : decode cX3_isAtWord 12 = .ok (.aload_n 0, 1) := by decide +kernel
theorem dX3_isAtWord_13 : decode cX3_isAtWord 13 = .ok (.getfield 22, 3) := by decide +kernel
theorem dX3_isAtWord_16 : decode cX3_isAtWord 16 = .ok (.isub, 1) := by decide +kernel
theorem dX3_isAtWord_17 : decode cX3_isAtWord 17 = .ok (.aload_n 1, 1) := by decide +kernel
theorem dX3_isAtWord_18 : decode cX3_isAtWord 18 = .ok (.invokevirtual 38, 3) := by decide +kernel
theorem dX3_isAtWord_21 : decode cX3_isAtWord 21 = .ok (.if_icmp .eq 5, 3) := by decide +kernel
theorem dX3_isAtWord_24 : decode cX3_isAtWord 24 = .ok (.iconst 0, 1) := by decide +kernel
theorem dX3_isAtWord_25 : decode cX3_isAtWord 25 = .ok (.ireturn, 1) := by decide +kernel
theorem dX3_isAtWord_26 : decode cX3_isAtWord 26 = .ok (.iconst 0, 1) := by decide +kernel
theorem dX3_isAtWord_27 : decode cX3_isAtWord 27 = .ok (.istore_n 2, 1) := by decide +kernel
theorem dX3_isAtWord_28 : decode cX3_isAtWord 28 = .ok (.iload_n 2, 1) := by decide +kernel
theorem dX3_isAtWord_29 : decode cX3_isAtWord 29 = .ok (.aload_n 1, 1) := by decide +kernel
theorem dX3_isAtWord_30 : decode cX3_isAtWord 30 = .ok (.invokevirtual 38, 3) := by decide +kernel
theorem dX3_isAtWord_33 : decode cX3_isAtWord 33 = .ok (.if_icmp .ge 30, 3) := by decide +kernel
theorem dX3_isAtWord_36 : decode cX3_isAtWord 36 = .ok (.aload_n 0, 1) := by decide +kernel
theorem dX3_isAtWord_37 : decode cX3_isAtWord 37 = .ok (.getfield 9, 3) := by decide +kernel
theorem dX3_isAtWord_40 : decode cX3_isAtWord 40 = .ok (.aload_n 0, 1) := by decide +kernel
theorem dX3_isAtWord_41 : decode cX3_isAtWord 41 = .ok (.getfield 22, 3) := by decide +kernel
theorem dX3_isAtWord_44 : decode cX3_isAtWord 44 = .ok (.iload_n 2, 1) := by decide +kernel
theorem dX3_isAtWord_45 : decode cX3_isAtWord 45 = .ok (.iadd, 1) := by decide +kernel
theorem dX3_isAtWord_46 : decode cX3_isAtWord 46 = .ok (.iaload, 1) := by decide +kernel
theorem dX3_isAtWord_47 : decode cX3_isAtWord 47 = .ok (.aload_n 1, 1) := by decide +kernel
theorem dX3_isAtWord_48 : decode cX3_isAtWord 48 = .ok (.iload_n 2, 1) := by decide +kernel
theorem dX3_isAtWord_49 : decode cX3_isAtWord 49 = .ok (.invokevirtual 43, 3) := by decide +kernel
theorem dX3_isAtWord_52 : decode cX3_isAtWord 52 = .ok (.if_icmp .eq 5, 3) := by decide +kernel
theorem dX3_isAtWord_55 : decode cX3_isAtWord 55 = .ok (.iconst 0, 1) := by decide +kernel
theorem dX3_isAtWord_56 : decode cX3_isAtWord 56 = .ok (.ireturn, 1) := by decide +kernel
theorem dX3_isAtWord_57 : decode cX3_isAtWord 57 = .ok (.iinc 2 1, 3) := by decide +kernel
theorem dX3_isAtWord_60 : decode cX3_isAtWord 60 = .ok (.goto (-32), 3) := by decide +kernel
theorem dX3_isAtWord_63 : decode cX3_isAtWord 63 = .ok (.iconst 1, 1) := by decide +kernel
theorem dX3_isAtWord_64 : decode cX3_isAtWord 64 = .ok (.ireturn, 1) := by decide +kernel
theorem dX3_isAtNumberBelow_0 : decode cX3_isAtNumberBelow 0 = .ok (.aload_n 0, 1) := by decide +kernel
theorem dX3_isAtNumberBelow_1 : decode cX3_isAtNumberBelow 1 = .ok (.getfield 19, 3) := by decide +kernel
theorem dX3_isAtNumberBelow_4 : decode cX3_isAtNumberBelow 4 = .ok (.iconst 2, 1) := by decide +kernel
theorem dX3_isAtNumberBelow_5 : decode cX3_isAtNumberBelow 5 = .ok (.if_icmp .ne 15, 3) := by decide +kernel
theorem dX3_isAtNumberBelow_8 : decode cX3_isAtNumberBelow 8 = .ok (.aload_n 0, 1) := by decide +kernel
theorem dX3_isAtNumberBelow_9 : decode cX3_isAtNumberBelow 9 = .ok (.invokevirtual 47, 3) := by decide +kernel
theorem dX3_isAtNumberBelow_12 : decode cX3_isAtNumberBelow 12 = .ok (.iload_n 1, 1) := by decide +kernel
theorem dX3_isAtNumberBelow_13 : decode cX3_isAtNumberBelow 13 = .ok (.if_icmp .ge 7, 3) := by decide +kernel
theorem dX3_isAtNumberBelow_16 : decode cX3_isAtNumberBelow 16 = .ok (.iconst 1, 1) := by decide +kernel
theorem dX3_isAtNumberBelow_17 : decode cX3_isAtNumberBelow 17 = .ok (.goto 4, 3) := by decide +kernel
theorem dX3_isAtNumberBelow_20 : decode cX3_isAtNumberBelow 20 = .ok (.iconst 0, 1) := by decide +kernel
theorem dX3_isAtNumberBelow_21 : decode cX3_isAtNumberBelow 21 = .ok (.ireturn, 1) := by decide +kernel
theorem dX3_number_0 : decode cX3_number 0 = .ok (.iconst 0, 1) := by decide +kernel
theorem dX3_number_1 : decode cX3_number 1 = .ok (.istore_n 1, 1) := by decide +kernel
theorem dX3_number_2 : decode cX3_number 2 = .ok (.aload_n 0, 1) := by decide +kernel
theorem dX3_number_3 : decode cX3_number 3 = .ok (.getfield 22, 3) := by decide +kernel
theorem dX3_number_6 : decode cX3_number 6 = .ok (.istore_n 2, 1) := by decide +kernel
theorem dX3_number_7 : decode cX3_number 7 = .ok (.iload_n 2, 1) := by decide +kernel
theorem dX3_number_8 : decode cX3_number 8 = .ok (.aload_n 0, 1) := by decide +kernel
theorem dX3_number_9 : decode cX3_number 9 = .ok (.getfield 25, 3) := by decide +kernel
theorem dX3_number_12 : decode cX3_number 12 = .ok (.if_icmp .ge 30, 3) := by decide +kernel
theorem dX3_number_15 : decode cX3_number 15 = .ok (.sipush 1000, 3) := by decide +kernel
theorem dX3_number_18 : decode cX3_number 18 = .ok (.iload_n 1, 1) := by decide +kernel
theorem dX3_number_19 : decode cX3_number 19 = .ok (.bipush 10, 2) := by decide +kernel
theorem dX3_number_21 : decode cX3_number 21 = .ok (.imul, 1) := by decide +kernel
theorem dX3_number_22 : decode cX3_number 22 = .ok (.aload_n 0, 1) := by decide +kernel
theorem dX3_number_23 : decode cX3_number 23 = .ok (.getfield 9, 3) := by decide +kernel
theorem dX3_number_26 : decode cX3_number 26 = .ok (.iload_n 2, 1) := by decide +kernel
theorem dX3_number_27 : decode cX3_number 27 = .ok (.iaload, 1) := by decide +kernel
theorem dX3_number_28 : decode cX3_number 28 = .ok (.iadd, 1) := by decide +kernel
theorem dX3_number_29 : decode cX3_number 29 = .ok (.bipush 48, 2) := by decide +kernel
theorem dX3_number_31 : decode cX3_number 31 = .ok (.isub, 1) := by decide +kernel
theorem dX3_number_32 : decode cX3_number 32 = .ok (.invokestatic 50, 3) := by decide +kernel
theorem dX3_number_35 : decode cX3_number 35 = .ok (.istore_n 1, 1) := by decide +kernel
theorem dX3_number_36 : decode cX3_number 36 = .ok (.iinc 2 1, 3) := by decide +kernel
theorem dX3_number_39 : decode cX3_number 39 = .ok (.goto (-32), 3) := by decide +kernel
theorem dX3_number_42 : decode cX3_number 42 = .ok (.iload_n 1, 1) := by decide +kernel
theorem dX3_number_43 : decode cX3_number 43 = .ok (.ireturn, 1) := by decide +kernel
theorem dX4_items_0 : decode cX4_items 0 = .ok (.aload_n 0, 1) := by decide +kernel
theorem dX4_items_1 : decode cX4_items 1 = .ok (.invokevirtual 9, 3) := by decide +kernel
theorem dX4_items_4 : decode cX4_items 4 = .ok (.iconst 1, 1) := by decide +kernel
theorem dX4_items_5 : decode cX4_items 5 = .ok (.istore_n 2, 1) := by decide +kernel
theorem dX4_items_6 : decode cX4_items 6 = .ok (.iload_n 2, 1) := by decide +kernel
theorem dX4_items_7 : decode cX4_items 7 = .ok (.bipush 120, 2) := by decide +kernel
theorem dX4_items_9 : decode cX4_items 9 = .ok (.if_icmp .gt 43, 3) := by decide +kernel
theorem dX4_items_12 : decode cX4_items 12 = .ok (.aload_n 0, 1) := by decide +kernel
theorem dX4_items_13 : decode cX4_items 13 = .ok (.aload_n 1, 1) := by decide +kernel
theorem dX4_items_14 : decode cX4_items 14 = .ok (.invokestatic 14, 3) := by decide +kernel
theorem dX4_items_17 : decode cX4_items 17 = .ok (.ifCond .ne 6, 3) := by decide +kernel
theorem dX4_items_20 : decode cX4_items 20 = .ok (.goto 32, 3) := by decide +kernel
theorem dX4_items_23 : decode cX4_items 23 = .ok (.aload_n 0, 1) := by decide +kernel
theorem dX4_items_24 : decode cX4_items 24 = .ok (.invokevirtual 20, 3) := by decide +kernel
theorem dX4_items_27 : decode cX4_items 27 = .ok (.ifCond .eq 5, 3) := by decide +kernel
theorem dX4_items_30 : decode cX4_items 30 = .ok (.iload_n 2, 1) := by decide +kernel
theorem dX4_items_31 : decode cX4_items 31 = .ok (.ireturn, 1) := by decide +kernel
theorem dX4_items_32 : decode cX4_items 32 = .ok (.aload_n 0, 1) := by decide +kernel
theorem dX4_items_33 : decode cX4_items 33 = .ok (.invokevirtual 24, 3) := by decide +kernel
theorem dX4_items_36 : decode cX4_items 36 = .ok (.ifCond .ne 6, 3) := by decide +kernel
theorem dX4_items_39 : decode cX4_items 39 = .ok (.goto 13, 3) := by decide +kernel
theorem dX4_items_42 : decode cX4_items 42 = .ok (.aload_n 0, 1) := by decide +kernel
theorem dX4_items_43 : decode cX4_items 43 = .ok (.invokevirtual 27, 3) := by decide +kernel
theorem dX4_items_46 : decode cX4_items 46 = .ok (.iinc 2 1, 3) := by decide +kernel
theorem dX4_items_49 : decode cX4_items 49 = .ok (.goto (-43), 3) := by decide +kernel
theorem dX4_items_52 : decode cX4_items 52 = .ok (.iconst (-1), 1) := by decide +kernel
theorem dX4_items_53 : decode cX4_items 53 = .ok (.aload_n 0, 1) := by decide +kernel
theorem dX4_items_54 : decode cX4_items 54 = .ok (.getfield 30, 3) := by decide +kernel
theorem dX4_items_57 : decode cX4_items 57 = .ok (.isub, 1) := by decide +kernel
theorem dX4_items_58 : decode cX4_items 58 = .ok (.ireturn, 1) := by decide +kernel
theorem dX4_takesItem_0 : decode cX4_takesItem 0 = .ok (.aload_n 0, 1) := by decide +kernel
theorem dX4_takesItem_1 : decode cX4_takesItem 1 = .ok (.ldc 34, 2) := by decide +kernel
theorem dX4_takesItem_3 : decode cX4_takesItem 3 = .ok (.invokevirtual 36, 3) := by decide +kernel
theorem dX4_takesItem_6 : decode cX4_takesItem 6 = .ok (.ifCond .eq 9, 3) := by decide +kernel
theorem dX4_takesItem_9 : decode cX4_takesItem 9 = .ok (.aload_n 0, 1) := by decide +kernel
theorem dX4_takesItem_10 : decode cX4_takesItem 10 = .ok (.aload_n 1, 1) := by decide +kernel
theorem dX4_takesItem_11 : decode cX4_takesItem 11 = .ok (.invokestatic 40, 3) := by decide +kernel
theorem dX4_takesItem_14 : decode cX4_takesItem 14 = .ok (.ireturn, 1) := by decide +kernel
theorem dX4_takesItem_15 : decode cX4_takesItem 15 = .ok (.aload_n 0, 1) := by decide +kernel
theorem dX4_takesItem_16 : decode cX4_takesItem 16 = .ok (.ldc 43, 2) := by decide +kernel
theorem dX4_takesItem_18 : decode cX4_takesItem 18 = .ok (.invokevirtual 36, 3) := by decide +kernel
theorem dX4_takesItem_21 : decode cX4_takesItem 21 = .ok (.ifCond .eq 10, 3) := by decide +kernel
theorem dX4_takesItem_24 : decode cX4_takesItem 24 = .ok (.aload_n 0, 1) := by decide +kernel
theorem dX4_takesItem_25 : decode cX4_takesItem 25 = .ok (.aload_n 1, 1) := by decide +kernel
theorem dX4_takesItem_26 : decode cX4_takesItem 26 = .ok (.iconst 1, 1) := by decide +kernel
theorem dX4_takesItem_27 : decode cX4_takesItem 27 = .ok (.invokestatic 45, 3) := by decide +kernel
theorem dX4_takesItem_30 : decode cX4_takesItem 30 = .ok (.ireturn, 1) := by decide +kernel
theorem dX4_takesItem_31 : decode cX4_takesItem 31 = .ok (.aload_n 0, 1) := by decide +kernel
theorem dX4_takesItem_32 : decode cX4_takesItem 32 = .ok (.ldc 49, 2) := by decide +kernel
theorem dX4_takesItem_34 : decode cX4_takesItem 34 = .ok (.invokevirtual 36, 3) := by decide +kernel
theorem dX4_takesItem_37 : decode cX4_takesItem 37 = .ok (.ifCond .eq 10, 3) := by decide +kernel
theorem dX4_takesItem_40 : decode cX4_takesItem 40 = .ok (.aload_n 0, 1) := by decide +kernel
theorem dX4_takesItem_41 : decode cX4_takesItem 41 = .ok (.aload_n 1, 1) := by decide +kernel
theorem dX4_takesItem_42 : decode cX4_takesItem 42 = .ok (.iconst 0, 1) := by decide +kernel
theorem dX4_takesItem_43 : decode cX4_takesItem 43 = .ok (.invokestatic 45, 3) := by decide +kernel
theorem dX4_takesItem_46 : decode cX4_takesItem 46 = .ok (.ireturn, 1) := by decide +kernel
theorem dX4_takesItem_47 : decode cX4_takesItem 47 = .ok (.aload_n 0, 1) := by decide +kernel
theorem dX4_takesItem_48 : decode cX4_takesItem 48 = .ok (.invokestatic 51, 3) := by decide +kernel
theorem dX4_takesItem_51 : decode cX4_takesItem 51 = .ok (.istore_n 2, 1) := by decide +kernel
theorem dX4_takesItem_52 : decode cX4_takesItem 52 = .ok (.iload_n 2, 1) := by decide +kernel
theorem dX4_takesItem_53 : decode cX4_takesItem 53 = .ok (.iconst (-1), 1) := by decide +kernel
theorem dX4_takesItem_54 : decode cX4_takesItem 54 = .ok (.if_icmp .eq 23, 3) := by decide +kernel
theorem dX4_takesItem_57 : decode cX4_takesItem 57 = .ok (.aload_n 1, 1) := by decide +kernel
theorem dX4_takesItem_58 : decode cX4_takesItem 58 = .ok (.invokevirtual 55, 3) := by decide +kernel
theorem dX4_takesItem_61 : decode cX4_takesItem 61 = .ok (.ifCond .ne 16, 3) := by decide +kernel
theorem dX4_takesItem_64 : decode cX4_takesItem 64 = .ok (.aload_n 0, 1) := by decide +kernel
theorem dX4_takesItem_65 : decode cX4_takesItem 65 = .ok (.aload_n 1, 1) := by decide +kernel
theorem dX4_takesItem_66 : decode cX4_takesItem 66 = .ok (.iload_n 2, 1) := by decide +kernel
theorem dX4_takesItem_67 : decode cX4_takesItem 67 = .ok (.invokestatic 60, 3) := by decide +kernel
theorem dX4_takesItem_70 : decode cX4_takesItem 70 = .ok (.ifCond .eq 7, 3) := by decide +kernel
theorem dX4_takesItem_73 : decode cX4_takesItem 73 = .ok (.iconst 1, 1) := by decide +kernel
theorem dX4_takesItem_74 : decode cX4_takesItem 74 = .ok (.goto 4, 3) := by decide +kernel
theorem dX4_takesItem_77 : decode cX4_takesItem 77 = .ok (.iconst 0, 1) := by decide +kernel
theorem dX4_takesItem_78 : decode cX4_takesItem 78 = .ok (.ireturn, 1) := by decide +kernel
theorem dX4_takesOne_0 : decode cX4_takesOne 0 = .ok (.aload_n 1, 1) := by decide +kernel
theorem dX4_takesOne_1 : decode cX4_takesOne 1 = .ok (.iload_n 2, 1) := by decide +kernel
theorem dX4_takesOne_2 : decode cX4_takesOne 2 = .ok (.invokevirtual 63, 3) := by decide +kernel
theorem dX4_takesOne_5 : decode cX4_takesOne 5 = .ok (.astore_n 3, 1) := by decide +kernel
theorem dX4_takesOne_6 : decode cX4_takesOne 6 = .ok (.aload_n 0, 1) := by decide +kernel
theorem dX4_takesOne_7 : decode cX4_takesOne 7 = .ok (.invokevirtual 27, 3) := by decide +kernel
theorem dX4_takesOne_10 : decode cX4_takesOne 10 = .ok (.aload_n 0, 1) := by decide +kernel
theorem dX4_takesOne_11 : decode cX4_takesOne 11 = .ok (.ldc 67, 2) := by decide +kernel
theorem dX4_takesOne_13 : decode cX4_takesOne 13 = .ok (.invokevirtual 36, 3) := by decide +kernel
theorem dX4_takesOne_16 : decode cX4_takesOne 16 = .ok (.ifCond .eq 30, 3) := by decide +kernel
theorem dX4_takesOne_19 : decode cX4_takesOne 19 = .ok (.aload_n 0, 1) := by decide +kernel
theorem dX4_takesOne_20 : decode cX4_takesOne 20 = .ok (.invokevirtual 27, 3) := by decide +kernel
theorem dX4_takesOne_23 : decode cX4_takesOne 23 = .ok (.aload_n 0, 1) := by decide +kernel
theorem dX4_takesOne_24 : decode cX4_takesOne 24 = .ok (.bipush 100, 2) := by decide +kernel
theorem dX4_takesOne_26 : decode cX4_takesOne 26 = .ok (.invokevirtual 69, 3) := by decide +kernel
theorem dX4_takesOne_29 : decode cX4_takesOne 29 = .ok (.ifCond .ne 5, 3) := by decide +kernel
theorem dX4_takesOne_32 : decode cX4_takesOne 32 = .ok (.iconst 0, 1) := by decide +kernel
theorem dX4_takesOne_33 : decode cX4_takesOne 33 = .ok (.ireturn, 1) := by decide +kernel
theorem dX4_takesOne_34 : decode cX4_takesOne 34 = .ok (.aload_n 3, 1) := by decide +kernel
theorem dX4_takesOne_35 : decode cX4_takesOne 35 = .ok (.aload_n 0, 1) := by decide +kernel
theorem dX4_takesOne_36 : decode cX4_takesOne 36 = .ok (.invokevirtual 73, 3) := by decide +kernel
theorem dX4_takesOne_39 : decode cX4_takesOne 39 = .ok (.putfield 77, 3) := by decide +kernel
theorem dX4_takesOne_42 : decode cX4_takesOne 42 = .ok (.aload_n 0, 1) := by decide +kernel
theorem dX4_takesOne_43 : decode cX4_takesOne 43 = .ok (.invokevirtual 27, 3) := by decide +kernel
theorem dX4_takesOne_46 : decode cX4_takesOne 46 = .ok (.aload_n 0, 1) := by decide +kernel
theorem dX4_takesOne_47 : decode cX4_takesOne 47 = .ok (.ldc 81, 2) := by decide +kernel
theorem dX4_takesOne_49 : decode cX4_takesOne 49 = .ok (.invokevirtual 36, 3) := by decide +kernel
theorem dX4_takesOne_52 : decode cX4_takesOne 52 = .ok (.ifCond .eq 32, 3) := by decide +kernel
theorem dX4_takesOne_55 : decode cX4_takesOne 55 = .ok (.aload_n 0, 1) := by decide +kernel
theorem dX4_takesOne_56 : decode cX4_takesOne 56 = .ok (.invokevirtual 27, 3) := by decide +kernel
theorem dX4_takesOne_59 : decode cX4_takesOne 59 = .ok (.aload_n 0, 1) := by decide +kernel
theorem dX4_takesOne_60 : decode cX4_takesOne 60 = .ok (.aload_n 1, 1) := by decide +kernel
theorem dX4_takesOne_61 : decode cX4_takesOne 61 = .ok (.getfield 83, 3) := by decide +kernel
theorem dX4_takesOne_64 : decode cX4_takesOne 64 = .ok (.invokevirtual 69, 3) := by decide +kernel
theorem dX4_takesOne_67 : decode cX4_takesOne 67 = .ok (.ifCond .ne 5, 3) := by decide +kernel
theorem dX4_takesOne_70 : decode cX4_takesOne 70 = .ok (.iconst 0, 1) := by decide +kernel
theorem dX4_takesOne_71 : decode cX4_takesOne 71 = .ok (.ireturn, 1) := by decide +kernel
theorem dX4_takesOne_72 : decode cX4_takesOne 72 = .ok (.aload_n 3, 1) := by decide +kernel
theorem dX4_takesOne_73 : decode cX4_takesOne 73 = .ok (.aload_n 0, 1) := by decide +kernel
theorem dX4_takesOne_74 : decode cX4_takesOne 74 = .ok (.invokevirtual 73, 3) := by decide +kernel
theorem dX4_takesOne_77 : decode cX4_takesOne 77 = .ok (.putfield 86, 3) := by decide +kernel
theorem dX4_takesOne_80 : decode cX4_takesOne 80 = .ok (.aload_n 0, 1) := by decide +kernel
theorem dX4_takesOne_81 : decode cX4_takesOne 81 = .ok (.invokevirtual 27, 3) := by decide +kernel
theorem dX4_takesOne_84 : decode cX4_takesOne 84 = .ok (.iconst 1, 1) := by decide +kernel
theorem dX4_takesOne_85 : decode cX4_takesOne 85 = .ok (.ireturn, 1) := by decide +kernel
theorem dX4_takesGrind_0 : decode cX4_takesGrind 0 = .ok (.aload_n 0, 1) := by decide +kernel
theorem dX4_takesGrind_1 : decode cX4_takesGrind 1 = .ok (.invokevirtual 27, 3) := by decide +kernel
theorem dX4_takesGrind_4 : decode cX4_takesGrind 4 = .ok (.aload_n 0, 1) := by decide +kernel
theorem dX4_takesGrind_5 : decode cX4_takesGrind 5 = .ok (.aload_n 1, 1) := by decide +kernel
theorem dX4_takesGrind_6 : decode cX4_takesGrind 6 = .ok (.getfield 83, 3) := by decide +kernel
theorem dX4_takesGrind_9 : decode cX4_takesGrind 9 = .ok (.invokevirtual 69, 3) := by decide +kernel
theorem dX4_takesGrind_12 : decode cX4_takesGrind 12 = .ok (.ifCond .ne 5, 3) := by decide +kernel
theorem dX4_takesGrind_15 : decode cX4_takesGrind 15 = .ok (.iconst 0, 1) := by decide +kernel
theorem dX4_takesGrind_16 : decode cX4_takesGrind 16 = .ok (.ireturn, 1) := by decide +kernel
theorem dX4_takesGrind_17 : decode cX4_takesGrind 17 = .ok (.aload_n 1, 1) := by decide +kernel
theorem dX4_takesGrind_18 : decode cX4_takesGrind 18 = .ok (.getfield 88, 3) := by decide +kernel
theorem dX4_takesGrind_21 : decode cX4_takesGrind 21 = .ok (.aload_n 0, 1) := by decide +kernel
theorem dX4_takesGrind_22 : decode cX4_takesGrind 22 = .ok (.invokevirtual 73, 3) := by decide +kernel
theorem dX4_takesGrind_25 : decode cX4_takesGrind 25 = .ok (.aaload, 1) := by decide +kernel
theorem dX4_takesGrind_26 : decode cX4_takesGrind 26 = .ok (.astore_n 2, 1) := by decide +kernel
theorem dX4_takesGrind_27 : decode cX4_takesGrind 27 = .ok (.aload_n 2, 1) := by decide +kernel
theorem dX4_takesGrind_28 : decode cX4_takesGrind 28 = .ok (.getfield 86, 3) := by decide +kernel
theorem dX4_takesGrind_31 : decode cX4_takesGrind 31 = .ok (.iconst (-1), 1) := by decide +kernel
theorem dX4_takesGrind_32 : decode cX4_takesGrind 32 = .ok (.if_icmp .ne 5, 3) := by decide +kernel
theorem dX4_takesGrind_35 : decode cX4_takesGrind 35 = .ok (.iconst 0, 1) := by decide +kernel
theorem dX4_takesGrind_36 : decode cX4_takesGrind 36 = .ok (.ireturn, 1) := by decide +kernel
theorem dX4_takesGrind_37 : decode cX4_takesGrind 37 = .ok (.aload_n 2, 1) := by decide +kernel
theorem dX4_takesGrind_38 : decode cX4_takesGrind 38 = .ok (.invokevirtual 92, 3) := by decide +kernel
theorem dX4_takesGrind_41 : decode cX4_takesGrind 41 = .ok (.aload_n 0, 1) := by decide +kernel
theorem dX4_takesGrind_42 : decode cX4_takesGrind 42 = .ok (.invokevirtual 27, 3) := by decide +kernel
theorem dX4_takesGrind_45 : decode cX4_takesGrind 45 = .ok (.iconst 1, 1) := by decide +kernel
theorem dX4_takesGrind_46 : decode cX4_takesGrind 46 = .ok (.ireturn, 1) := by decide +kernel
theorem dX4_takesUp_0 : decode cX4_takesUp 0 = .ok (.aload_n 0, 1) := by decide +kernel
theorem dX4_takesUp_1 : decode cX4_takesUp 1 = .ok (.invokevirtual 27, 3) := by decide +kernel
theorem dX4_takesUp_4 : decode cX4_takesUp 4 = .ok (.aload_n 0, 1) := by decide +kernel
theorem dX4_takesUp_5 : decode cX4_takesUp 5 = .ok (.aload_n 1, 1) := by decide +kernel
theorem dX4_takesUp_6 : decode cX4_takesUp 6 = .ok (.getfield 83, 3) := by decide +kernel
theorem dX4_takesUp_9 : decode cX4_takesUp 9 = .ok (.invokevirtual 69, 3) := by decide +kernel
theorem dX4_takesUp_12 : decode cX4_takesUp 12 = .ok (.ifCond .ne 5, 3) := by decide +kernel
theorem dX4_takesUp_15 : decode cX4_takesUp 15 = .ok (.iconst 0, 1) := by decide +kernel
theorem dX4_takesUp_16 : decode cX4_takesUp 16 = .ok (.ireturn, 1) := by decide +kernel
theorem dX4_takesUp_17 : decode cX4_takesUp 17 = .ok (.aload_n 1, 1) := by decide +kernel
theorem dX4_takesUp_18 : decode cX4_takesUp 18 = .ok (.getfield 88, 3) := by decide +kernel
theorem dX4_takesUp_21 : decode cX4_takesUp 21 = .ok (.aload_n 0, 1) := by decide +kernel
theorem dX4_takesUp_22 : decode cX4_takesUp 22 = .ok (.invokevirtual 73, 3) := by decide +kernel
theorem dX4_takesUp_25 : decode cX4_takesUp 25 = .ok (.aaload, 1) := by decide +kernel
theorem dX4_takesUp_26 : decode cX4_takesUp 26 = .ok (.iload_n 2, 1) := by decide +kernel
theorem dX4_takesUp_27 : decode cX4_takesUp 27 = .ok (.putfield 95, 3) := by decide +kernel
theorem dX4_takesUp_30 : decode cX4_takesUp 30 = .ok (.aload_n 0, 1) := by decide +kernel
theorem dX4_takesUp_31 : decode cX4_takesUp 31 = .ok (.invokevirtual 27, 3) := by decide +kernel
theorem dX4_takesUp_34 : decode cX4_takesUp 34 = .ok (.iconst 1, 1) := by decide +kernel
theorem dX4_takesUp_35 : decode cX4_takesUp 35 = .ok (.ireturn, 1) := by decide +kernel
theorem dX4_kindThere_0 : decode cX4_kindThere 0 = .ok (.iconst 0, 1) := by decide +kernel
theorem dX4_kindThere_1 : decode cX4_kindThere 1 = .ok (.istore_n 1, 1) := by decide +kernel
theorem dX4_kindThere_2 : decode cX4_kindThere 2 = .ok (.iload_n 1, 1) := by decide +kernel
theorem dX4_kindThere_3 : decode cX4_kindThere 3 = .ok (.bipush 6, 2) := by decide +kernel
theorem dX4_kindThere_5 : decode cX4_kindThere 5 = .ok (.if_icmp .ge 22, 3) := by decide +kernel
theorem dX4_kindThere_8 : decode cX4_kindThere 8 = .ok (.aload_n 0, 1) := by decide +kernel
theorem dX4_kindThere_9 : decode cX4_kindThere 9 = .ok (.iload_n 1, 1) := by decide +kernel
theorem dX4_kindThere_10 : decode cX4_kindThere 10 = .ok (.invokestatic 97, 3) := by decide +kernel
theorem dX4_kindThere_13 : decode cX4_kindThere 13 = .ok (.invokevirtual 36, 3) := by decide +kernel
theorem dX4_kindThere_16 : decode cX4_kindThere 16 = .ok (.ifCond .eq 5, 3) := by decide +kernel
theorem dX4_kindThere_19 : decode cX4_kindThere 19 = .ok (.iload_n 1, 1) := by decide +kernel
theorem dX4_kindThere_20 : decode cX4_kindThere 20 = .ok (.ireturn, 1) := by decide +kernel
theorem dX4_kindThere_21 : decode cX4_kindThere 21 = .ok (.iinc 1 1, 3) := by decide +kernel
theorem dX4_kindThere_24 : decode cX4_kindThere 24 = .ok (.goto (-22), 3) := by decide +kernel
theorem dX4_kindThere_27 : decode cX4_kindThere 27 = .ok (.iconst (-1), 1) := by decide +kernel
theorem dX4_kindThere_28 : decode cX4_kindThere 28 = .ok (.ireturn, 1) := by decide +kernel
theorem dX4_nameOf_0 : decode cX4_nameOf 0 = .ok (.iload_n 0, 1) := by decide +kernel
theorem dX4_nameOf_1 : decode cX4_nameOf 1 = .ok (.tableswitch 50 1 5 #[35, 38, 41, 44, 47], 35) := by decide +kernel
theorem dX4_nameOf_36 : decode cX4_nameOf 36 = .ok (.ldc 101, 2) := by decide +kernel
theorem dX4_nameOf_38 : decode cX4_nameOf 38 = .ok (.areturn, 1) := by decide +kernel
theorem dX4_nameOf_39 : decode cX4_nameOf 39 = .ok (.ldc 103, 2) := by decide +kernel
theorem dX4_nameOf_41 : decode cX4_nameOf 41 = .ok (.areturn, 1) := by decide +kernel
theorem dX4_nameOf_42 : decode cX4_nameOf 42 = .ok (.ldc 105, 2) := by decide +kernel
theorem dX4_nameOf_44 : decode cX4_nameOf 44 = .ok (.areturn, 1) := by decide +kernel
theorem dX4_nameOf_45 : decode cX4_nameOf 45 = .ok (.ldc 107, 2) := by decide +kernel
theorem dX4_nameOf_47 : decode cX4_nameOf 47 = .ok (.areturn, 1) := by decide +kernel
theorem dX4_nameOf_48 : decode cX4_nameOf 48 = .ok (.ldc 109, 2) := by decide +kernel
theorem dX4_nameOf_50 : decode cX4_nameOf 50 = .ok (.areturn, 1) := by decide +kernel
theorem dX4_nameOf_51 : decode cX4_nameOf 51 = .ok (.ldc 111, 2) := by decide +kernel
theorem dX4_nameOf_53 : decode cX4_nameOf 53 = .ok (.areturn, 1) := by decide +kernel
theorem dX5_init_0 : decode cX5_init 0 = .ok (.aload_n 0, 1) := by decide +kernel
theorem dX5_init_1 : decode cX5_init 1 = .ok (.invokespecial 3, 3) := by decide +kernel
theorem dX5_init_4 : decode cX5_init 4 = .ok (.aload_n 0, 1) := by decide +kernel
theorem dX5_init_5 : decode cX5_init 5 = .ok (.new 9, 3) := by decide +kernel
theorem dX5_init_8 : decode cX5_init 8 = .ok (.dup, 1) := by decide +kernel
theorem dX5_init_9 : decode cX5_init 9 = .ok (.invokespecial 11, 3) := by decide +kernel
theorem dX5_init_12 : decode cX5_init 12 = .ok (.putfield 12, 3) := by decide +kernel
theorem dX5_init_15 : decode cX5_init 15 = .ok (.aload_n 0, 1) := by decide +kernel
theorem dX5_init_16 : decode cX5_init 16 = .ok (.new 9, 3) := by decide +kernel
theorem dX5_init_19 : decode cX5_init 19 = .ok (.dup, 1) := by decide +kernel
theorem dX5_init_20 : decode cX5_init 20 = .ok (.invokespecial 11, 3) := by decide +kernel
theorem dX5_init_23 : decode cX5_init 23 = .ok (.putfield 16, 3) := by decide +kernel
theorem dX5_init_26 : decode cX5_init 26 = .ok (.aload_n 0, 1) := by decide +kernel
theorem dX5_init_27 : decode cX5_init 27 = .ok (.new 9, 3) := by decide +kernel
theorem dX5_init_30 : decode cX5_init 30 = .ok (.dup, 1) := by decide +kernel
theorem dX5_init_31 : decode cX5_init 31 = .ok (.invokespecial 11, 3) := by decide +kernel
theorem dX5_init_34 : decode cX5_init 34 = .ok (.putfield 19, 3) := by decide +kernel
theorem dX5_init_37 : decode cX5_init 37 = .ok (.aload_n 0, 1) := by decide +kernel
theorem dX5_init_38 : decode cX5_init 38 = .ok (.new 22, 3) := by decide +kernel
theorem dX5_init_41 : decode cX5_init 41 = .ok (.dup, 1) := by decide +kernel
theorem dX5_init_42 : decode cX5_init 42 = .ok (.invokespecial 24, 3) := by decide +kernel
theorem dX5_init_45 : decode cX5_init 45 = .ok (.putfield 25, 3) := by decide +kernel
theorem dX5_init_48 : decode cX5_init 48 = .ok (.aload_n 0, 1) := by decide +kernel
theorem dX5_init_49 : decode cX5_init 49 = .ok (.new 29, 3) := by decide +kernel
theorem dX5_init_52 : decode cX5_init 52 = .ok (.dup, 1) := by decide +kernel
theorem dX5_init_53 : decode cX5_init 53 = .ok (.invokespecial 31, 3) := by decide +kernel
theorem dX5_init_56 : decode cX5_init 56 = .ok (.putfield 32, 3) := by decide +kernel
theorem dX5_init_59 : decode cX5_init 59 = .ok (.aload_n 0, 1) := by decide +kernel
theorem dX5_init_60 : decode cX5_init 60 = .ok (.iconst 4, 1) := by decide +kernel
theorem dX5_init_61 : decode cX5_init 61 = .ok (.anewarray 36, 3) := by decide +kernel
theorem dX5_init_64 : decode cX5_init 64 = .ok (.putfield 38, 3) := by decide +kernel
theorem dX5_init_67 : decode cX5_init 67 = .ok (.aload_n 0, 1) := by decide +kernel
theorem dX5_init_68 : decode cX5_init 68 = .ok (.bipush 7, 2) := by decide +kernel
theorem dX5_init_70 : decode cX5_init 70 = .ok (.newarray .int, 2) := by decide +kernel
theorem dX5_init_72 : decode cX5_init 72 = .ok (.putfield 42, 3) := by decide +kernel
theorem dX5_init_75 : decode cX5_init 75 = .ok (.aload_n 0, 1) := by decide +kernel
theorem dX5_init_76 : decode cX5_init 76 = .ok (.iconst 0, 1) := by decide +kernel
theorem dX5_init_77 : decode cX5_init 77 = .ok (.putfield 46, 3) := by decide +kernel
theorem dX5_init_80 : decode cX5_init 80 = .ok (.iconst 0, 1) := by decide +kernel
theorem dX5_init_81 : decode cX5_init 81 = .ok (.istore_n 1, 1) := by decide +kernel
theorem dX5_init_82 : decode cX5_init 82 = .ok (.iload_n 1, 1) := by decide +kernel
theorem dX5_init_83 : decode cX5_init 83 = .ok (.iconst 4, 1) := by decide +kernel
theorem dX5_init_84 : decode cX5_init 84 = .ok (.if_icmp .ge 22, 3) := by decide +kernel
theorem dX5_init_87 : decode cX5_init 87 = .ok (.aload_n 0, 1) := by decide +kernel
theorem dX5_init_88 : decode cX5_init 88 = .ok (.getfield 38, 3) := by decide +kernel
theorem dX5_init_91 : decode cX5_init 91 = .ok (.iload_n 1, 1) := by decide +kernel
theorem dX5_init_92 : decode cX5_init 92 = .ok (.new 36, 3) := by decide +kernel
theorem dX5_init_95 : decode cX5_init 95 = .ok (.dup, 1) := by decide +kernel
theorem dX5_init_96 : decode cX5_init 96 = .ok (.invokespecial 50, 3) := by decide +kernel
theorem dX5_init_99 : decode cX5_init 99 = .ok (.aastore, 1) := by decide +kernel
theorem dX5_init_100 : decode cX5_init 100 = .ok (.iinc 1 1, 3) := by decide +kernel
theorem dX5_init_103 : decode cX5_init 103 = .ok (.goto (-21), 3) := by decide +kernel
theorem dX5_init_106 : decode cX5_init 106 = .ok (.return_, 1) := by decide +kernel
theorem dX5_person_0 : decode cX5_person 0 = .ok (.iload_n 1, 1) := by decide +kernel
theorem dX5_person_1 : decode cX5_person 1 = .ok (.invokestatic 51, 3) := by decide +kernel
theorem dX5_person_4 : decode cX5_person 4 = .ok (.ifCond .ne 10, 3) := by decide +kernel
theorem dX5_person_7 : decode cX5_person 7 = .ok (.aload_n 0, 1) := by decide +kernel
theorem dX5_person_8 : decode cX5_person 8 = .ok (.ldc 55, 2) := by decide +kernel
theorem dX5_person_10 : decode cX5_person 10 = .ok (.invokevirtual 56, 3) := by decide +kernel
theorem dX5_person_13 : decode cX5_person 13 = .ok (.ireturn, 1) := by decide +kernel
theorem dX5_person_14 : decode cX5_person 14 = .ok (.aload_n 0, 1) := by decide +kernel
theorem dX5_person_15 : decode cX5_person 15 = .ok (.getfield 12, 3) := by decide +kernel
theorem dX5_person_18 : decode cX5_person 18 = .ok (.invokevirtual 60, 3) := by decide +kernel
theorem dX5_person_21 : decode cX5_person 21 = .ok (.ifCond .eq 10, 3) := by decide +kernel
theorem dX5_person_24 : decode cX5_person 24 = .ok (.aload_n 0, 1) := by decide +kernel
theorem dX5_person_25 : decode cX5_person 25 = .ok (.ldc 64, 2) := by decide +kernel
theorem dX5_person_27 : decode cX5_person 27 = .ok (.invokevirtual 56, 3) := by decide +kernel
theorem dX5_person_30 : decode cX5_person 30 = .ok (.ireturn, 1) := by decide +kernel
theorem dX5_person_31 : decode cX5_person 31 = .ok (.aload_n 0, 1) := by decide +kernel
theorem dX5_person_32 : decode cX5_person 32 = .ok (.getfield 12, 3) := by decide +kernel
theorem dX5_person_35 : decode cX5_person 35 = .ok (.iload_n 1, 1) := by decide +kernel
theorem dX5_person_36 : decode cX5_person 36 = .ok (.invokevirtual 65, 3) := by decide +kernel
theorem dX5_person_39 : decode cX5_person 39 = .ok (.getfield 69, 3) := by decide +kernel
theorem dX5_person_42 : decode cX5_person 42 = .ok (.ireturn, 1) := by decide +kernel
theorem dX5_of_0 : decode cX5_of 0 = .ok (.aload_n 0, 1) := by decide +kernel
theorem dX5_of_1 : decode cX5_of 1 = .ok (.iload_n 1, 1) := by decide +kernel
theorem dX5_of_2 : decode cX5_of 2 = .ok (.invokevirtual 73, 3) := by decide +kernel
theorem dX5_of_5 : decode cX5_of 5 = .ok (.ifCond .eq 13, 3) := by decide +kernel
theorem dX5_of_8 : decode cX5_of 8 = .ok (.iload_n 2, 1) := by decide +kernel
theorem dX5_of_9 : decode cX5_of 9 = .ok (.ifCond .lt 9, 3) := by decide +kernel
theorem dX5_of_12 : decode cX5_of 12 = .ok (.iload_n 2, 1) := by decide +kernel
theorem dX5_of_13 : decode cX5_of 13 = .ok (.bipush 9, 2) := by decide +kernel
theorem dX5_of_15 : decode cX5_of 15 = .ok (.if_icmp .le 10, 3) := by decide +kernel
theorem dX5_of_18 : decode cX5_of 18 = .ok (.aload_n 0, 1) := by decide +kernel
theorem dX5_of_19 : decode cX5_of 19 = .ok (.ldc 55, 2) := by decide +kernel
theorem dX5_of_21 : decode cX5_of 21 = .ok (.invokevirtual 56, 3) := by decide +kernel
theorem dX5_of_24 : decode cX5_of 24 = .ok (.ireturn, 1) := by decide +kernel
theorem dX5_of_25 : decode cX5_of 25 = .ok (.aload_n 0, 1) := by decide +kernel
theorem dX5_of_26 : decode cX5_of 26 = .ok (.getfield 12, 3) := by decide +kernel
theorem dX5_of_29 : decode cX5_of 29 = .ok (.getfield 76, 3) := by decide +kernel
theorem dX5_of_32 : decode cX5_of 32 = .ok (.iload_n 1, 1) := by decide +kernel
theorem dX5_of_33 : decode cX5_of 33 = .ok (.aaload, 1) := by decide +kernel
theorem dX5_of_34 : decode cX5_of 34 = .ok (.iload_n 2, 1) := by decide +kernel
theorem dX5_of_35 : decode cX5_of 35 = .ok (.invokevirtual 80, 3) := by decide +kernel
theorem dX5_of_38 : decode cX5_of 38 = .ok (.ireturn, 1) := by decide +kernel
theorem dX5_set_0 : decode cX5_set 0 = .ok (.aload_n 0, 1) := by decide +kernel
theorem dX5_set_1 : decode cX5_set 1 = .ok (.iload_n 1, 1) := by decide +kernel
theorem dX5_set_2 : decode cX5_set 2 = .ok (.invokevirtual 73, 3) := by decide +kernel
theorem dX5_set_5 : decode cX5_set 5 = .ok (.ifCond .eq 12, 3) := by decide +kernel
theorem dX5_set_8 : decode cX5_set 8 = .ok (.aload_n 0, 1) := by decide +kernel
theorem dX5_set_9 : decode cX5_set 9 = .ok (.iload_n 2, 1) := by decide +kernel
theorem dX5_set_10 : decode cX5_set 10 = .ok (.iload_n 3, 1) := by decide +kernel
theorem dX5_set_11 : decode cX5_set 11 = .ok (.invokevirtual 83, 3) := by decide +kernel
theorem dX5_set_14 : decode cX5_set 14 = .ok (.ifCond .ne 10, 3) := by decide +kernel
theorem dX5_set_17 : decode cX5_set 17 = .ok (.aload_n 0, 1) := by decide +kernel
theorem dX5_set_18 : decode cX5_set 18 = .ok (.ldc 55, 2) := by decide +kernel
theorem dX5_set_20 : decode cX5_set 20 = .ok (.invokevirtual 56, 3) := by decide +kernel
theorem dX5_set_23 : decode cX5_set 23 = .ok (.ireturn, 1) := by decide +kernel
theorem dX5_set_24 : decode cX5_set 24 = .ok (.aload_n 0, 1) := by decide +kernel
theorem dX5_set_25 : decode cX5_set 25 = .ok (.getfield 12, 3) := by decide +kernel
theorem dX5_set_28 : decode cX5_set 28 = .ok (.getfield 76, 3) := by decide +kernel
theorem dX5_set_31 : decode cX5_set 31 = .ok (.iload_n 1, 1) := by decide +kernel
theorem dX5_set_32 : decode cX5_set 32 = .ok (.aaload, 1) := by decide +kernel
theorem dX5_set_33 : decode cX5_set 33 = .ok (.astore 4, 2) := by decide +kernel
theorem dX5_set_35 : decode cX5_set 35 = .ok (.aload 4, 2) := by decide +kernel
theorem dX5_set_37 : decode cX5_set 37 = .ok (.iload_n 2, 1) := by decide +kernel
theorem dX5_set_38 : decode cX5_set 38 = .ok (.invokevirtual 80, 3) := by decide +kernel
theorem dX5_set_41 : decode cX5_set 41 = .ok (.istore 5, 2) := by decide +kernel
theorem dX5_set_43 : decode cX5_set 43 = .ok (.aload 4, 2) := by decide +kernel
theorem dX5_set_45 : decode cX5_set 45 = .ok (.iload_n 2, 1) := by decide +kernel
theorem dX5_set_46 : decode cX5_set 46 = .ok (.iload_n 3, 1) := by decide +kernel
theorem dX5_set_47 : decode cX5_set 47 = .ok (.invokevirtual 87, 3) := by decide +kernel
theorem dX5_set_50 : decode cX5_set 50 = .ok (.iload 5, 2) := by decide +kernel
theorem dX5_set_52 : decode cX5_set 52 = .ok (.ireturn, 1) := by decide +kernel
theorem dX5_turn_0 : decode cX5_turn 0 = .ok (.aload_n 0, 1) := by decide +kernel
theorem dX5_turn_1 : decode cX5_turn 1 = .ok (.iload_n 1, 1) := by decide +kernel
theorem dX5_turn_2 : decode cX5_turn 2 = .ok (.invokevirtual 73, 3) := by decide +kernel
theorem dX5_turn_5 : decode cX5_turn 5 = .ok (.ifCond .eq 10, 3) := by decide +kernel
theorem dX5_turn_8 : decode cX5_turn 8 = .ok (.iload_n 2, 1) := by decide +kernel
theorem dX5_turn_9 : decode cX5_turn 9 = .ok (.invokestatic 51, 3) := by decide +kernel
theorem dX5_turn_12 : decode cX5_turn 12 = .ok (.ifCond .ne 10, 3) := by decide +kernel
theorem dX5_turn_15 : decode cX5_turn 15 = .ok (.aload_n 0, 1) := by decide +kernel
theorem dX5_turn_16 : decode cX5_turn 16 = .ok (.ldc 55, 2) := by decide +kernel
theorem dX5_turn_18 : decode cX5_turn 18 = .ok (.invokevirtual 56, 3) := by decide +kernel
theorem dX5_turn_21 : decode cX5_turn 21 = .ok (.ireturn, 1) := by decide +kernel
theorem dX5_turn_22 : decode cX5_turn 22 = .ok (.aload_n 0, 1) := by decide +kernel
theorem dX5_turn_23 : decode cX5_turn 23 = .ok (.getfield 12, 3) := by decide +kernel
theorem dX5_turn_26 : decode cX5_turn 26 = .ok (.getfield 76, 3) := by decide +kernel
theorem dX5_turn_29 : decode cX5_turn 29 = .ok (.iload_n 1, 1) := by decide +kernel
theorem dX5_turn_30 : decode cX5_turn 30 = .ok (.aaload, 1) := by decide +kernel
theorem dX5_turn_31 : decode cX5_turn 31 = .ok (.astore_n 3, 1) := by decide +kernel
theorem dX5_turn_32 : decode cX5_turn 32 = .ok (.aload_n 3, 1) := by decide +kernel
theorem dX5_turn_33 : decode cX5_turn 33 = .ok (.getfield 91, 3) := by decide +kernel
theorem dX5_turn_36 : decode cX5_turn 36 = .ok (.istore 4, 2) := by decide +kernel
theorem dX5_turn_38 : decode cX5_turn 38 = .ok (.aload_n 3, 1) := by decide +kernel
theorem dX5_turn_39 : decode cX5_turn 39 = .ok (.iload_n 2, 1) := by decide +kernel
theorem dX5_turn_40 : decode cX5_turn 40 = .ok (.putfield 91, 3) := by decide +kernel
theorem dX5_turn_43 : decode cX5_turn 43 = .ok (.iload 4, 2) := by decide +kernel
theorem dX5_turn_45 : decode cX5_turn 45 = .ok (.ireturn, 1) := by decide +kernel
theorem dX5_as_0 : decode cX5_as 0 = .ok (.aload_n 0, 1) := by decide +kernel
theorem dX5_as_1 : decode cX5_as 1 = .ok (.iload_n 1, 1) := by decide +kernel
theorem dX5_as_2 : decode cX5_as 2 = .ok (.invokevirtual 73, 3) := by decide +kernel
theorem dX5_as_5 : decode cX5_as 5 = .ok (.ifCond .eq 10, 3) := by decide +kernel
theorem dX5_as_8 : decode cX5_as 8 = .ok (.iload_n 2, 1) := by decide +kernel
theorem dX5_as_9 : decode cX5_as 9 = .ok (.invokestatic 51, 3) := by decide +kernel
theorem dX5_as_12 : decode cX5_as 12 = .ok (.ifCond .ne 10, 3) := by decide +kernel
theorem dX5_as_15 : decode cX5_as 15 = .ok (.aload_n 0, 1) := by decide +kernel
theorem dX5_as_16 : decode cX5_as 16 = .ok (.ldc 55, 2) := by decide +kernel
theorem dX5_as_18 : decode cX5_as 18 = .ok (.invokevirtual 56, 3) := by decide +kernel
theorem dX5_as_21 : decode cX5_as 21 = .ok (.ireturn, 1) := by decide +kernel
theorem dX5_as_22 : decode cX5_as 22 = .ok (.aload_n 0, 1) := by decide +kernel
theorem dX5_as_23 : decode cX5_as 23 = .ok (.getfield 12, 3) := by decide +kernel
theorem dX5_as_26 : decode cX5_as 26 = .ok (.getfield 76, 3) := by decide +kernel
theorem dX5_as_29 : decode cX5_as 29 = .ok (.iload_n 1, 1) := by decide +kernel
theorem dX5_as_30 : decode cX5_as 30 = .ok (.aaload, 1) := by decide +kernel
theorem dX5_as_31 : decode cX5_as 31 = .ok (.astore_n 3, 1) := by decide +kernel
theorem dX5_as_32 : decode cX5_as 32 = .ok (.aload_n 3, 1) := by decide +kernel
theorem dX5_as_33 : decode cX5_as 33 = .ok (.getfield 91, 3) := by decide +kernel
theorem dX5_as_36 : decode cX5_as 36 = .ok (.iload_n 2, 1) := by decide +kernel
theorem dX5_as_37 : decode cX5_as 37 = .ok (.invokestatic 94, 3) := by decide +kernel
theorem dX5_as_40 : decode cX5_as 40 = .ok (.ifCond .ne 10, 3) := by decide +kernel
theorem dX5_as_43 : decode cX5_as 43 = .ok (.aload_n 0, 1) := by decide +kernel
theorem dX5_as_44 : decode cX5_as 44 = .ok (.ldc 97, 2) := by decide +kernel
theorem dX5_as_46 : decode cX5_as 46 = .ok (.invokevirtual 56, 3) := by decide +kernel
theorem dX5_as_49 : decode cX5_as 49 = .ok (.ireturn, 1) := by decide +kernel
theorem dX5_as_50 : decode cX5_as 50 = .ok (.aload_n 3, 1) := by decide +kernel
theorem dX5_as_51 : decode cX5_as 51 = .ok (.getfield 98, 3) := by decide +kernel
theorem dX5_as_54 : decode cX5_as 54 = .ok (.ireturn, 1) := by decide +kernel
theorem dX5_grind_0 : decode cX5_grind 0 = .ok (.aload_n 0, 1) := by decide +kernel
theorem dX5_grind_1 : decode cX5_grind 1 = .ok (.iload_n 1, 1) := by decide +kernel
theorem dX5_grind_2 : decode cX5_grind 2 = .ok (.invokevirtual 73, 3) := by decide +kernel
theorem dX5_grind_5 : decode cX5_grind 5 = .ok (.ifCond .ne 10, 3) := by decide +kernel
theorem dX5_grind_8 : decode cX5_grind 8 = .ok (.aload_n 0, 1) := by decide +kernel
theorem dX5_grind_9 : decode cX5_grind 9 = .ok (.ldc 55, 2) := by decide +kernel
theorem dX5_grind_11 : decode cX5_grind 11 = .ok (.invokevirtual 56, 3) := by decide +kernel
theorem dX5_grind_14 : decode cX5_grind 14 = .ok (.ireturn, 1) := by decide +kernel
theorem dX5_grind_15 : decode cX5_grind 15 = .ok (.aload_n 0, 1) := by decide +kernel
theorem dX5_grind_16 : decode cX5_grind 16 = .ok (.getfield 12, 3) := by decide +kernel
theorem dX5_grind_19 : decode cX5_grind 19 = .ok (.getfield 76, 3) := by decide +kernel
theorem dX5_grind_22 : decode cX5_grind 22 = .ok (.iload_n 1, 1) := by decide +kernel
theorem dX5_grind_23 : decode cX5_grind 23 = .ok (.aaload, 1) := by decide +kernel
theorem dX5_grind_24 : decode cX5_grind 24 = .ok (.astore_n 2, 1) := by decide +kernel
theorem dX5_grind_25 : decode cX5_grind 25 = .ok (.aload_n 2, 1) := by decide +kernel
theorem dX5_grind_26 : decode cX5_grind 26 = .ok (.getfield 101, 3) := by decide +kernel
theorem dX5_grind_29 : decode cX5_grind 29 = .ok (.iconst (-1), 1) := by decide +kernel
theorem dX5_grind_30 : decode cX5_grind 30 = .ok (.if_icmp .ne 10, 3) := by decide +kernel
theorem dX5_grind_33 : decode cX5_grind 33 = .ok (.aload_n 0, 1) := by decide +kernel
theorem dX5_grind_34 : decode cX5_grind 34 = .ok (.ldc 104, 2) := by decide +kernel
theorem dX5_grind_36 : decode cX5_grind 36 = .ok (.invokevirtual 56, 3) := by decide +kernel
theorem dX5_grind_39 : decode cX5_grind 39 = .ok (.ireturn, 1) := by decide +kernel
theorem dX5_grind_40 : decode cX5_grind 40 = .ok (.aload_n 2, 1) := by decide +kernel
theorem dX5_grind_41 : decode cX5_grind 41 = .ok (.invokevirtual 105, 3) := by decide +kernel
theorem dX5_grind_44 : decode cX5_grind 44 = .ok (.aload_n 2, 1) := by decide +kernel
theorem dX5_grind_45 : decode cX5_grind 45 = .ok (.getfield 108, 3) := by decide +kernel
theorem dX5_grind_48 : decode cX5_grind 48 = .ok (.ireturn, 1) := by decide +kernel
theorem dX5_lend_0 : decode cX5_lend 0 = .ok (.aload_n 0, 1) := by decide +kernel
theorem dX5_lend_1 : decode cX5_lend 1 = .ok (.iload_n 1, 1) := by decide +kernel
theorem dX5_lend_2 : decode cX5_lend 2 = .ok (.iload_n 2, 1) := by decide +kernel
theorem dX5_lend_3 : decode cX5_lend 3 = .ok (.invokevirtual 111, 3) := by decide +kernel
theorem dX5_lend_6 : decode cX5_lend 6 = .ok (.ifCond .ne 10, 3) := by decide +kernel
theorem dX5_lend_9 : decode cX5_lend 9 = .ok (.aload_n 0, 1) := by decide +kernel
theorem dX5_lend_10 : decode cX5_lend 10 = .ok (.ldc 55, 2) := by decide +kernel
theorem dX5_lend_12 : decode cX5_lend 12 = .ok (.invokevirtual 56, 3) := by decide +kernel
theorem dX5_lend_15 : decode cX5_lend 15 = .ok (.ireturn, 1) := by decide +kernel
theorem dX5_lend_16 : decode cX5_lend 16 = .ok (.aload_n 0, 1) := by decide +kernel
theorem dX5_lend_17 : decode cX5_lend 17 = .ok (.getfield 12, 3) := by decide +kernel
theorem dX5_lend_20 : decode cX5_lend 20 = .ok (.getfield 76, 3) := by decide +kernel
theorem dX5_lend_23 : decode cX5_lend 23 = .ok (.iload_n 1, 1) := by decide +kernel
theorem dX5_lend_24 : decode cX5_lend 24 = .ok (.aaload, 1) := by decide +kernel
theorem dX5_lend_25 : decode cX5_lend 25 = .ok (.astore_n 3, 1) := by decide +kernel
theorem dX5_lend_26 : decode cX5_lend 26 = .ok (.aload_n 0, 1) := by decide +kernel
theorem dX5_lend_27 : decode cX5_lend 27 = .ok (.getfield 12, 3) := by decide +kernel
theorem dX5_lend_30 : decode cX5_lend 30 = .ok (.getfield 76, 3) := by decide +kernel
theorem dX5_lend_33 : decode cX5_lend 33 = .ok (.iload_n 2, 1) := by decide +kernel
theorem dX5_lend_34 : decode cX5_lend 34 = .ok (.aaload, 1) := by decide +kernel
theorem dX5_lend_35 : decode cX5_lend 35 = .ok (.astore 4, 2) := by decide +kernel
theorem dX5_lend_37 : decode cX5_lend 37 = .ok (.aload_n 0, 1) := by decide +kernel
theorem dX5_lend_38 : decode cX5_lend 38 = .ok (.getfield 25, 3) := by decide +kernel
theorem dX5_lend_41 : decode cX5_lend 41 = .ok (.aload_n 3, 1) := by decide +kernel
theorem dX5_lend_42 : decode cX5_lend 42 = .ok (.invokevirtual 114, 3) := by decide +kernel
theorem dX5_lend_45 : decode cX5_lend 45 = .ok (.aload_n 3, 1) := by decide +kernel
theorem dX5_lend_46 : decode cX5_lend 46 = .ok (.aload 4, 2) := by decide +kernel
theorem dX5_lend_48 : decode cX5_lend 48 = .ok (.invokevirtual 114, 3) := by decide +kernel
theorem dX5_lend_51 : decode cX5_lend 51 = .ok (.aload 4, 2) := by decide +kernel
theorem dX5_lend_53 : decode cX5_lend 53 = .ok (.aload_n 0, 1) := by decide +kernel
theorem dX5_lend_54 : decode cX5_lend 54 = .ok (.getfield 25, 3) := by decide +kernel
theorem dX5_lend_57 : decode cX5_lend 57 = .ok (.invokevirtual 114, 3) := by decide +kernel
theorem dX5_lend_60 : decode cX5_lend 60 = .ok (.iconst 1, 1) := by decide +kernel
theorem dX5_lend_61 : decode cX5_lend 61 = .ok (.ireturn, 1) := by decide +kernel
theorem dX5_looks_0 : decode cX5_looks 0 = .ok (.aload_n 0, 1) := by decide +kernel
theorem dX5_looks_1 : decode cX5_looks 1 = .ok (.iload_n 1, 1) := by decide +kernel
theorem dX5_looks_2 : decode cX5_looks 2 = .ok (.iload_n 2, 1) := by decide +kernel
theorem dX5_looks_3 : decode cX5_looks 3 = .ok (.invokevirtual 111, 3) := by decide +kernel
theorem dX5_looks_6 : decode cX5_looks 6 = .ok (.ifCond .ne 10, 3) := by decide +kernel
theorem dX5_looks_9 : decode cX5_looks 9 = .ok (.aload_n 0, 1) := by decide +kernel
theorem dX5_looks_10 : decode cX5_looks 10 = .ok (.ldc 55, 2) := by decide +kernel
theorem dX5_looks_12 : decode cX5_looks 12 = .ok (.invokevirtual 56, 3) := by decide +kernel
theorem dX5_looks_15 : decode cX5_looks 15 = .ok (.ireturn, 1) := by decide +kernel
theorem dX5_looks_16 : decode cX5_looks 16 = .ok (.aload_n 0, 1) := by decide +kernel
theorem dX5_looks_17 : decode cX5_looks 17 = .ok (.getfield 12, 3) := by decide +kernel
theorem dX5_looks_20 : decode cX5_looks 20 = .ok (.getfield 76, 3) := by decide +kernel
theorem dX5_looks_23 : decode cX5_looks 23 = .ok (.iload_n 1, 1) := by decide +kernel
theorem dX5_looks_24 : decode cX5_looks 24 = .ok (.aaload, 1) := by decide +kernel
theorem dX5_looks_25 : decode cX5_looks 25 = .ok (.iload_n 2, 1) := by decide +kernel
theorem dX5_looks_26 : decode cX5_looks 26 = .ok (.invokevirtual 118, 3) := by decide +kernel
theorem dX5_looks_29 : decode cX5_looks 29 = .ok (.ireturn, 1) := by decide +kernel
theorem dX5_sees_0 : decode cX5_sees 0 = .ok (.aload_n 0, 1) := by decide +kernel
theorem dX5_sees_1 : decode cX5_sees 1 = .ok (.iload_n 1, 1) := by decide +kernel
theorem dX5_sees_2 : decode cX5_sees 2 = .ok (.invokevirtual 73, 3) := by decide +kernel
theorem dX5_sees_5 : decode cX5_sees 5 = .ok (.ifCond .eq 13, 3) := by decide +kernel
theorem dX5_sees_8 : decode cX5_sees 8 = .ok (.iload_n 2, 1) := by decide +kernel
theorem dX5_sees_9 : decode cX5_sees 9 = .ok (.sipush 198, 3) := by decide +kernel
theorem dX5_sees_12 : decode cX5_sees 12 = .ok (.invokestatic 121, 3) := by decide +kernel
theorem dX5_sees_15 : decode cX5_sees 15 = .ok (.ifCond .ne 10, 3) := by decide +kernel
theorem dX5_sees_18 : decode cX5_sees 18 = .ok (.aload_n 0, 1) := by decide +kernel
theorem dX5_sees_19 : decode cX5_sees 19 = .ok (.ldc 55, 2) := by decide +kernel
theorem dX5_sees_21 : decode cX5_sees 21 = .ok (.invokevirtual 56, 3) := by decide +kernel
theorem dX5_sees_24 : decode cX5_sees 24 = .ok (.ireturn, 1) := by decide +kernel
theorem dX5_sees_25 : decode cX5_sees 25 = .ok (.aload_n 0, 1) := by decide +kernel
theorem dX5_sees_26 : decode cX5_sees 26 = .ok (.getfield 12, 3) := by decide +kernel
theorem dX5_sees_29 : decode cX5_sees 29 = .ok (.iload_n 1, 1) := by decide +kernel
theorem dX5_sees_30 : decode cX5_sees 30 = .ok (.iload_n 2, 1) := by decide +kernel
theorem dX5_sees_31 : decode cX5_sees 31 = .ok (.invokevirtual 124, 3) := by decide +kernel
theorem dX5_sees_34 : decode cX5_sees 34 = .ok (.ireturn, 1) := by decide +kernel
theorem dX5_days_0 : decode cX5_days 0 = .ok (.iload_n 1, 1) := by decide +kernel
theorem dX5_days_1 : decode cX5_days 1 = .ok (.iconst 1, 1) := by decide +kernel
theorem dX5_days_2 : decode cX5_days 2 = .ok (.if_icmp .lt 9, 3) := by decide +kernel
theorem dX5_days_5 : decode cX5_days 5 = .ok (.iload_n 1, 1) := by decide +kernel
theorem dX5_days_6 : decode cX5_days 6 = .ok (.bipush 100, 2) := by decide +kernel
theorem dX5_days_8 : decode cX5_days 8 = .ok (.if_icmp .le 10, 3) := by decide +kernel
theorem dX5_days_11 : decode cX5_days 11 = .ok (.aload_n 0, 1) := by decide +kernel
theorem dX5_days_12 : decode cX5_days 12 = .ok (.ldc 55, 2) := by decide +kernel
theorem dX5_days_14 : decode cX5_days 14 = .ok (.invokevirtual 56, 3) := by decide +kernel
theorem dX5_days_17 : decode cX5_days 17 = .ok (.ireturn, 1) := by decide +kernel
theorem dX5_days_18 : decode cX5_days 18 = .ok (.aload_n 0, 1) := by decide +kernel
theorem dX5_days_19 : decode cX5_days 19 = .ok (.getfield 12, 3) := by decide +kernel
theorem dX5_days_22 : decode cX5_days 22 = .ok (.getfield 128, 3) := by decide +kernel
theorem dX5_days_25 : decode cX5_days 25 = .ok (.iload_n 1, 1) := by decide +kernel
theorem dX5_days_26 : decode cX5_days 26 = .ok (.iadd, 1) := by decide +kernel
theorem dX5_days_27 : decode cX5_days 27 = .ok (.sipush 9999, 3) := by decide +kernel
theorem dX5_days_30 : decode cX5_days 30 = .ok (.if_icmp .le 10, 3) := by decide +kernel
theorem dX5_days_33 : decode cX5_days 33 = .ok (.aload_n 0, 1) := by decide +kernel
theorem dX5_days_34 : decode cX5_days 34 = .ok (.ldc 104, 2) := by decide +kernel
theorem dX5_days_36 : decode cX5_days 36 = .ok (.invokevirtual 56, 3) := by decide +kernel
theorem dX5_days_39 : decode cX5_days 39 = .ok (.ireturn, 1) := by decide +kernel
theorem dX5_days_40 : decode cX5_days 40 = .ok (.aload_n 0, 1) := by decide +kernel
theorem dX5_days_41 : decode cX5_days 41 = .ok (.getfield 12, 3) := by decide +kernel
theorem dX5_days_44 : decode cX5_days 44 = .ok (.iload_n 1, 1) := by decide +kernel
theorem dX5_days_45 : decode cX5_days 45 = .ok (.invokevirtual 131, 3) := by decide +kernel
theorem dX5_days_48 : decode cX5_days 48 = .ok (.aload_n 0, 1) := by decide +kernel
theorem dX5_days_49 : decode cX5_days 49 = .ok (.getfield 12, 3) := by decide +kernel
theorem dX5_days_52 : decode cX5_days 52 = .ok (.invokevirtual 135, 3) := by decide +kernel
theorem dX5_days_55 : decode cX5_days 55 = .ok (.ireturn, 1) := by decide +kernel
theorem dX5_now_0 : decode cX5_now 0 = .ok (.iload_n 1, 1) := by decide +kernel
theorem dX5_now_1 : decode cX5_now 1 = .ok (.tableswitch 75 0 4 #[35, 43, 51, 59, 67], 35) := by decide +kernel
theorem dX5_now_36 : decode cX5_now 36 = .ok (.aload_n 0, 1) := by decide +kernel
theorem dX5_now_37 : decode cX5_now 37 = .ok (.getfield 12, 3) := by decide +kernel
theorem dX5_now_40 : decode cX5_now 40 = .ok (.getfield 128, 3) := by decide +kernel
theorem dX5_now_43 : decode cX5_now 43 = .ok (.ireturn, 1) := by decide +kernel
theorem dX5_now_44 : decode cX5_now 44 = .ok (.aload_n 0, 1) := by decide +kernel
theorem dX5_now_45 : decode cX5_now 45 = .ok (.getfield 12, 3) := by decide +kernel
theorem dX5_now_48 : decode cX5_now 48 = .ok (.invokevirtual 135, 3) := by decide +kernel
theorem dX5_now_51 : decode cX5_now 51 = .ok (.ireturn, 1) := by decide +kernel
theorem dX5_now_52 : decode cX5_now 52 = .ok (.aload_n 0, 1) := by decide +kernel
theorem dX5_now_53 : decode cX5_now 53 = .ok (.getfield 12, 3) := by decide +kernel
theorem dX5_now_56 : decode cX5_now 56 = .ok (.invokevirtual 139, 3) := by decide +kernel
theorem dX5_now_59 : decode cX5_now 59 = .ok (.ireturn, 1) := by decide +kernel
theorem dX5_now_60 : decode cX5_now 60 = .ok (.aload_n 0, 1) := by decide +kernel
theorem dX5_now_61 : decode cX5_now 61 = .ok (.getfield 12, 3) := by decide +kernel
theorem dX5_now_64 : decode cX5_now 64 = .ok (.invokevirtual 142, 3) := by decide +kernel
theorem dX5_now_67 : decode cX5_now 67 = .ok (.ireturn, 1) := by decide +kernel
theorem dX5_now_68 : decode cX5_now 68 = .ok (.aload_n 0, 1) := by decide +kernel
theorem dX5_now_69 : decode cX5_now 69 = .ok (.getfield 12, 3) := by decide +kernel
theorem dX5_now_72 : decode cX5_now 72 = .ok (.invokevirtual 145, 3) := by decide +kernel
theorem dX5_now_75 : decode cX5_now 75 = .ok (.ireturn, 1) := by decide +kernel
theorem dX5_now_76 : decode cX5_now 76 = .ok (.aload_n 0, 1) := by decide +kernel
theorem dX5_now_77 : decode cX5_now 77 = .ok (.ldc 55, 2) := by decide +kernel
theorem dX5_now_79 : decode cX5_now 79 = .ok (.invokevirtual 56, 3) := by decide +kernel
theorem dX5_now_82 : decode cX5_now 82 = .ok (.ireturn, 1) := by decide +kernel
theorem dX5_on_0 : decode cX5_on 0 = .ok (.aload_n 0, 1) := by decide +kernel
theorem dX5_on_1 : decode cX5_on 1 = .ok (.iload_n 1, 1) := by decide +kernel
theorem dX5_on_2 : decode cX5_on 2 = .ok (.invokevirtual 73, 3) := by decide +kernel
theorem dX5_on_5 : decode cX5_on 5 = .ok (.ifCond .eq 21, 3) := by decide +kernel
theorem dX5_on_8 : decode cX5_on 8 = .ok (.iload_n 2, 1) := by decide +kernel
theorem dX5_on_9 : decode cX5_on 9 = .ok (.sipush 200, 3) := by decide +kernel
theorem dX5_on_12 : decode cX5_on 12 = .ok (.invokestatic 121, 3) := by decide +kernel
theorem dX5_on_15 : decode cX5_on 15 = .ok (.ifCond .eq 11, 3) := by decide +kernel
theorem dX5_on_18 : decode cX5_on 18 = .ok (.iload_n 3, 1) := by decide +kernel
theorem dX5_on_19 : decode cX5_on 19 = .ok (.iconst 1, 1) := by decide +kernel
theorem dX5_on_20 : decode cX5_on 20 = .ok (.invokestatic 121, 3) := by decide +kernel
theorem dX5_on_23 : decode cX5_on 23 = .ok (.ifCond .ne 10, 3) := by decide +kernel
theorem dX5_on_26 : decode cX5_on 26 = .ok (.aload_n 0, 1) := by decide +kernel
theorem dX5_on_27 : decode cX5_on 27 = .ok (.ldc 55, 2) := by decide +kernel
theorem dX5_on_29 : decode cX5_on 29 = .ok (.invokevirtual 56, 3) := by decide +kernel
theorem dX5_on_32 : decode cX5_on 32 = .ok (.ireturn, 1) := by decide +kernel
theorem dX5_on_33 : decode cX5_on 33 = .ok (.aload_n 0, 1) := by decide +kernel
theorem dX5_on_34 : decode cX5_on 34 = .ok (.iload_n 1, 1) := by decide +kernel
theorem dX5_on_35 : decode cX5_on 35 = .ok (.invokevirtual 148, 3) := by decide +kernel
theorem dX5_on_38 : decode cX5_on 38 = .ok (.astore 4, 2) := by decide +kernel
theorem dX5_on_40 : decode cX5_on 40 = .ok (.aload 4, 2) := by decide +kernel
theorem dX5_on_42 : decode cX5_on 42 = .ok (.iload_n 2, 1) := by decide +kernel
theorem dX5_on_43 : decode cX5_on 43 = .ok (.invokevirtual 151, 3) := by decide +kernel
theorem dX5_on_46 : decode cX5_on 46 = .ok (.iload_n 3, 1) := by decide +kernel
theorem dX5_on_47 : decode cX5_on 47 = .ok (.ifCond .ne 11, 3) := by decide +kernel
theorem dX5_on_50 : decode cX5_on 50 = .ok (.aload 4, 2) := by decide +kernel
theorem dX5_on_52 : decode cX5_on 52 = .ok (.getfield 98, 3) := by decide +kernel
theorem dX5_on_55 : decode cX5_on 55 = .ok (.goto 8, 3) := by decide +kernel
theorem dX5_on_58 : decode cX5_on 58 = .ok (.aload 4, 2) := by decide +kernel
theorem dX5_on_60 : decode cX5_on 60 = .ok (.getfield 152, 3) := by decide +kernel
theorem dX5_on_63 : decode cX5_on 63 = .ok (.ireturn, 1) := by decide +kernel
theorem dX5_then_0 : decode cX5_then 0 = .ok (.aload_n 0, 1) := by decide +kernel
theorem dX5_then_1 : decode cX5_then 1 = .ok (.iload_n 1, 1) := by decide +kernel
theorem dX5_then_2 : decode cX5_then 2 = .ok (.iload_n 2, 1) := by decide +kernel
theorem dX5_then_3 : decode cX5_then 3 = .ok (.invokevirtual 111, 3) := by decide +kernel
theorem dX5_then_6 : decode cX5_then 6 = .ok (.ifCond .eq 13, 3) := by decide +kernel
theorem dX5_then_9 : decode cX5_then 9 = .ok (.iload_n 3, 1) := by decide +kernel
theorem dX5_then_10 : decode cX5_then 10 = .ok (.sipush 200, 3) := by decide +kernel
theorem dX5_then_13 : decode cX5_then 13 = .ok (.invokestatic 121, 3) := by decide +kernel
theorem dX5_then_16 : decode cX5_then 16 = .ok (.ifCond .ne 10, 3) := by decide +kernel
theorem dX5_then_19 : decode cX5_then 19 = .ok (.aload_n 0, 1) := by decide +kernel
theorem dX5_then_20 : decode cX5_then 20 = .ok (.ldc 55, 2) := by decide +kernel
theorem dX5_then_22 : decode cX5_then 22 = .ok (.invokevirtual 56, 3) := by decide +kernel
theorem dX5_then_25 : decode cX5_then 25 = .ok (.ireturn, 1) := by decide +kernel
theorem dX5_then_26 : decode cX5_then 26 = .ok (.aload_n 0, 1) := by decide +kernel
theorem dX5_then_27 : decode cX5_then 27 = .ok (.iload_n 1, 1) := by decide +kernel
theorem dX5_then_28 : decode cX5_then 28 = .ok (.invokevirtual 148, 3) := by decide +kernel
theorem dX5_then_31 : decode cX5_then 31 = .ok (.astore 4, 2) := by decide +kernel
theorem dX5_then_33 : decode cX5_then 33 = .ok (.aload 4, 2) := by decide +kernel
theorem dX5_then_35 : decode cX5_then 35 = .ok (.iload_n 3, 1) := by decide +kernel
theorem dX5_then_36 : decode cX5_then 36 = .ok (.invokevirtual 151, 3) := by decide +kernel
theorem dX5_then_39 : decode cX5_then 39 = .ok (.aload 4, 2) := by decide +kernel
theorem dX5_then_41 : decode cX5_then 41 = .ok (.iload_n 2, 1) := by decide +kernel
theorem dX5_then_42 : decode cX5_then 42 = .ok (.invokevirtual 118, 3) := by decide +kernel
theorem dX5_then_45 : decode cX5_then 45 = .ok (.ireturn, 1) := by decide +kernel
theorem dX5_forgives_0 : decode cX5_forgives 0 = .ok (.aload_n 0, 1) := by decide +kernel
theorem dX5_forgives_1 : decode cX5_forgives 1 = .ok (.iload_n 1, 1) := by decide +kernel
theorem dX5_forgives_2 : decode cX5_forgives 2 = .ok (.invokevirtual 73, 3) := by decide +kernel
theorem dX5_forgives_5 : decode cX5_forgives 5 = .ok (.ifCond .ne 10, 3) := by decide +kernel
theorem dX5_forgives_8 : decode cX5_forgives 8 = .ok (.aload_n 0, 1) := by decide +kernel
theorem dX5_forgives_9 : decode cX5_forgives 9 = .ok (.ldc 55, 2) := by decide +kernel
theorem dX5_forgives_11 : decode cX5_forgives 11 = .ok (.invokevirtual 56, 3) := by decide +kernel
theorem dX5_forgives_14 : decode cX5_forgives 14 = .ok (.ireturn, 1) := by decide +kernel
theorem dX5_forgives_15 : decode cX5_forgives 15 = .ok (.aload_n 0, 1) := by decide +kernel
theorem dX5_forgives_16 : decode cX5_forgives 16 = .ok (.aload_n 0, 1) := by decide +kernel
theorem dX5_forgives_17 : decode cX5_forgives 17 = .ok (.iload_n 1, 1) := by decide +kernel
theorem dX5_forgives_18 : decode cX5_forgives 18 = .ok (.invokevirtual 148, 3) := by decide +kernel
theorem dX5_forgives_21 : decode cX5_forgives 21 = .ok (.invokestatic 155, 3) := by decide +kernel
theorem dX5_forgives_24 : decode cX5_forgives 24 = .ok (.invokevirtual 159, 3) := by decide +kernel
theorem dX5_forgives_27 : decode cX5_forgives 27 = .ok (.ireturn, 1) := by decide +kernel
theorem dX5_worn_0 : decode cX5_worn 0 = .ok (.aload_n 0, 1) := by decide +kernel
theorem dX5_worn_1 : decode cX5_worn 1 = .ok (.iload_n 1, 1) := by decide +kernel
theorem dX5_worn_2 : decode cX5_worn 2 = .ok (.invokevirtual 73, 3) := by decide +kernel
theorem dX5_worn_5 : decode cX5_worn 5 = .ok (.ifCond .ne 10, 3) := by decide +kernel
theorem dX5_worn_8 : decode cX5_worn 8 = .ok (.aload_n 0, 1) := by decide +kernel
theorem dX5_worn_9 : decode cX5_worn 9 = .ok (.ldc 55, 2) := by decide +kernel
theorem dX5_worn_11 : decode cX5_worn 11 = .ok (.invokevirtual 56, 3) := by decide +kernel
theorem dX5_worn_14 : decode cX5_worn 14 = .ok (.ireturn, 1) := by decide +kernel
theorem dX5_worn_15 : decode cX5_worn 15 = .ok (.aload_n 0, 1) := by decide +kernel
theorem dX5_worn_16 : decode cX5_worn 16 = .ok (.aload_n 0, 1) := by decide +kernel
theorem dX5_worn_17 : decode cX5_worn 17 = .ok (.iload_n 1, 1) := by decide +kernel
theorem dX5_worn_18 : decode cX5_worn 18 = .ok (.invokevirtual 148, 3) := by decide +kernel
theorem dX5_worn_21 : decode cX5_worn 21 = .ok (.invokestatic 162, 3) := by decide +kernel
theorem dX5_worn_24 : decode cX5_worn 24 = .ok (.invokevirtual 159, 3) := by decide +kernel
theorem dX5_worn_27 : decode cX5_worn 27 = .ok (.ireturn, 1) := by decide +kernel
theorem dX5_unseen_0 : decode cX5_unseen 0 = .ok (.aload_n 0, 1) := by decide +kernel
theorem dX5_unseen_1 : decode cX5_unseen 1 = .ok (.iload_n 1, 1) := by decide +kernel
theorem dX5_unseen_2 : decode cX5_unseen 2 = .ok (.invokevirtual 73, 3) := by decide +kernel
theorem dX5_unseen_5 : decode cX5_unseen 5 = .ok (.ifCond .ne 10, 3) := by decide +kernel
theorem dX5_unseen_8 : decode cX5_unseen 8 = .ok (.aload_n 0, 1) := by decide +kernel
theorem dX5_unseen_9 : decode cX5_unseen 9 = .ok (.ldc 55, 2) := by decide +kernel
theorem dX5_unseen_11 : decode cX5_unseen 11 = .ok (.invokevirtual 56, 3) := by decide +kernel
theorem dX5_unseen_14 : decode cX5_unseen 14 = .ok (.ireturn, 1) := by decide +kernel
theorem dX5_unseen_15 : decode cX5_unseen 15 = .ok (.aload_n 0, 1) := by decide +kernel
theorem dX5_unseen_16 : decode cX5_unseen 16 = .ok (.getfield 19, 3) := by decide +kernel
theorem dX5_unseen_19 : decode cX5_unseen 19 = .ok (.aload_n 0, 1) := by decide +kernel
theorem dX5_unseen_20 : decode cX5_unseen 20 = .ok (.getfield 12, 3) := by decide +kernel
theorem dX5_unseen_23 : decode cX5_unseen 23 = .ok (.invokevirtual 165, 3) := by decide +kernel
theorem dX5_unseen_26 : decode cX5_unseen 26 = .ok (.aload_n 0, 1) := by decide +kernel
theorem dX5_unseen_27 : decode cX5_unseen 27 = .ok (.aload_n 0, 1) := by decide +kernel
theorem dX5_unseen_28 : decode cX5_unseen 28 = .ok (.getfield 19, 3) := by decide +kernel
theorem dX5_unseen_31 : decode cX5_unseen 31 = .ok (.iload_n 1, 1) := by decide +kernel
theorem dX5_unseen_32 : decode cX5_unseen 32 = .ok (.invokestatic 169, 3) := by decide +kernel
theorem dX5_unseen_35 : decode cX5_unseen 35 = .ok (.invokevirtual 159, 3) := by decide +kernel
theorem dX5_unseen_38 : decode cX5_unseen 38 = .ok (.ireturn, 1) := by decide +kernel
theorem dX5_borrow_0 : decode cX5_borrow 0 = .ok (.aload_n 0, 1) := by decide +kernel
theorem dX5_borrow_1 : decode cX5_borrow 1 = .ok (.iload_n 1, 1) := by decide +kernel
theorem dX5_borrow_2 : decode cX5_borrow 2 = .ok (.invokevirtual 73, 3) := by decide +kernel
theorem dX5_borrow_5 : decode cX5_borrow 5 = .ok (.ifCond .ne 10, 3) := by decide +kernel
theorem dX5_borrow_8 : decode cX5_borrow 8 = .ok (.aload_n 0, 1) := by decide +kernel
theorem dX5_borrow_9 : decode cX5_borrow 9 = .ok (.ldc 55, 2) := by decide +kernel
theorem dX5_borrow_11 : decode cX5_borrow 11 = .ok (.invokevirtual 56, 3) := by decide +kernel
theorem dX5_borrow_14 : decode cX5_borrow 14 = .ok (.ireturn, 1) := by decide +kernel
theorem dX5_borrow_15 : decode cX5_borrow 15 = .ok (.aload_n 0, 1) := by decide +kernel
theorem dX5_borrow_16 : decode cX5_borrow 16 = .ok (.iload_n 1, 1) := by decide +kernel
theorem dX5_borrow_17 : decode cX5_borrow 17 = .ok (.invokevirtual 148, 3) := by decide +kernel
theorem dX5_borrow_20 : decode cX5_borrow 20 = .ok (.invokestatic 155, 3) := by decide +kernel
theorem dX5_borrow_23 : decode cX5_borrow 23 = .ok (.istore_n 2, 1) := by decide +kernel
theorem dX5_borrow_24 : decode cX5_borrow 24 = .ok (.iconst (-1), 1) := by decide +kernel
theorem dX5_borrow_25 : decode cX5_borrow 25 = .ok (.istore_n 3, 1) := by decide +kernel
theorem dX5_borrow_26 : decode cX5_borrow 26 = .ok (.iconst 0, 1) := by decide +kernel
theorem dX5_borrow_27 : decode cX5_borrow 27 = .ok (.istore 4, 2) := by decide +kernel
theorem dX5_borrow_29 : decode cX5_borrow 29 = .ok (.iload 4, 2) := by decide +kernel
theorem dX5_borrow_31 : decode cX5_borrow 31 = .ok (.aload_n 0, 1) := by decide +kernel
theorem dX5_borrow_32 : decode cX5_borrow 32 = .ok (.getfield 12, 3) := by decide +kernel
theorem dX5_borrow_35 : decode cX5_borrow 35 = .ok (.getfield 173, 3) := by decide +kernel
theorem dX5_borrow_38 : decode cX5_borrow 38 = .ok (.if_icmp .ge 50, 3) := by decide +kernel
theorem dX5_borrow_41 : decode cX5_borrow 41 = .ok (.aload_n 0, 1) := by decide +kernel
theorem dX5_borrow_42 : decode cX5_borrow 42 = .ok (.iload_n 1, 1) := by decide +kernel
theorem dX5_borrow_43 : decode cX5_borrow 43 = .ok (.invokevirtual 148, 3) := by decide +kernel
theorem dX5_borrow_46 : decode cX5_borrow 46 = .ok (.astore 5, 2) := by decide +kernel
theorem dX5_borrow_48 : decode cX5_borrow 48 = .ok (.aload 5, 2) := by decide +kernel
theorem dX5_borrow_50 : decode cX5_borrow 50 = .ok (.aload_n 0, 1) := by decide +kernel
theorem dX5_borrow_51 : decode cX5_borrow 51 = .ok (.getfield 12, 3) := by decide +kernel
theorem dX5_borrow_54 : decode cX5_borrow 54 = .ok (.getfield 76, 3) := by decide +kernel
theorem dX5_borrow_57 : decode cX5_borrow 57 = .ok (.iload 4, 2) := by decide +kernel
theorem dX5_borrow_59 : decode cX5_borrow 59 = .ok (.aaload, 1) := by decide +kernel
theorem dX5_borrow_60 : decode cX5_borrow 60 = .ok (.invokevirtual 114, 3) := by decide +kernel
theorem dX5_borrow_63 : decode cX5_borrow 63 = .ok (.aload 5, 2) := by decide +kernel
theorem dX5_borrow_65 : decode cX5_borrow 65 = .ok (.invokestatic 155, 3) := by decide +kernel
theorem dX5_borrow_68 : decode cX5_borrow 68 = .ok (.istore 6, 2) := by decide +kernel
theorem dX5_borrow_70 : decode cX5_borrow 70 = .ok (.iload 6, 2) := by decide +kernel
theorem dX5_borrow_72 : decode cX5_borrow 72 = .ok (.iload_n 2, 1) := by decide +kernel
theorem dX5_borrow_73 : decode cX5_borrow 73 = .ok (.if_icmp .ge 9, 3) := by decide +kernel
theorem dX5_borrow_76 : decode cX5_borrow 76 = .ok (.iload 6, 2) := by decide +kernel
theorem dX5_borrow_78 : decode cX5_borrow 78 = .ok (.istore_n 2, 1) := by decide +kernel
theorem dX5_borrow_79 : decode cX5_borrow 79 = .ok (.iload 4, 2) := by decide +kernel
theorem dX5_borrow_81 : decode cX5_borrow 81 = .ok (.istore_n 3, 1) := by decide +kernel
theorem dX5_borrow_82 : decode cX5_borrow 82 = .ok (.iinc 4 1, 3) := by decide +kernel
theorem dX5_borrow_85 : decode cX5_borrow 85 = .ok (.goto (-56), 3) := by decide +kernel
theorem dX5_borrow_88 : decode cX5_borrow 88 = .ok (.iload_n 3, 1) := by decide +kernel
theorem dX5_borrow_89 : decode cX5_borrow 89 = .ok (.iconst (-1), 1) := by decide +kernel
theorem dX5_borrow_90 : decode cX5_borrow 90 = .ok (.if_icmp .ne 12, 3) := by decide +kernel
theorem dX5_borrow_93 : decode cX5_borrow 93 = .ok (.aload_n 0, 1) := by decide +kernel
theorem dX5_borrow_94 : decode cX5_borrow 94 = .ok (.ldc 176, 2) := by decide +kernel
theorem dX5_borrow_96 : decode cX5_borrow 96 = .ok (.invokevirtual 56, 3) := by decide +kernel
theorem dX5_borrow_99 : decode cX5_borrow 99 = .ok (.goto 4, 3) := by decide +kernel
theorem dX5_borrow_102 : decode cX5_borrow 102 = .ok (.iload_n 3, 1) := by decide +kernel
theorem dX5_borrow_103 : decode cX5_borrow 103 = .ok (.ireturn, 1) := by decide +kernel
theorem dX5_kind_0 : decode cX5_kind 0 = .ok (.aload_n 0, 1) := by decide +kernel
theorem dX5_kind_1 : decode cX5_kind 1 = .ok (.iload_n 1, 1) := by decide +kernel
theorem dX5_kind_2 : decode cX5_kind 2 = .ok (.invokevirtual 73, 3) := by decide +kernel
theorem dX5_kind_5 : decode cX5_kind 5 = .ok (.ifCond .ne 10, 3) := by decide +kernel
theorem dX5_kind_8 : decode cX5_kind 8 = .ok (.aload_n 0, 1) := by decide +kernel
theorem dX5_kind_9 : decode cX5_kind 9 = .ok (.ldc 55, 2) := by decide +kernel
theorem dX5_kind_11 : decode cX5_kind 11 = .ok (.invokevirtual 56, 3) := by decide +kernel
theorem dX5_kind_14 : decode cX5_kind 14 = .ok (.ireturn, 1) := by decide +kernel
theorem dX5_kind_15 : decode cX5_kind 15 = .ok (.sipush 201, 3) := by decide +kernel
theorem dX5_kind_18 : decode cX5_kind 18 = .ok (.istore_n 2, 1) := by decide +kernel
theorem dX5_kind_19 : decode cX5_kind 19 = .ok (.iconst (-1), 1) := by decide +kernel
theorem dX5_kind_20 : decode cX5_kind 20 = .ok (.istore_n 3, 1) := by decide +kernel
theorem dX5_kind_21 : decode cX5_kind 21 = .ok (.iconst 0, 1) := by decide +kernel
theorem dX5_kind_22 : decode cX5_kind 22 = .ok (.istore 4, 2) := by decide +kernel
theorem dX5_kind_24 : decode cX5_kind 24 = .ok (.iload 4, 2) := by decide +kernel
theorem dX5_kind_26 : decode cX5_kind 26 = .ok (.bipush 6, 2) := by decide +kernel
theorem dX5_kind_28 : decode cX5_kind 28 = .ok (.if_icmp .ge 42, 3) := by decide +kernel
theorem dX5_kind_31 : decode cX5_kind 31 = .ok (.aload_n 0, 1) := by decide +kernel
theorem dX5_kind_32 : decode cX5_kind 32 = .ok (.iload_n 1, 1) := by decide +kernel
theorem dX5_kind_33 : decode cX5_kind 33 = .ok (.invokevirtual 148, 3) := by decide +kernel
theorem dX5_kind_36 : decode cX5_kind 36 = .ok (.astore 5, 2) := by decide +kernel
theorem dX5_kind_38 : decode cX5_kind 38 = .ok (.aload 5, 2) := by decide +kernel
theorem dX5_kind_40 : decode cX5_kind 40 = .ok (.iload 4, 2) := by decide +kernel
theorem dX5_kind_42 : decode cX5_kind 42 = .ok (.putfield 91, 3) := by decide +kernel
theorem dX5_kind_45 : decode cX5_kind 45 = .ok (.aload 5, 2) := by decide +kernel
theorem dX5_kind_47 : decode cX5_kind 47 = .ok (.invokestatic 155, 3) := by decide +kernel
theorem dX5_kind_50 : decode cX5_kind 50 = .ok (.istore 6, 2) := by decide +kernel
theorem dX5_kind_52 : decode cX5_kind 52 = .ok (.iload 6, 2) := by decide +kernel
theorem dX5_kind_54 : decode cX5_kind 54 = .ok (.iload_n 2, 1) := by decide +kernel
theorem dX5_kind_55 : decode cX5_kind 55 = .ok (.if_icmp .ge 9, 3) := by decide +kernel
theorem dX5_kind_58 : decode cX5_kind 58 = .ok (.iload 6, 2) := by decide +kernel
theorem dX5_kind_60 : decode cX5_kind 60 = .ok (.istore_n 2, 1) := by decide +kernel
theorem dX5_kind_61 : decode cX5_kind 61 = .ok (.iload 4, 2) := by decide +kernel
theorem dX5_kind_63 : decode cX5_kind 63 = .ok (.istore_n 3, 1) := by decide +kernel
theorem dX5_kind_64 : decode cX5_kind 64 = .ok (.iinc 4 1, 3) := by decide +kernel
theorem dX5_kind_67 : decode cX5_kind 67 = .ok (.goto (-43), 3) := by decide +kernel
theorem dX5_kind_70 : decode cX5_kind 70 = .ok (.iload_n 3, 1) := by decide +kernel
theorem dX5_kind_71 : decode cX5_kind 71 = .ok (.iconst (-1), 1) := by decide +kernel
theorem dX5_kind_72 : decode cX5_kind 72 = .ok (.if_icmp .ne 12, 3) := by decide +kernel
theorem dX5_kind_75 : decode cX5_kind 75 = .ok (.aload_n 0, 1) := by decide +kernel
theorem dX5_kind_76 : decode cX5_kind 76 = .ok (.ldc 176, 2) := by decide +kernel
theorem dX5_kind_78 : decode cX5_kind 78 = .ok (.invokevirtual 56, 3) := by decide +kernel
theorem dX5_kind_81 : decode cX5_kind 81 = .ok (.goto 4, 3) := by decide +kernel
theorem dX5_kind_84 : decode cX5_kind 84 = .ok (.iload_n 3, 1) := by decide +kernel
theorem dX5_kind_85 : decode cX5_kind 85 = .ok (.ireturn, 1) := by decide +kernel
theorem dX5_better_0 : decode cX5_better 0 = .ok (.aload_n 0, 1) := by decide +kernel
theorem dX5_better_1 : decode cX5_better 1 = .ok (.iload_n 1, 1) := by decide +kernel
theorem dX5_better_2 : decode cX5_better 2 = .ok (.invokevirtual 73, 3) := by decide +kernel
theorem dX5_better_5 : decode cX5_better 5 = .ok (.ifCond .eq 14, 3) := by decide +kernel
theorem dX5_better_8 : decode cX5_better 8 = .ok (.iload_n 2, 1) := by decide +kernel
theorem dX5_better_9 : decode cX5_better 9 = .ok (.iconst 1, 1) := by decide +kernel
theorem dX5_better_10 : decode cX5_better 10 = .ok (.if_icmp .lt 9, 3) := by decide +kernel
theorem dX5_better_13 : decode cX5_better 13 = .ok (.iload_n 2, 1) := by decide +kernel
theorem dX5_better_14 : decode cX5_better 14 = .ok (.bipush 60, 2) := by decide +kernel
theorem dX5_better_16 : decode cX5_better 16 = .ok (.if_icmp .le 10, 3) := by decide +kernel
theorem dX5_better_19 : decode cX5_better 19 = .ok (.aload_n 0, 1) := by decide +kernel
theorem dX5_better_20 : decode cX5_better 20 = .ok (.ldc 55, 2) := by decide +kernel
theorem dX5_better_22 : decode cX5_better 22 = .ok (.invokevirtual 56, 3) := by decide +kernel
theorem dX5_better_25 : decode cX5_better 25 = .ok (.ireturn, 1) := by decide +kernel
theorem dX5_better_26 : decode cX5_better 26 = .ok (.bipush 100, 2) := by decide +kernel
theorem dX5_better_28 : decode cX5_better 28 = .ok (.istore_n 3, 1) := by decide +kernel
theorem dX5_better_29 : decode cX5_better 29 = .ok (.iconst (-1), 1) := by decide +kernel
theorem dX5_better_30 : decode cX5_better 30 = .ok (.istore 4, 2) := by decide +kernel
theorem dX5_better_32 : decode cX5_better 32 = .ok (.iconst (-1), 1) := by decide +kernel
theorem dX5_better_33 : decode cX5_better 33 = .ok (.istore 5, 2) := by decide +kernel
theorem dX5_better_35 : decode cX5_better 35 = .ok (.iload 5, 2) := by decide +kernel
theorem dX5_better_37 : decode cX5_better 37 = .ok (.aload_n 0, 1) := by decide +kernel
theorem dX5_better_38 : decode cX5_better 38 = .ok (.getfield 12, 3) := by decide +kernel
theorem dX5_better_41 : decode cX5_better 41 = .ok (.getfield 173, 3) := by decide +kernel
theorem dX5_better_44 : decode cX5_better 44 = .ok (.if_icmp .ge 48, 3) := by decide +kernel
theorem dX5_better_47 : decode cX5_better 47 = .ok (.aload_n 0, 1) := by decide +kernel
theorem dX5_better_48 : decode cX5_better 48 = .ok (.iload_n 1, 1) := by decide +kernel
theorem dX5_better_49 : decode cX5_better 49 = .ok (.invokevirtual 148, 3) := by decide +kernel
theorem dX5_better_52 : decode cX5_better 52 = .ok (.astore 6, 2) := by decide +kernel
theorem dX5_better_54 : decode cX5_better 54 = .ok (.aload 6, 2) := by decide +kernel
theorem dX5_better_56 : decode cX5_better 56 = .ok (.iload 5, 2) := by decide +kernel
theorem dX5_better_58 : decode cX5_better 58 = .ok (.putfield 101, 3) := by decide +kernel
theorem dX5_better_61 : decode cX5_better 61 = .ok (.aload 6, 2) := by decide +kernel
theorem dX5_better_63 : decode cX5_better 63 = .ok (.iload_n 2, 1) := by decide +kernel
theorem dX5_better_64 : decode cX5_better 64 = .ok (.invokevirtual 151, 3) := by decide +kernel
theorem dX5_better_67 : decode cX5_better 67 = .ok (.aload 6, 2) := by decide +kernel
theorem dX5_better_69 : decode cX5_better 69 = .ok (.getfield 98, 3) := by decide +kernel
theorem dX5_better_72 : decode cX5_better 72 = .ok (.iload_n 3, 1) := by decide +kernel
theorem dX5_better_73 : decode cX5_better 73 = .ok (.if_icmp .ge 13, 3) := by decide +kernel
theorem dX5_better_76 : decode cX5_better 76 = .ok (.aload 6, 2) := by decide +kernel
theorem dX5_better_78 : decode cX5_better 78 = .ok (.getfield 98, 3) := by decide +kernel
theorem dX5_better_81 : decode cX5_better 81 = .ok (.istore_n 3, 1) := by decide +kernel
theorem dX5_better_82 : decode cX5_better 82 = .ok (.iload 5, 2) := by decide +kernel
theorem dX5_better_84 : decode cX5_better 84 = .ok (.istore 4, 2) := by decide +kernel
theorem dX5_better_86 : decode cX5_better 86 = .ok (.iinc 5 1, 3) := by decide +kernel
theorem dX5_better_89 : decode cX5_better 89 = .ok (.goto (-54), 3) := by decide +kernel
theorem dX5_better_92 : decode cX5_better 92 = .ok (.iconst 1, 1) := by decide +kernel
theorem dX5_better_93 : decode cX5_better 93 = .ok (.iload 4, 2) := by decide +kernel
theorem dX5_better_95 : decode cX5_better 95 = .ok (.iadd, 1) := by decide +kernel
theorem dX5_better_96 : decode cX5_better 96 = .ok (.ireturn, 1) := by decide +kernel
theorem dX5_most_0 : decode cX5_most 0 = .ok (.aload_n 0, 1) := by decide +kernel
theorem dX5_most_1 : decode cX5_most 1 = .ok (.iload_n 1, 1) := by decide +kernel
theorem dX5_most_2 : decode cX5_most 2 = .ok (.invokevirtual 73, 3) := by decide +kernel
theorem dX5_most_5 : decode cX5_most 5 = .ok (.ifCond .eq 14, 3) := by decide +kernel
theorem dX5_most_8 : decode cX5_most 8 = .ok (.iload_n 2, 1) := by decide +kernel
theorem dX5_most_9 : decode cX5_most 9 = .ok (.iconst 1, 1) := by decide +kernel
theorem dX5_most_10 : decode cX5_most 10 = .ok (.if_icmp .lt 9, 3) := by decide +kernel
theorem dX5_most_13 : decode cX5_most 13 = .ok (.iload_n 2, 1) := by decide +kernel
theorem dX5_most_14 : decode cX5_most 14 = .ok (.bipush 60, 2) := by decide +kernel
theorem dX5_most_16 : decode cX5_most 16 = .ok (.if_icmp .le 10, 3) := by decide +kernel
theorem dX5_most_19 : decode cX5_most 19 = .ok (.aload_n 0, 1) := by decide +kernel
theorem dX5_most_20 : decode cX5_most 20 = .ok (.ldc 55, 2) := by decide +kernel
theorem dX5_most_22 : decode cX5_most 22 = .ok (.invokevirtual 56, 3) := by decide +kernel
theorem dX5_most_25 : decode cX5_most 25 = .ok (.ireturn, 1) := by decide +kernel
theorem dX5_most_26 : decode cX5_most 26 = .ok (.bipush 99, 2) := by decide +kernel
theorem dX5_most_28 : decode cX5_most 28 = .ok (.istore_n 3, 1) := by decide +kernel
theorem dX5_most_29 : decode cX5_most 29 = .ok (.iload_n 3, 1) := by decide +kernel
theorem dX5_most_30 : decode cX5_most 30 = .ok (.ifCond .lt 38, 3) := by decide +kernel
theorem dX5_most_33 : decode cX5_most 33 = .ok (.aload_n 0, 1) := by decide +kernel
theorem dX5_most_34 : decode cX5_most 34 = .ok (.iload_n 1, 1) := by decide +kernel
theorem dX5_most_35 : decode cX5_most 35 = .ok (.invokevirtual 148, 3) := by decide +kernel
theorem dX5_most_38 : decode cX5_most 38 = .ok (.astore 4, 2) := by decide +kernel
theorem dX5_most_40 : decode cX5_most 40 = .ok (.aload 4, 2) := by decide +kernel
theorem dX5_most_42 : decode cX5_most 42 = .ok (.iload_n 3, 1) := by decide +kernel
theorem dX5_most_43 : decode cX5_most 43 = .ok (.putfield 98, 3) := by decide +kernel
theorem dX5_most_46 : decode cX5_most 46 = .ok (.aload 4, 2) := by decide +kernel
theorem dX5_most_48 : decode cX5_most 48 = .ok (.iload_n 2, 1) := by decide +kernel
theorem dX5_most_49 : decode cX5_most 49 = .ok (.invokevirtual 151, 3) := by decide +kernel
theorem dX5_most_52 : decode cX5_most 52 = .ok (.aload 4, 2) := by decide +kernel
theorem dX5_most_54 : decode cX5_most 54 = .ok (.getfield 98, 3) := by decide +kernel
theorem dX5_most_57 : decode cX5_most 57 = .ok (.ifCond .ne 5, 3) := by decide +kernel
theorem dX5_most_60 : decode cX5_most 60 = .ok (.iload_n 3, 1) := by decide +kernel
theorem dX5_most_61 : decode cX5_most 61 = .ok (.ireturn, 1) := by decide +kernel
theorem dX5_most_62 : decode cX5_most 62 = .ok (.iinc 3 (-1), 3) := by decide +kernel
theorem dX5_most_65 : decode cX5_most 65 = .ok (.goto (-36), 3) := by decide +kernel
theorem dX5_most_68 : decode cX5_most 68 = .ok (.aload_n 0, 1) := by decide +kernel
theorem dX5_most_69 : decode cX5_most 69 = .ok (.ldc 176, 2) := by decide +kernel
theorem dX5_most_71 : decode cX5_most 71 = .ok (.invokevirtual 56, 3) := by decide +kernel
theorem dX5_most_74 : decode cX5_most 74 = .ok (.ireturn, 1) := by decide +kernel
theorem dX5_sharpest_0 : decode cX5_sharpest 0 = .ok (.iload_n 1, 1) := by decide +kernel
theorem dX5_sharpest_1 : decode cX5_sharpest 1 = .ok (.bipush 100, 2) := by decide +kernel
theorem dX5_sharpest_3 : decode cX5_sharpest 3 = .ok (.invokestatic 121, 3) := by decide +kernel
theorem dX5_sharpest_6 : decode cX5_sharpest 6 = .ok (.ifCond .ne 10, 3) := by decide +kernel
theorem dX5_sharpest_9 : decode cX5_sharpest 9 = .ok (.aload_n 0, 1) := by decide +kernel
theorem dX5_sharpest_10 : decode cX5_sharpest 10 = .ok (.ldc 55, 2) := by decide +kernel
theorem dX5_sharpest_12 : decode cX5_sharpest 12 = .ok (.invokevirtual 56, 3) := by decide +kernel
theorem dX5_sharpest_15 : decode cX5_sharpest 15 = .ok (.ireturn, 1) := by decide +kernel
theorem dX5_sharpest_16 : decode cX5_sharpest 16 = .ok (.aload_n 0, 1) := by decide +kernel
theorem dX5_sharpest_17 : decode cX5_sharpest 17 = .ok (.getfield 12, 3) := by decide +kernel
theorem dX5_sharpest_20 : decode cX5_sharpest 20 = .ok (.getfield 173, 3) := by decide +kernel
theorem dX5_sharpest_23 : decode cX5_sharpest 23 = .ok (.ifCond .ne 10, 3) := by decide +kernel
theorem dX5_sharpest_26 : decode cX5_sharpest 26 = .ok (.aload_n 0, 1) := by decide +kernel
theorem dX5_sharpest_27 : decode cX5_sharpest 27 = .ok (.ldc 176, 2) := by decide +kernel
theorem dX5_sharpest_29 : decode cX5_sharpest 29 = .ok (.invokevirtual 56, 3) := by decide +kernel
theorem dX5_sharpest_32 : decode cX5_sharpest 32 = .ok (.ireturn, 1) := by decide +kernel
theorem dX5_sharpest_33 : decode cX5_sharpest 33 = .ok (.aload_n 0, 1) := by decide +kernel
theorem dX5_sharpest_34 : decode cX5_sharpest 34 = .ok (.getfield 19, 3) := by decide +kernel
theorem dX5_sharpest_37 : decode cX5_sharpest 37 = .ok (.aload_n 0, 1) := by decide +kernel
theorem dX5_sharpest_38 : decode cX5_sharpest 38 = .ok (.getfield 12, 3) := by decide +kernel
theorem dX5_sharpest_41 : decode cX5_sharpest 41 = .ok (.invokevirtual 165, 3) := by decide +kernel
theorem dX5_sharpest_44 : decode cX5_sharpest 44 = .ok (.aload_n 0, 1) := by decide +kernel
theorem dX5_sharpest_45 : decode cX5_sharpest 45 = .ok (.getfield 19, 3) := by decide +kernel
theorem dX5_sharpest_48 : decode cX5_sharpest 48 = .ok (.iload_n 1, 1) := by decide +kernel
theorem dX5_sharpest_49 : decode cX5_sharpest 49 = .ok (.invokevirtual 131, 3) := by decide +kernel
theorem dX5_sharpest_52 : decode cX5_sharpest 52 = .ok (.aload_n 0, 1) := by decide +kernel
theorem dX5_sharpest_53 : decode cX5_sharpest 53 = .ok (.getfield 19, 3) := by decide +kernel
theorem dX5_sharpest_56 : decode cX5_sharpest 56 = .ok (.invokevirtual 177, 3) := by decide +kernel
theorem dX5_sharpest_59 : decode cX5_sharpest 59 = .ok (.ireturn, 1) := by decide +kernel
theorem dX5_push_0 : decode cX5_push 0 = .ok (.aload_n 0, 1) := by decide +kernel
theorem dX5_push_1 : decode cX5_push 1 = .ok (.getfield 12, 3) := by decide +kernel
theorem dX5_push_4 : decode cX5_push 4 = .ok (.getfield 173, 3) := by decide +kernel
theorem dX5_push_7 : decode cX5_push 7 = .ok (.iconst 2, 1) := by decide +kernel
theorem dX5_push_8 : decode cX5_push 8 = .ok (.if_icmp .ge 10, 3) := by decide +kernel
theorem dX5_push_11 : decode cX5_push 11 = .ok (.aload_n 0, 1) := by decide +kernel
theorem dX5_push_12 : decode cX5_push 12 = .ok (.ldc 176, 2) := by decide +kernel
theorem dX5_push_14 : decode cX5_push 14 = .ok (.invokevirtual 56, 3) := by decide +kernel
theorem dX5_push_17 : decode cX5_push 17 = .ok (.ireturn, 1) := by decide +kernel
theorem dX5_push_18 : decode cX5_push 18 = .ok (.aload_n 0, 1) := by decide +kernel
theorem dX5_push_19 : decode cX5_push 19 = .ok (.getfield 12, 3) := by decide +kernel
theorem dX5_push_22 : decode cX5_push 22 = .ok (.invokevirtual 180, 3) := by decide +kernel
theorem dX5_push_25 : decode cX5_push 25 = .ok (.aload_n 0, 1) := by decide +kernel
theorem dX5_push_26 : decode cX5_push 26 = .ok (.getfield 12, 3) := by decide +kernel
theorem dX5_push_29 : decode cX5_push 29 = .ok (.invokevirtual 183, 3) := by decide +kernel
theorem dX5_push_32 : decode cX5_push 32 = .ok (.istore_n 1, 1) := by decide +kernel
theorem dX5_push_33 : decode cX5_push 33 = .ok (.iconst 0, 1) := by decide +kernel
theorem dX5_push_34 : decode cX5_push 34 = .ok (.istore_n 2, 1) := by decide +kernel
theorem dX5_push_35 : decode cX5_push 35 = .ok (.iload_n 2, 1) := by decide +kernel
theorem dX5_push_36 : decode cX5_push 36 = .ok (.aload_n 0, 1) := by decide +kernel
theorem dX5_push_37 : decode cX5_push 37 = .ok (.getfield 12, 3) := by decide +kernel
theorem dX5_push_40 : decode cX5_push 40 = .ok (.invokevirtual 183, 3) := by decide +kernel
theorem dX5_push_43 : decode cX5_push 43 = .ok (.if_icmp .ge 50, 3) := by decide +kernel
theorem dX5_push_46 : decode cX5_push 46 = .ok (.iload_n 2, 1) := by decide +kernel
theorem dX5_push_47 : decode cX5_push 47 = .ok (.invokestatic 186, 3) := by decide +kernel
theorem dX5_push_50 : decode cX5_push 50 = .ok (.iload_n 1, 1) := by decide +kernel
theorem dX5_push_51 : decode cX5_push 51 = .ok (.invokestatic 186, 3) := by decide +kernel
theorem dX5_push_54 : decode cX5_push 54 = .ok (.if_icmp .ge 7, 3) := by decide +kernel
theorem dX5_push_57 : decode cX5_push 57 = .ok (.iconst 1, 1) := by decide +kernel
theorem dX5_push_58 : decode cX5_push 58 = .ok (.goto 4, 3) := by decide +kernel
theorem dX5_push_61 : decode cX5_push 61 = .ok (.iconst 0, 1) := by decide +kernel
theorem dX5_push_62 : decode cX5_push 62 = .ok (.istore_n 3, 1) := by decide +kernel
theorem dX5_push_63 : decode cX5_push 63 = .ok (.iload_n 3, 1) := by decide +kernel
theorem dX5_push_64 : decode cX5_push 64 = .ok (.ifCond .eq 23, 3) := by decide +kernel
theorem dX5_push_67 : decode cX5_push 67 = .ok (.aload_n 0, 1) := by decide +kernel
theorem dX5_push_68 : decode cX5_push 68 = .ok (.getfield 12, 3) := by decide +kernel
theorem dX5_push_71 : decode cX5_push 71 = .ok (.iload_n 2, 1) := by decide +kernel
theorem dX5_push_72 : decode cX5_push 72 = .ok (.invokevirtual 191, 3) := by decide +kernel
theorem dX5_push_75 : decode cX5_push 75 = .ok (.aload_n 0, 1) := by decide +kernel
theorem dX5_push_76 : decode cX5_push 76 = .ok (.getfield 12, 3) := by decide +kernel
theorem dX5_push_79 : decode cX5_push 79 = .ok (.invokevirtual 183, 3) := by decide +kernel
theorem dX5_push_82 : decode cX5_push 82 = .ok (.if_icmp .ne 5, 3) := by decide +kernel
theorem dX5_push_85 : decode cX5_push 85 = .ok (.iload_n 2, 1) := by decide +kernel
theorem dX5_push_86 : decode cX5_push 86 = .ok (.istore_n 1, 1) := by decide +kernel
theorem dX5_push_87 : decode cX5_push 87 = .ok (.iinc 2 1, 3) := by decide +kernel
theorem dX5_push_90 : decode cX5_push 90 = .ok (.goto (-55), 3) := by decide +kernel
theorem dX5_push_93 : decode cX5_push 93 = .ok (.iload_n 1, 1) := by decide +kernel
theorem dX5_push_94 : decode cX5_push 94 = .ok (.ireturn, 1) := by decide +kernel
theorem dX5_feed_0 : decode cX5_feed 0 = .ok (.iload_n 2, 1) := by decide +kernel
theorem dX5_feed_1 : decode cX5_feed 1 = .ok (.iconst 1, 1) := by decide +kernel
theorem dX5_feed_2 : decode cX5_feed 2 = .ok (.if_icmp .lt 8, 3) := by decide +kernel
theorem dX5_feed_5 : decode cX5_feed 5 = .ok (.iload_n 2, 1) := by decide +kernel
theorem dX5_feed_6 : decode cX5_feed 6 = .ok (.iconst 4, 1) := by decide +kernel
theorem dX5_feed_7 : decode cX5_feed 7 = .ok (.if_icmp .le 10, 3) := by decide +kernel
theorem dX5_feed_10 : decode cX5_feed 10 = .ok (.aload_n 0, 1) := by decide +kernel
theorem dX5_feed_11 : decode cX5_feed 11 = .ok (.ldc 55, 2) := by decide +kernel
theorem dX5_feed_13 : decode cX5_feed 13 = .ok (.invokevirtual 56, 3) := by decide +kernel
theorem dX5_feed_16 : decode cX5_feed 16 = .ok (.ireturn, 1) := by decide +kernel
theorem dX5_feed_17 : decode cX5_feed 17 = .ok (.aload_n 0, 1) := by decide +kernel
theorem dX5_feed_18 : decode cX5_feed 18 = .ok (.getfield 32, 3) := by decide +kernel
theorem dX5_feed_21 : decode cX5_feed 21 = .ok (.getfield 194, 3) := by decide +kernel
theorem dX5_feed_24 : decode cX5_feed 24 = .ok (.iload_n 2, 1) := by decide +kernel
theorem dX5_feed_25 : decode cX5_feed 25 = .ok (.iadd, 1) := by decide +kernel
theorem dX5_feed_26 : decode cX5_feed 26 = .ok (.bipush 120, 2) := by decide +kernel
theorem dX5_feed_28 : decode cX5_feed 28 = .ok (.if_icmp .le 10, 3) := by decide +kernel
theorem dX5_feed_31 : decode cX5_feed 31 = .ok (.aload_n 0, 1) := by decide +kernel
theorem dX5_feed_32 : decode cX5_feed 32 = .ok (.ldc 64, 2) := by decide +kernel
theorem dX5_feed_34 : decode cX5_feed 34 = .ok (.invokevirtual 56, 3) := by decide +kernel
theorem dX5_feed_37 : decode cX5_feed 37 = .ok (.ireturn, 1) := by decide +kernel
theorem dX5_feed_38 : decode cX5_feed 38 = .ok (.iload_n 2, 1) := by decide +kernel
theorem dX5_feed_39 : decode cX5_feed 39 = .ok (.iconst 1, 1) := by decide +kernel
theorem dX5_feed_40 : decode cX5_feed 40 = .ok (.isub, 1) := by decide +kernel
theorem dX5_feed_41 : decode cX5_feed 41 = .ok (.istore_n 3, 1) := by decide +kernel
theorem dX5_feed_42 : decode cX5_feed 42 = .ok (.iload_n 3, 1) := by decide +kernel
theorem dX5_feed_43 : decode cX5_feed 43 = .ok (.ifCond .lt 26, 3) := by decide +kernel
theorem dX5_feed_46 : decode cX5_feed 46 = .ok (.aload_n 0, 1) := by decide +kernel
theorem dX5_feed_47 : decode cX5_feed 47 = .ok (.getfield 32, 3) := by decide +kernel
theorem dX5_feed_50 : decode cX5_feed 50 = .ok (.iload_n 1, 1) := by decide +kernel
theorem dX5_feed_51 : decode cX5_feed 51 = .ok (.bipush 8, 2) := by decide +kernel
theorem dX5_feed_53 : decode cX5_feed 53 = .ok (.iload_n 3, 1) := by decide +kernel
theorem dX5_feed_54 : decode cX5_feed 54 = .ok (.imul, 1) := by decide +kernel
theorem dX5_feed_55 : decode cX5_feed 55 = .ok (.iushr, 1) := by decide +kernel
theorem dX5_feed_56 : decode cX5_feed 56 = .ok (.sipush 255, 3) := by decide +kernel
theorem dX5_feed_59 : decode cX5_feed 59 = .ok (.iand, 1) := by decide +kernel
theorem dX5_feed_60 : decode cX5_feed 60 = .ok (.invokevirtual 197, 3) := by decide +kernel
theorem dX5_feed_63 : decode cX5_feed 63 = .ok (.iinc 3 (-1), 3) := by decide +kernel
theorem dX5_feed_66 : decode cX5_feed 66 = .ok (.goto (-24), 3) := by decide +kernel
theorem dX5_feed_69 : decode cX5_feed 69 = .ok (.aload_n 0, 1) := by decide +kernel
theorem dX5_feed_70 : decode cX5_feed 70 = .ok (.getfield 32, 3) := by decide +kernel
theorem dX5_feed_73 : decode cX5_feed 73 = .ok (.getfield 194, 3) := by decide +kernel
theorem dX5_feed_76 : decode cX5_feed 76 = .ok (.ireturn, 1) := by decide +kernel
theorem dX5_wipe_0 : decode cX5_wipe 0 = .ok (.aload_n 0, 1) := by decide +kernel
theorem dX5_wipe_1 : decode cX5_wipe 1 = .ok (.getfield 32, 3) := by decide +kernel
theorem dX5_wipe_4 : decode cX5_wipe 4 = .ok (.getfield 194, 3) := by decide +kernel
theorem dX5_wipe_7 : decode cX5_wipe 7 = .ok (.istore_n 1, 1) := by decide +kernel
theorem dX5_wipe_8 : decode cX5_wipe 8 = .ok (.aload_n 0, 1) := by decide +kernel
theorem dX5_wipe_9 : decode cX5_wipe 9 = .ok (.getfield 32, 3) := by decide +kernel
theorem dX5_wipe_12 : decode cX5_wipe 12 = .ok (.iconst 0, 1) := by decide +kernel
theorem dX5_wipe_13 : decode cX5_wipe 13 = .ok (.putfield 194, 3) := by decide +kernel
theorem dX5_wipe_16 : decode cX5_wipe 16 = .ok (.iload_n 1, 1) := by decide +kernel
theorem dX5_wipe_17 : decode cX5_wipe 17 = .ok (.ireturn, 1) := by decide +kernel
theorem dX5_quay_0 : decode cX5_quay 0 = .ok (.aload_n 0, 1) := by decide +kernel
theorem dX5_quay_1 : decode cX5_quay 1 = .ok (.getfield 19, 3) := by decide +kernel
theorem dX5_quay_4 : decode cX5_quay 4 = .ok (.aload_n 0, 1) := by decide +kernel
theorem dX5_quay_5 : decode cX5_quay 5 = .ok (.getfield 12, 3) := by decide +kernel
theorem dX5_quay_8 : decode cX5_quay 8 = .ok (.invokevirtual 165, 3) := by decide +kernel
theorem dX5_quay_11 : decode cX5_quay 11 = .ok (.aload_n 0, 1) := by decide +kernel
theorem dX5_quay_12 : decode cX5_quay 12 = .ok (.getfield 32, 3) := by decide +kernel
theorem dX5_quay_15 : decode cX5_quay 15 = .ok (.aload_n 0, 1) := by decide +kernel
theorem dX5_quay_16 : decode cX5_quay 16 = .ok (.getfield 19, 3) := by decide +kernel
theorem dX5_quay_19 : decode cX5_quay 19 = .ok (.invokestatic 200, 3) := by decide +kernel
theorem dX5_quay_22 : decode cX5_quay 22 = .ok (.istore_n 1, 1) := by decide +kernel
theorem dX5_quay_23 : decode cX5_quay 23 = .ok (.iload_n 1, 1) := by decide +kernel
theorem dX5_quay_24 : decode cX5_quay 24 = .ok (.ifCond .lt 14, 3) := by decide +kernel
theorem dX5_quay_27 : decode cX5_quay 27 = .ok (.aload_n 0, 1) := by decide +kernel
theorem dX5_quay_28 : decode cX5_quay 28 = .ok (.getfield 12, 3) := by decide +kernel
theorem dX5_quay_31 : decode cX5_quay 31 = .ok (.aload_n 0, 1) := by decide +kernel
theorem dX5_quay_32 : decode cX5_quay 32 = .ok (.getfield 19, 3) := by decide +kernel
theorem dX5_quay_35 : decode cX5_quay 35 = .ok (.invokevirtual 165, 3) := by decide +kernel
theorem dX5_quay_38 : decode cX5_quay 38 = .ok (.aload_n 0, 1) := by decide +kernel
theorem dX5_quay_39 : decode cX5_quay 39 = .ok (.getfield 32, 3) := by decide +kernel
theorem dX5_quay_42 : decode cX5_quay 42 = .ok (.iconst 0, 1) := by decide +kernel
theorem dX5_quay_43 : decode cX5_quay 43 = .ok (.putfield 194, 3) := by decide +kernel
theorem dX5_quay_46 : decode cX5_quay 46 = .ok (.iload_n 1, 1) := by decide +kernel
theorem dX5_quay_47 : decode cX5_quay 47 = .ok (.ireturn, 1) := by decide +kernel
theorem dX5_sheet_0 : decode cX5_sheet 0 = .ok (.iload_n 1, 1) := by decide +kernel
theorem dX5_sheet_1 : decode cX5_sheet 1 = .ok (.invokestatic 206, 3) := by decide +kernel
theorem dX5_sheet_4 : decode cX5_sheet 4 = .ok (.ifCond .eq 25, 3) := by decide +kernel
theorem dX5_sheet_7 : decode cX5_sheet 7 = .ok (.iload_n 2, 1) := by decide +kernel
theorem dX5_sheet_8 : decode cX5_sheet 8 = .ok (.ifCond .eq 28, 3) := by decide +kernel
theorem dX5_sheet_11 : decode cX5_sheet 11 = .ok (.iload_n 2, 1) := by decide +kernel
theorem dX5_sheet_12 : decode cX5_sheet 12 = .ok (.bipush 8, 2) := by decide +kernel
theorem dX5_sheet_14 : decode cX5_sheet 14 = .ok (.if_icmp .eq 22, 3) := by decide +kernel
theorem dX5_sheet_17 : decode cX5_sheet 17 = .ok (.iload_n 2, 1) := by decide +kernel
theorem dX5_sheet_18 : decode cX5_sheet 18 = .ok (.bipush 16, 2) := by decide +kernel
theorem dX5_sheet_20 : decode cX5_sheet 20 = .ok (.if_icmp .eq 16, 3) := by decide +kernel
theorem dX5_sheet_23 : decode cX5_sheet 23 = .ok (.iload_n 2, 1) := by decide +kernel
theorem dX5_sheet_24 : decode cX5_sheet 24 = .ok (.bipush 64, 2) := by decide +kernel
theorem dX5_sheet_26 : decode cX5_sheet 26 = .ok (.if_icmp .eq 10, 3) := by decide +kernel
theorem dX5_sheet_29 : decode cX5_sheet 29 = .ok (.aload_n 0, 1) := by decide +kernel
theorem dX5_sheet_30 : decode cX5_sheet 30 = .ok (.ldc 55, 2) := by decide +kernel
theorem dX5_sheet_32 : decode cX5_sheet 32 = .ok (.invokevirtual 56, 3) := by decide +kernel
theorem dX5_sheet_35 : decode cX5_sheet 35 = .ok (.ireturn, 1) := by decide +kernel
theorem dX5_sheet_36 : decode cX5_sheet 36 = .ok (.iload_n 3, 1) := by decide +kernel
theorem dX5_sheet_37 : decode cX5_sheet 37 = .ok (.ifCond .ge 10, 3) := by decide +kernel
theorem dX5_sheet_40 : decode cX5_sheet 40 = .ok (.aload_n 0, 1) := by decide +kernel
theorem dX5_sheet_41 : decode cX5_sheet 41 = .ok (.ldc 209, 2) := by decide +kernel
theorem dX5_sheet_43 : decode cX5_sheet 43 = .ok (.invokevirtual 56, 3) := by decide +kernel
theorem dX5_sheet_46 : decode cX5_sheet 46 = .ok (.ireturn, 1) := by decide +kernel
theorem dX5_sheet_47 : decode cX5_sheet 47 = .ok (.iload_n 3, 1) := by decide +kernel
theorem dX5_sheet_48 : decode cX5_sheet 48 = .ok (.bipush 40, 2) := by decide +kernel
theorem dX5_sheet_50 : decode cX5_sheet 50 = .ok (.if_icmp .le 10, 3) := by decide +kernel
theorem dX5_sheet_53 : decode cX5_sheet 53 = .ok (.aload_n 0, 1) := by decide +kernel
theorem dX5_sheet_54 : decode cX5_sheet 54 = .ok (.ldc 55, 2) := by decide +kernel
theorem dX5_sheet_56 : decode cX5_sheet 56 = .ok (.invokevirtual 56, 3) := by decide +kernel
theorem dX5_sheet_59 : decode cX5_sheet 59 = .ok (.ireturn, 1) := by decide +kernel
theorem dX5_sheet_60 : decode cX5_sheet 60 = .ok (.aload_n 0, 1) := by decide +kernel
theorem dX5_sheet_61 : decode cX5_sheet 61 = .ok (.getfield 38, 3) := by decide +kernel
theorem dX5_sheet_64 : decode cX5_sheet 64 = .ok (.iload_n 1, 1) := by decide +kernel
theorem dX5_sheet_65 : decode cX5_sheet 65 = .ok (.aaload, 1) := by decide +kernel
theorem dX5_sheet_66 : decode cX5_sheet 66 = .ok (.iload_n 2, 1) := by decide +kernel
theorem dX5_sheet_67 : decode cX5_sheet 67 = .ok (.iload_n 3, 1) := by decide +kernel
theorem dX5_sheet_68 : decode cX5_sheet 68 = .ok (.invokevirtual 210, 3) := by decide +kernel
theorem dX5_sheet_71 : decode cX5_sheet 71 = .ok (.aload_n 0, 1) := by decide +kernel
theorem dX5_sheet_72 : decode cX5_sheet 72 = .ok (.getfield 38, 3) := by decide +kernel
theorem dX5_sheet_75 : decode cX5_sheet 75 = .ok (.iload_n 1, 1) := by decide +kernel
theorem dX5_sheet_76 : decode cX5_sheet 76 = .ok (.aaload, 1) := by decide +kernel
theorem dX5_sheet_77 : decode cX5_sheet 77 = .ok (.getfield 213, 3) := by decide +kernel
theorem dX5_sheet_80 : decode cX5_sheet 80 = .ok (.ireturn, 1) := by decide +kernel
theorem dX5_write_0 : decode cX5_write 0 = .ok (.aload_n 0, 1) := by decide +kernel
theorem dX5_write_1 : decode cX5_write 1 = .ok (.iload_n 1, 1) := by decide +kernel
theorem dX5_write_2 : decode cX5_write 2 = .ok (.invokevirtual 216, 3) := by decide +kernel
theorem dX5_write_5 : decode cX5_write 5 = .ok (.istore 5, 2) := by decide +kernel
theorem dX5_write_7 : decode cX5_write 7 = .ok (.iload 5, 2) := by decide +kernel
theorem dX5_write_9 : decode cX5_write 9 = .ok (.ifCond .eq 11, 3) := by decide +kernel
theorem dX5_write_12 : decode cX5_write 12 = .ok (.aload_n 0, 1) := by decide +kernel
theorem dX5_write_13 : decode cX5_write 13 = .ok (.iload 5, 2) := by decide +kernel
theorem dX5_write_15 : decode cX5_write 15 = .ok (.invokevirtual 56, 3) := by decide +kernel
theorem dX5_write_18 : decode cX5_write 18 = .ok (.i2l, 1) := by decide +kernel
theorem dX5_write_19 : decode cX5_write 19 = .ok (.lreturn, 1) := by decide +kernel
theorem dX5_write_20 : decode cX5_write 20 = .ok (.aload_n 0, 1) := by decide +kernel
theorem dX5_write_21 : decode cX5_write 21 = .ok (.getfield 38, 3) := by decide +kernel
theorem dX5_write_24 : decode cX5_write 24 = .ok (.iload_n 1, 1) := by decide +kernel
theorem dX5_write_25 : decode cX5_write 25 = .ok (.aaload, 1) := by decide +kernel
theorem dX5_write_26 : decode cX5_write 26 = .ok (.astore 6, 2) := by decide +kernel
theorem dX5_write_28 : decode cX5_write 28 = .ok (.iload_n 2, 1) := by decide +kernel
theorem dX5_write_29 : decode cX5_write 29 = .ok (.ifCond .lt 12, 3) := by decide +kernel
theorem dX5_write_32 : decode cX5_write 32 = .ok (.iload_n 2, 1) := by decide +kernel
theorem dX5_write_33 : decode cX5_write 33 = .ok (.aload 6, 2) := by decide +kernel
theorem dX5_write_35 : decode cX5_write 35 = .ok (.getfield 213, 3) := by decide +kernel
theorem dX5_write_38 : decode cX5_write 38 = .ok (.if_icmp .lt 11, 3) := by decide +kernel
theorem dX5_write_41 : decode cX5_write 41 = .ok (.aload_n 0, 1) := by decide +kernel
theorem dX5_write_42 : decode cX5_write 42 = .ok (.ldc 55, 2) := by decide +kernel
theorem dX5_write_44 : decode cX5_write 44 = .ok (.invokevirtual 56, 3) := by decide +kernel
theorem dX5_write_47 : decode cX5_write 47 = .ok (.i2l, 1) := by decide +kernel
theorem dX5_write_48 : decode cX5_write 48 = .ok (.lreturn, 1) := by decide +kernel
theorem dX5_write_49 : decode cX5_write 49 = .ok (.aload 6, 2) := by decide +kernel
theorem dX5_write_51 : decode cX5_write 51 = .ok (.getfield 219, 3) := by decide +kernel
theorem dX5_write_54 : decode cX5_write 54 = .ok (.iload_n 2, 1) := by decide +kernel
theorem dX5_write_55 : decode cX5_write 55 = .ok (.laload, 1) := by decide +kernel
theorem dX5_write_56 : decode cX5_write 56 = .ok (.lstore 7, 2) := by decide +kernel
theorem dX5_write_58 : decode cX5_write 58 = .ok (.aload 6, 2) := by decide +kernel
theorem dX5_write_60 : decode cX5_write 60 = .ok (.iload_n 2, 1) := by decide +kernel
theorem dX5_write_61 : decode cX5_write 61 = .ok (.lload_n 3, 1) := by decide +kernel
theorem dX5_write_62 : decode cX5_write 62 = .ok (.invokevirtual 223, 3) := by decide +kernel
theorem dX5_write_65 : decode cX5_write 65 = .ok (.lload 7, 2) := by decide +kernel
theorem dX5_write_67 : decode cX5_write 67 = .ok (.lreturn, 1) := by decide +kernel
theorem dX5_copy_0 : decode cX5_copy 0 = .ok (.iload_n 1, 1) := by decide +kernel
theorem dX5_copy_1 : decode cX5_copy 1 = .ok (.invokestatic 206, 3) := by decide +kernel
theorem dX5_copy_4 : decode cX5_copy 4 = .ok (.ifCond .eq 10, 3) := by decide +kernel
theorem dX5_copy_7 : decode cX5_copy 7 = .ok (.iload_n 3, 1) := by decide +kernel
theorem dX5_copy_8 : decode cX5_copy 8 = .ok (.invokestatic 206, 3) := by decide +kernel
theorem dX5_copy_11 : decode cX5_copy 11 = .ok (.ifCond .ne 10, 3) := by decide +kernel
theorem dX5_copy_14 : decode cX5_copy 14 = .ok (.aload_n 0, 1) := by decide +kernel
theorem dX5_copy_15 : decode cX5_copy 15 = .ok (.ldc 55, 2) := by decide +kernel
theorem dX5_copy_17 : decode cX5_copy 17 = .ok (.invokevirtual 56, 3) := by decide +kernel
theorem dX5_copy_20 : decode cX5_copy 20 = .ok (.ireturn, 1) := by decide +kernel
theorem dX5_copy_21 : decode cX5_copy 21 = .ok (.aload_n 0, 1) := by decide +kernel
theorem dX5_copy_22 : decode cX5_copy 22 = .ok (.getfield 38, 3) := by decide +kernel
theorem dX5_copy_25 : decode cX5_copy 25 = .ok (.iload_n 1, 1) := by decide +kernel
theorem dX5_copy_26 : decode cX5_copy 26 = .ok (.aaload, 1) := by decide +kernel
theorem dX5_copy_27 : decode cX5_copy 27 = .ok (.astore 6, 2) := by decide +kernel
theorem dX5_copy_29 : decode cX5_copy 29 = .ok (.aload_n 0, 1) := by decide +kernel
theorem dX5_copy_30 : decode cX5_copy 30 = .ok (.getfield 38, 3) := by decide +kernel
theorem dX5_copy_33 : decode cX5_copy 33 = .ok (.iload_n 3, 1) := by decide +kernel
theorem dX5_copy_34 : decode cX5_copy 34 = .ok (.aaload, 1) := by decide +kernel
theorem dX5_copy_35 : decode cX5_copy 35 = .ok (.astore 7, 2) := by decide +kernel
theorem dX5_copy_37 : decode cX5_copy 37 = .ok (.aload 6, 2) := by decide +kernel
theorem dX5_copy_39 : decode cX5_copy 39 = .ok (.invokevirtual 226, 3) := by decide +kernel
theorem dX5_copy_42 : decode cX5_copy 42 = .ok (.ifCond .ne 11, 3) := by decide +kernel
theorem dX5_copy_45 : decode cX5_copy 45 = .ok (.aload 7, 2) := by decide +kernel
theorem dX5_copy_47 : decode cX5_copy 47 = .ok (.invokevirtual 226, 3) := by decide +kernel
theorem dX5_copy_50 : decode cX5_copy 50 = .ok (.ifCond .eq 10, 3) := by decide +kernel
theorem dX5_copy_53 : decode cX5_copy 53 = .ok (.aload_n 0, 1) := by decide +kernel
theorem dX5_copy_54 : decode cX5_copy 54 = .ok (.ldc 229, 2) := by decide +kernel
theorem dX5_copy_56 : decode cX5_copy 56 = .ok (.invokevirtual 56, 3) := by decide +kernel
theorem dX5_copy_59 : decode cX5_copy 59 = .ok (.ireturn, 1) := by decide +kernel
theorem dX5_copy_60 : decode cX5_copy 60 = .ok (.aload 6, 2) := by decide +kernel
theorem dX5_copy_62 : decode cX5_copy 62 = .ok (.getfield 230, 3) := by decide +kernel
theorem dX5_copy_65 : decode cX5_copy 65 = .ok (.aload 7, 2) := by decide +kernel
theorem dX5_copy_67 : decode cX5_copy 67 = .ok (.getfield 230, 3) := by decide +kernel
theorem dX5_copy_70 : decode cX5_copy 70 = .ok (.if_icmp .eq 10, 3) := by decide +kernel
theorem dX5_copy_73 : decode cX5_copy 73 = .ok (.aload_n 0, 1) := by decide +kernel
theorem dX5_copy_74 : decode cX5_copy 74 = .ok (.ldc 97, 2) := by decide +kernel
theorem dX5_copy_76 : decode cX5_copy 76 = .ok (.invokevirtual 56, 3) := by decide +kernel
theorem dX5_copy_79 : decode cX5_copy 79 = .ok (.ireturn, 1) := by decide +kernel
theorem dX5_copy_80 : decode cX5_copy 80 = .ok (.aload 6, 2) := by decide +kernel
theorem dX5_copy_82 : decode cX5_copy 82 = .ok (.iload_n 2, 1) := by decide +kernel
theorem dX5_copy_83 : decode cX5_copy 83 = .ok (.iload 5, 2) := by decide +kernel
theorem dX5_copy_85 : decode cX5_copy 85 = .ok (.invokevirtual 233, 3) := by decide +kernel
theorem dX5_copy_88 : decode cX5_copy 88 = .ok (.ifCond .eq 15, 3) := by decide +kernel
theorem dX5_copy_91 : decode cX5_copy 91 = .ok (.aload 7, 2) := by decide +kernel
theorem dX5_copy_93 : decode cX5_copy 93 = .ok (.iload 4, 2) := by decide +kernel
theorem dX5_copy_95 : decode cX5_copy 95 = .ok (.iload 5, 2) := by decide +kernel
theorem dX5_copy_97 : decode cX5_copy 97 = .ok (.invokevirtual 233, 3) := by decide +kernel
theorem dX5_copy_100 : decode cX5_copy 100 = .ok (.ifCond .ne 10, 3) := by decide +kernel
theorem dX5_copy_103 : decode cX5_copy 103 = .ok (.aload_n 0, 1) := by decide +kernel
theorem dX5_copy_104 : decode cX5_copy 104 = .ok (.ldc 55, 2) := by decide +kernel
theorem dX5_copy_106 : decode cX5_copy 106 = .ok (.invokevirtual 56, 3) := by decide +kernel
theorem dX5_copy_109 : decode cX5_copy 109 = .ok (.ireturn, 1) := by decide +kernel
theorem dX5_copy_110 : decode cX5_copy 110 = .ok (.aload 6, 2) := by decide +kernel
theorem dX5_copy_112 : decode cX5_copy 112 = .ok (.getfield 219, 3) := by decide +kernel
theorem dX5_copy_115 : decode cX5_copy 115 = .ok (.iload_n 2, 1) := by decide +kernel
theorem dX5_copy_116 : decode cX5_copy 116 = .ok (.aload 7, 2) := by decide +kernel
theorem dX5_copy_118 : decode cX5_copy 118 = .ok (.getfield 219, 3) := by decide +kernel
theorem dX5_copy_121 : decode cX5_copy 121 = .ok (.iload 4, 2) := by decide +kernel
theorem dX5_copy_123 : decode cX5_copy 123 = .ok (.iload 5, 2) := by decide +kernel
theorem dX5_copy_125 : decode cX5_copy 125 = .ok (.invokestatic 236, 3) := by decide +kernel
theorem dX5_copy_128 : decode cX5_copy 128 = .ok (.iload 5, 2) := by decide +kernel
theorem dX5_copy_130 : decode cX5_copy 130 = .ok (.ireturn, 1) := by decide +kernel
theorem dX5_lays_0 : decode cX5_lays 0 = .ok (.aload_n 0, 1) := by decide +kernel
theorem dX5_lays_1 : decode cX5_lays 1 = .ok (.iload_n 1, 1) := by decide +kernel
theorem dX5_lays_2 : decode cX5_lays 2 = .ok (.invokevirtual 216, 3) := by decide +kernel
theorem dX5_lays_5 : decode cX5_lays 5 = .ok (.istore_n 2, 1) := by decide +kernel
theorem dX5_lays_6 : decode cX5_lays 6 = .ok (.iload_n 2, 1) := by decide +kernel
theorem dX5_lays_7 : decode cX5_lays 7 = .ok (.ifCond .eq 9, 3) := by decide +kernel
theorem dX5_lays_10 : decode cX5_lays 10 = .ok (.aload_n 0, 1) := by decide +kernel
theorem dX5_lays_11 : decode cX5_lays 11 = .ok (.iload_n 2, 1) := by decide +kernel
theorem dX5_lays_12 : decode cX5_lays 12 = .ok (.invokevirtual 56, 3) := by decide +kernel
theorem dX5_lays_15 : decode cX5_lays 15 = .ok (.ireturn, 1) := by decide +kernel
theorem dX5_lays_16 : decode cX5_lays 16 = .ok (.aload_n 0, 1) := by decide +kernel
theorem dX5_lays_17 : decode cX5_lays 17 = .ok (.getfield 38, 3) := by decide +kernel
theorem dX5_lays_20 : decode cX5_lays 20 = .ok (.iload_n 1, 1) := by decide +kernel
theorem dX5_lays_21 : decode cX5_lays 21 = .ok (.aaload, 1) := by decide +kernel
theorem dX5_lays_22 : decode cX5_lays 22 = .ok (.astore_n 3, 1) := by decide +kernel
theorem dX5_lays_23 : decode cX5_lays 23 = .ok (.iconst 0, 1) := by decide +kernel
theorem dX5_lays_24 : decode cX5_lays 24 = .ok (.istore 4, 2) := by decide +kernel
theorem dX5_lays_26 : decode cX5_lays 26 = .ok (.iconst 0, 1) := by decide +kernel
theorem dX5_lays_27 : decode cX5_lays 27 = .ok (.istore 5, 2) := by decide +kernel
theorem dX5_lays_29 : decode cX5_lays 29 = .ok (.iload 5, 2) := by decide +kernel
theorem dX5_lays_31 : decode cX5_lays 31 = .ok (.aload_n 3, 1) := by decide +kernel
theorem dX5_lays_32 : decode cX5_lays 32 = .ok (.getfield 213, 3) := by decide +kernel
theorem dX5_lays_35 : decode cX5_lays 35 = .ok (.if_icmp .ge 65, 3) := by decide +kernel
theorem dX5_lays_38 : decode cX5_lays 38 = .ok (.iload 5, 2) := by decide +kernel
theorem dX5_lays_40 : decode cX5_lays 40 = .ok (.aload_n 0, 1) := by decide +kernel
theorem dX5_lays_41 : decode cX5_lays 41 = .ok (.getfield 12, 3) := by decide +kernel
theorem dX5_lays_44 : decode cX5_lays 44 = .ok (.getfield 173, 3) := by decide +kernel
theorem dX5_lays_47 : decode cX5_lays 47 = .ok (.if_icmp .ge 53, 3) := by decide +kernel
theorem dX5_lays_50 : decode cX5_lays 50 = .ok (.aload_n 3, 1) := by decide +kernel
theorem dX5_lays_51 : decode cX5_lays 51 = .ok (.getfield 219, 3) := by decide +kernel
theorem dX5_lays_54 : decode cX5_lays 54 = .ok (.iload 5, 2) := by decide +kernel
theorem dX5_lays_56 : decode cX5_lays 56 = .ok (.laload, 1) := by decide +kernel
theorem dX5_lays_57 : decode cX5_lays 57 = .ok (.lstore 6, 2) := by decide +kernel
theorem dX5_lays_59 : decode cX5_lays 59 = .ok (.lload 6, 2) := by decide +kernel
theorem dX5_lays_61 : decode cX5_lays 61 = .ok (.lconst 0, 1) := by decide +kernel
theorem dX5_lays_62 : decode cX5_lays 62 = .ok (.lcmp, 1) := by decide +kernel
theorem dX5_lays_63 : decode cX5_lays 63 = .ok (.ifCond .lt 31, 3) := by decide +kernel
theorem dX5_lays_66 : decode cX5_lays 66 = .ok (.lload 6, 2) := by decide +kernel
theorem dX5_lays_68 : decode cX5_lays 68 = .ok (.ldc2_w 242, 3) := by decide +kernel
theorem dX5_lays_71 : decode cX5_lays 71 = .ok (.lcmp, 1) := by decide +kernel
theorem dX5_lays_72 : decode cX5_lays 72 = .ok (.ifCond .gt 22, 3) := by decide +kernel
theorem dX5_lays_75 : decode cX5_lays 75 = .ok (.aload_n 0, 1) := by decide +kernel
theorem dX5_lays_76 : decode cX5_lays 76 = .ok (.getfield 12, 3) := by decide +kernel
theorem dX5_lays_79 : decode cX5_lays 79 = .ok (.getfield 76, 3) := by decide +kernel
theorem dX5_lays_82 : decode cX5_lays 82 = .ok (.iload 5, 2) := by decide +kernel
theorem dX5_lays_84 : decode cX5_lays 84 = .ok (.aaload, 1) := by decide +kernel
theorem dX5_lays_85 : decode cX5_lays 85 = .ok (.lload 6, 2) := by decide +kernel
theorem dX5_lays_87 : decode cX5_lays 87 = .ok (.l2i, 1) := by decide +kernel
theorem dX5_lays_88 : decode cX5_lays 88 = .ok (.putfield 98, 3) := by decide +kernel
theorem dX5_lays_91 : decode cX5_lays 91 = .ok (.iinc 4 1, 3) := by decide +kernel
theorem dX5_lays_94 : decode cX5_lays 94 = .ok (.iinc 5 1, 3) := by decide +kernel
theorem dX5_lays_97 : decode cX5_lays 97 = .ok (.goto (-68), 3) := by decide +kernel
theorem dX5_lays_100 : decode cX5_lays 100 = .ok (.iload 4, 2) := by decide +kernel
theorem dX5_lays_102 : decode cX5_lays 102 = .ok (.ireturn, 1) := by decide +kernel
theorem dX5_book_0 : decode cX5_book 0 = .ok (.aload_n 0, 1) := by decide +kernel
theorem dX5_book_1 : decode cX5_book 1 = .ok (.iload_n 1, 1) := by decide +kernel
theorem dX5_book_2 : decode cX5_book 2 = .ok (.iload_n 2, 1) := by decide +kernel
theorem dX5_book_3 : decode cX5_book 3 = .ok (.invokevirtual 244, 3) := by decide +kernel
theorem dX5_book_6 : decode cX5_book 6 = .ok (.istore_n 3, 1) := by decide +kernel
theorem dX5_book_7 : decode cX5_book 7 = .ok (.iload_n 3, 1) := by decide +kernel
theorem dX5_book_8 : decode cX5_book 8 = .ok (.ifCond .eq 9, 3) := by decide +kernel
theorem dX5_book_11 : decode cX5_book 11 = .ok (.aload_n 0, 1) := by decide +kernel
theorem dX5_book_12 : decode cX5_book 12 = .ok (.iload_n 3, 1) := by decide +kernel
theorem dX5_book_13 : decode cX5_book 13 = .ok (.invokevirtual 56, 3) := by decide +kernel
theorem dX5_book_16 : decode cX5_book 16 = .ok (.ireturn, 1) := by decide +kernel
theorem dX5_book_17 : decode cX5_book 17 = .ok (.aload_n 0, 1) := by decide +kernel
theorem dX5_book_18 : decode cX5_book 18 = .ok (.getfield 38, 3) := by decide +kernel
theorem dX5_book_21 : decode cX5_book 21 = .ok (.iload_n 1, 1) := by decide +kernel
theorem dX5_book_22 : decode cX5_book 22 = .ok (.aaload, 1) := by decide +kernel
theorem dX5_book_23 : decode cX5_book 23 = .ok (.astore 4, 2) := by decide +kernel
theorem dX5_book_25 : decode cX5_book 25 = .ok (.aload_n 0, 1) := by decide +kernel
theorem dX5_book_26 : decode cX5_book 26 = .ok (.iload_n 2, 1) := by decide +kernel
theorem dX5_book_27 : decode cX5_book 27 = .ok (.invokevirtual 148, 3) := by decide +kernel
theorem dX5_book_30 : decode cX5_book 30 = .ok (.astore 5, 2) := by decide +kernel
theorem dX5_book_32 : decode cX5_book 32 = .ok (.iconst 0, 1) := by decide +kernel
theorem dX5_book_33 : decode cX5_book 33 = .ok (.istore 6, 2) := by decide +kernel
theorem dX5_book_35 : decode cX5_book 35 = .ok (.iload 6, 2) := by decide +kernel
theorem dX5_book_37 : decode cX5_book 37 = .ok (.aload 4, 2) := by decide +kernel
theorem dX5_book_39 : decode cX5_book 39 = .ok (.getfield 213, 3) := by decide +kernel
theorem dX5_book_42 : decode cX5_book 42 = .ok (.if_icmp .ge 27, 3) := by decide +kernel
theorem dX5_book_45 : decode cX5_book 45 = .ok (.aload 4, 2) := by decide +kernel
theorem dX5_book_47 : decode cX5_book 47 = .ok (.iload 6, 2) := by decide +kernel
theorem dX5_book_49 : decode cX5_book 49 = .ok (.aload 5, 2) := by decide +kernel
theorem dX5_book_51 : decode cX5_book 51 = .ok (.getfield 98, 3) := by decide +kernel
theorem dX5_book_54 : decode cX5_book 54 = .ok (.i2l, 1) := by decide +kernel
theorem dX5_book_55 : decode cX5_book 55 = .ok (.invokevirtual 223, 3) := by decide +kernel
theorem dX5_book_58 : decode cX5_book 58 = .ok (.aload 5, 2) := by decide +kernel
theorem dX5_book_60 : decode cX5_book 60 = .ok (.invokevirtual 247, 3) := by decide +kernel
theorem dX5_book_63 : decode cX5_book 63 = .ok (.iinc 6 1, 3) := by decide +kernel
theorem dX5_book_66 : decode cX5_book 66 = .ok (.goto (-31), 3) := by decide +kernel
theorem dX5_book_69 : decode cX5_book 69 = .ok (.aload 4, 2) := by decide +kernel
theorem dX5_book_71 : decode cX5_book 71 = .ok (.getfield 213, 3) := by decide +kernel
theorem dX5_book_74 : decode cX5_book 74 = .ok (.ireturn, 1) := by decide +kernel
theorem dX5_read_0 : decode cX5_read 0 = .ok (.aload_n 0, 1) := by decide +kernel
theorem dX5_read_1 : decode cX5_read 1 = .ok (.iload_n 1, 1) := by decide +kernel
theorem dX5_read_2 : decode cX5_read 2 = .ok (.iload_n 2, 1) := by decide +kernel
theorem dX5_read_3 : decode cX5_read 3 = .ok (.invokevirtual 244, 3) := by decide +kernel
theorem dX5_read_6 : decode cX5_read 6 = .ok (.istore_n 3, 1) := by decide +kernel
theorem dX5_read_7 : decode cX5_read 7 = .ok (.iload_n 3, 1) := by decide +kernel
theorem dX5_read_8 : decode cX5_read 8 = .ok (.ifCond .eq 9, 3) := by decide +kernel
theorem dX5_read_11 : decode cX5_read 11 = .ok (.aload_n 0, 1) := by decide +kernel
theorem dX5_read_12 : decode cX5_read 12 = .ok (.iload_n 3, 1) := by decide +kernel
theorem dX5_read_13 : decode cX5_read 13 = .ok (.invokevirtual 56, 3) := by decide +kernel
theorem dX5_read_16 : decode cX5_read 16 = .ok (.ireturn, 1) := by decide +kernel
theorem dX5_read_17 : decode cX5_read 17 = .ok (.iconst 0, 1) := by decide +kernel
theorem dX5_read_18 : decode cX5_read 18 = .ok (.istore 4, 2) := by decide +kernel
theorem dX5_read_20 : decode cX5_read 20 = .ok (.iconst 0, 1) := by decide +kernel
theorem dX5_read_21 : decode cX5_read 21 = .ok (.istore 5, 2) := by decide +kernel
theorem dX5_read_23 : decode cX5_read 23 = .ok (.iload 5, 2) := by decide +kernel
theorem dX5_read_25 : decode cX5_read 25 = .ok (.bipush 6, 2) := by decide +kernel
theorem dX5_read_27 : decode cX5_read 27 = .ok (.if_icmp .ge 63, 3) := by decide +kernel
theorem dX5_read_30 : decode cX5_read 30 = .ok (.iconst 0, 1) := by decide +kernel
theorem dX5_read_31 : decode cX5_read 31 = .ok (.istore 6, 2) := by decide +kernel
theorem dX5_read_33 : decode cX5_read 33 = .ok (.iload 6, 2) := by decide +kernel
theorem dX5_read_35 : decode cX5_read 35 = .ok (.bipush 99, 2) := by decide +kernel
theorem dX5_read_37 : decode cX5_read 37 = .ok (.if_icmp .gt 47, 3) := by decide +kernel
theorem dX5_read_40 : decode cX5_read 40 = .ok (.aload_n 0, 1) := by decide +kernel
theorem dX5_read_41 : decode cX5_read 41 = .ok (.iload_n 2, 1) := by decide +kernel
theorem dX5_read_42 : decode cX5_read 42 = .ok (.invokevirtual 148, 3) := by decide +kernel
theorem dX5_read_45 : decode cX5_read 45 = .ok (.astore 7, 2) := by decide +kernel
theorem dX5_read_47 : decode cX5_read 47 = .ok (.aload 7, 2) := by decide +kernel
theorem dX5_read_49 : decode cX5_read 49 = .ok (.iload 5, 2) := by decide +kernel
theorem dX5_read_51 : decode cX5_read 51 = .ok (.putfield 91, 3) := by decide +kernel
theorem dX5_read_54 : decode cX5_read 54 = .ok (.aload 7, 2) := by decide +kernel
theorem dX5_read_56 : decode cX5_read 56 = .ok (.iload 6, 2) := by decide +kernel
theorem dX5_read_58 : decode cX5_read 58 = .ok (.putfield 108, 3) := by decide +kernel
theorem dX5_read_61 : decode cX5_read 61 = .ok (.aload 7, 2) := by decide +kernel
theorem dX5_read_63 : decode cX5_read 63 = .ok (.aload_n 0, 1) := by decide +kernel
theorem dX5_read_64 : decode cX5_read 64 = .ok (.getfield 38, 3) := by decide +kernel
theorem dX5_read_67 : decode cX5_read 67 = .ok (.iload_n 1, 1) := by decide +kernel
theorem dX5_read_68 : decode cX5_read 68 = .ok (.aaload, 1) := by decide +kernel
theorem dX5_read_69 : decode cX5_read 69 = .ok (.invokestatic 250, 3) := by decide +kernel
theorem dX5_read_72 : decode cX5_read 72 = .ok (.ifCond .eq 6, 3) := by decide +kernel
theorem dX5_read_75 : decode cX5_read 75 = .ok (.iinc 4 1, 3) := by decide +kernel
theorem dX5_read_78 : decode cX5_read 78 = .ok (.iinc 6 1, 3) := by decide +kernel
theorem dX5_read_81 : decode cX5_read 81 = .ok (.goto (-48), 3) := by decide +kernel
theorem dX5_read_84 : decode cX5_read 84 = .ok (.iinc 5 1, 3) := by decide +kernel
theorem dX5_read_87 : decode cX5_read 87 = .ok (.goto (-64), 3) := by decide +kernel
theorem dX5_read_90 : decode cX5_read 90 = .ok (.iload 4, 2) := by decide +kernel
theorem dX5_read_92 : decode cX5_read 92 = .ok (.ireturn, 1) := by decide +kernel
theorem dX5_image_0 : decode cX5_image 0 = .ok (.aload_n 0, 1) := by decide +kernel
theorem dX5_image_1 : decode cX5_image 1 = .ok (.getfield 16, 3) := by decide +kernel
theorem dX5_image_4 : decode cX5_image 4 = .ok (.aload_n 0, 1) := by decide +kernel
theorem dX5_image_5 : decode cX5_image 5 = .ok (.getfield 12, 3) := by decide +kernel
theorem dX5_image_8 : decode cX5_image 8 = .ok (.invokevirtual 165, 3) := by decide +kernel
theorem dX5_image_11 : decode cX5_image 11 = .ok (.aload_n 0, 1) := by decide +kernel
theorem dX5_image_12 : decode cX5_image 12 = .ok (.iconst 1, 1) := by decide +kernel
theorem dX5_image_13 : decode cX5_image 13 = .ok (.putfield 46, 3) := by decide +kernel
theorem dX5_image_16 : decode cX5_image 16 = .ok (.iconst 1, 1) := by decide +kernel
theorem dX5_image_17 : decode cX5_image 17 = .ok (.ireturn, 1) := by decide +kernel
theorem dX5_undo_0 : decode cX5_undo 0 = .ok (.aload_n 0, 1) := by decide +kernel
theorem dX5_undo_1 : decode cX5_undo 1 = .ok (.getfield 46, 3) := by decide +kernel
theorem dX5_undo_4 : decode cX5_undo 4 = .ok (.ifCond .ne 10, 3) := by decide +kernel
theorem dX5_undo_7 : decode cX5_undo 7 = .ok (.aload_n 0, 1) := by decide +kernel
theorem dX5_undo_8 : decode cX5_undo 8 = .ok (.ldc 176, 2) := by decide +kernel
theorem dX5_undo_10 : decode cX5_undo 10 = .ok (.invokevirtual 56, 3) := by decide +kernel
theorem dX5_undo_13 : decode cX5_undo 13 = .ok (.ireturn, 1) := by decide +kernel
theorem dX5_undo_14 : decode cX5_undo 14 = .ok (.aload_n 0, 1) := by decide +kernel
theorem dX5_undo_15 : decode cX5_undo 15 = .ok (.getfield 12, 3) := by decide +kernel
theorem dX5_undo_18 : decode cX5_undo 18 = .ok (.aload_n 0, 1) := by decide +kernel
theorem dX5_undo_19 : decode cX5_undo 19 = .ok (.getfield 16, 3) := by decide +kernel
theorem dX5_undo_22 : decode cX5_undo 22 = .ok (.invokevirtual 165, 3) := by decide +kernel
theorem dX5_undo_25 : decode cX5_undo 25 = .ok (.aload_n 0, 1) := by decide +kernel
theorem dX5_undo_26 : decode cX5_undo 26 = .ok (.getfield 12, 3) := by decide +kernel
theorem dX5_undo_29 : decode cX5_undo 29 = .ok (.getfield 173, 3) := by decide +kernel
theorem dX5_undo_32 : decode cX5_undo 32 = .ok (.ireturn, 1) := by decide +kernel
theorem dX5_tear_0 : decode cX5_tear 0 = .ok (.aload_n 0, 1) := by decide +kernel
theorem dX5_tear_1 : decode cX5_tear 1 = .ok (.getfield 46, 3) := by decide +kernel
theorem dX5_tear_4 : decode cX5_tear 4 = .ok (.ifCond .eq 7, 3) := by decide +kernel
theorem dX5_tear_7 : decode cX5_tear 7 = .ok (.iconst 1, 1) := by decide +kernel
theorem dX5_tear_8 : decode cX5_tear 8 = .ok (.goto 4, 3) := by decide +kernel
theorem dX5_tear_11 : decode cX5_tear 11 = .ok (.iconst 0, 1) := by decide +kernel
theorem dX5_tear_12 : decode cX5_tear 12 = .ok (.istore_n 1, 1) := by decide +kernel
theorem dX5_tear_13 : decode cX5_tear 13 = .ok (.aload_n 0, 1) := by decide +kernel
theorem dX5_tear_14 : decode cX5_tear 14 = .ok (.iconst 0, 1) := by decide +kernel
theorem dX5_tear_15 : decode cX5_tear 15 = .ok (.putfield 46, 3) := by decide +kernel
theorem dX5_tear_18 : decode cX5_tear 18 = .ok (.iload_n 1, 1) := by decide +kernel
theorem dX5_tear_19 : decode cX5_tear 19 = .ok (.ireturn, 1) := by decide +kernel
theorem dX5_count_0 : decode cX5_count 0 = .ok (.iload_n 1, 1) := by decide +kernel
theorem dX5_count_1 : decode cX5_count 1 = .ok (.tableswitch 63 0 3 #[31, 39, 47, 55], 31) := by decide +kernel
theorem dX5_count_32 : decode cX5_count 32 = .ok (.aload_n 0, 1) := by decide +kernel
theorem dX5_count_33 : decode cX5_count 33 = .ok (.getfield 12, 3) := by decide +kernel
theorem dX5_count_36 : decode cX5_count 36 = .ok (.getfield 173, 3) := by decide +kernel
theorem dX5_count_39 : decode cX5_count 39 = .ok (.ireturn, 1) := by decide +kernel
theorem dX5_count_40 : decode cX5_count 40 = .ok (.aload_n 0, 1) := by decide +kernel
theorem dX5_count_41 : decode cX5_count 41 = .ok (.getfield 32, 3) := by decide +kernel
theorem dX5_count_44 : decode cX5_count 44 = .ok (.getfield 194, 3) := by decide +kernel
theorem dX5_count_47 : decode cX5_count 47 = .ok (.ireturn, 1) := by decide +kernel
theorem dX5_count_48 : decode cX5_count 48 = .ok (.aload_n 0, 1) := by decide +kernel
theorem dX5_count_49 : decode cX5_count 49 = .ok (.getfield 12, 3) := by decide +kernel
theorem dX5_count_52 : decode cX5_count 52 = .ok (.invokevirtual 254, 3) := by decide +kernel
theorem dX5_count_55 : decode cX5_count 55 = .ok (.ireturn, 1) := by decide +kernel
theorem dX5_count_56 : decode cX5_count 56 = .ok (.aload_n 0, 1) := by decide +kernel
theorem dX5_count_57 : decode cX5_count 57 = .ok (.getfield 12, 3) := by decide +kernel
theorem dX5_count_60 : decode cX5_count 60 = .ok (.invokevirtual 257, 3) := by decide +kernel
theorem dX5_count_63 : decode cX5_count 63 = .ok (.ireturn, 1) := by decide +kernel
theorem dX5_count_64 : decode cX5_count 64 = .ok (.aload_n 0, 1) := by decide +kernel
theorem dX5_count_65 : decode cX5_count 65 = .ok (.ldc 55, 2) := by decide +kernel
theorem dX5_count_67 : decode cX5_count 67 = .ok (.invokevirtual 56, 3) := by decide +kernel
theorem dX5_count_70 : decode cX5_count 70 = .ok (.ireturn, 1) := by decide +kernel
theorem dX5_status_0 : decode cX5_status 0 = .ok (.iload_n 1, 1) := by decide +kernel
theorem dX5_status_1 : decode cX5_status 1 = .ok (.iconst (-1), 1) := by decide +kernel
theorem dX5_status_2 : decode cX5_status 2 = .ok (.if_icmp .lt 9, 3) := by decide +kernel
theorem dX5_status_5 : decode cX5_status 5 = .ok (.iload_n 1, 1) := by decide +kernel
theorem dX5_status_6 : decode cX5_status 6 = .ok (.bipush 7, 2) := by decide +kernel
theorem dX5_status_8 : decode cX5_status 8 = .ok (.if_icmp .lt 10, 3) := by decide +kernel
theorem dX5_status_11 : decode cX5_status 11 = .ok (.aload_n 0, 1) := by decide +kernel
theorem dX5_status_12 : decode cX5_status 12 = .ok (.ldc 55, 2) := by decide +kernel
theorem dX5_status_14 : decode cX5_status 14 = .ok (.invokevirtual 56, 3) := by decide +kernel
theorem dX5_status_17 : decode cX5_status 17 = .ok (.ireturn, 1) := by decide +kernel
theorem dX5_status_18 : decode cX5_status 18 = .ok (.iload_n 1, 1) := by decide +kernel
theorem dX5_status_19 : decode cX5_status 19 = .ok (.ifCond .lt 10, 3) := by decide +kernel
theorem dX5_status_22 : decode cX5_status 22 = .ok (.aload_n 0, 1) := by decide +kernel
theorem dX5_status_23 : decode cX5_status 23 = .ok (.getfield 42, 3) := by decide +kernel
theorem dX5_status_26 : decode cX5_status 26 = .ok (.iload_n 1, 1) := by decide +kernel
theorem dX5_status_27 : decode cX5_status 27 = .ok (.iaload, 1) := by decide +kernel
theorem dX5_status_28 : decode cX5_status 28 = .ok (.ireturn, 1) := by decide +kernel
theorem dX5_status_29 : decode cX5_status 29 = .ok (.iconst 0, 1) := by decide +kernel
theorem dX5_status_30 : decode cX5_status 30 = .ok (.istore_n 2, 1) := by decide +kernel
theorem dX5_status_31 : decode cX5_status 31 = .ok (.iconst 0, 1) := by decide +kernel
theorem dX5_status_32 : decode cX5_status 32 = .ok (.istore_n 3, 1) := by decide +kernel
theorem dX5_status_33 : decode cX5_status 33 = .ok (.iload_n 3, 1) := by decide +kernel
theorem dX5_status_34 : decode cX5_status 34 = .ok (.bipush 7, 2) := by decide +kernel
theorem dX5_status_36 : decode cX5_status 36 = .ok (.if_icmp .ge 18, 3) := by decide +kernel
theorem dX5_status_39 : decode cX5_status 39 = .ok (.iload_n 2, 1) := by decide +kernel
theorem dX5_status_40 : decode cX5_status 40 = .ok (.aload_n 0, 1) := by decide +kernel
theorem dX5_status_41 : decode cX5_status 41 = .ok (.getfield 42, 3) := by decide +kernel
theorem dX5_status_44 : decode cX5_status 44 = .ok (.iload_n 3, 1) := by decide +kernel
theorem dX5_status_45 : decode cX5_status 45 = .ok (.iaload, 1) := by decide +kernel
theorem dX5_status_46 : decode cX5_status 46 = .ok (.iadd, 1) := by decide +kernel
theorem dX5_status_47 : decode cX5_status 47 = .ok (.istore_n 2, 1) := by decide +kernel
theorem dX5_status_48 : decode cX5_status 48 = .ok (.iinc 3 1, 3) := by decide +kernel
theorem dX5_status_51 : decode cX5_status 51 = .ok (.goto (-18), 3) := by decide +kernel
theorem dX5_status_54 : decode cX5_status 54 = .ok (.iload_n 2, 1) := by decide +kernel
theorem dX5_status_55 : decode cX5_status 55 = .ok (.ireturn, 1) := by decide +kernel
theorem dX5_finding_0 : decode cX5_finding 0 = .ok (.ldc 55, 2) := by decide +kernel
theorem dX5_finding_2 : decode cX5_finding 2 = .ok (.iload_n 1, 1) := by decide +kernel
theorem dX5_finding_3 : decode cX5_finding 3 = .ok (.isub, 1) := by decide +kernel
theorem dX5_finding_4 : decode cX5_finding 4 = .ok (.istore_n 2, 1) := by decide +kernel
theorem dX5_finding_5 : decode cX5_finding 5 = .ok (.iload_n 2, 1) := by decide +kernel
theorem dX5_finding_6 : decode cX5_finding 6 = .ok (.ifCond .lt 19, 3) := by decide +kernel
theorem dX5_finding_9 : decode cX5_finding 9 = .ok (.iload_n 2, 1) := by decide +kernel
theorem dX5_finding_10 : decode cX5_finding 10 = .ok (.bipush 7, 2) := by decide +kernel
theorem dX5_finding_12 : decode cX5_finding 12 = .ok (.if_icmp .ge 13, 3) := by decide +kernel
theorem dX5_finding_15 : decode cX5_finding 15 = .ok (.aload_n 0, 1) := by decide +kernel
theorem dX5_finding_16 : decode cX5_finding 16 = .ok (.getfield 42, 3) := by decide +kernel
theorem dX5_finding_19 : decode cX5_finding 19 = .ok (.iload_n 2, 1) := by decide +kernel
theorem dX5_finding_20 : decode cX5_finding 20 = .ok (.dup2, 1) := by decide +kernel
theorem dX5_finding_21 : decode cX5_finding 21 = .ok (.iaload, 1) := by decide +kernel
theorem dX5_finding_22 : decode cX5_finding 22 = .ok (.iconst 1, 1) := by decide +kernel
theorem dX5_finding_23 : decode cX5_finding 23 = .ok (.iadd, 1) := by decide +kernel
theorem dX5_finding_24 : decode cX5_finding 24 = .ok (.iastore, 1) := by decide +kernel
theorem dX5_finding_25 : decode cX5_finding 25 = .ok (.iload_n 1, 1) := by decide +kernel
theorem dX5_finding_26 : decode cX5_finding 26 = .ok (.ireturn, 1) := by decide +kernel
theorem dX5_daysOrNone_0 : decode cX5_daysOrNone 0 = .ok (.iload_n 1, 1) := by decide +kernel
theorem dX5_daysOrNone_1 : decode cX5_daysOrNone 1 = .ok (.sipush 201, 3) := by decide +kernel
theorem dX5_daysOrNone_4 : decode cX5_daysOrNone 4 = .ok (.if_icmp .ne 12, 3) := by decide +kernel
theorem dX5_daysOrNone_7 : decode cX5_daysOrNone 7 = .ok (.aload_n 0, 1) := by decide +kernel
theorem dX5_daysOrNone_8 : decode cX5_daysOrNone 8 = .ok (.ldc 176, 2) := by decide +kernel
theorem dX5_daysOrNone_10 : decode cX5_daysOrNone 10 = .ok (.invokevirtual 56, 3) := by decide +kernel
theorem dX5_daysOrNone_13 : decode cX5_daysOrNone 13 = .ok (.goto 4, 3) := by decide +kernel
theorem dX5_daysOrNone_16 : decode cX5_daysOrNone 16 = .ok (.iload_n 1, 1) := by decide +kernel
theorem dX5_daysOrNone_17 : decode cX5_daysOrNone 17 = .ok (.ireturn, 1) := by decide +kernel
theorem dX5_isThere_0 : decode cX5_isThere 0 = .ok (.iload_n 1, 1) := by decide +kernel
theorem dX5_isThere_1 : decode cX5_isThere 1 = .ok (.ifCond .lt 18, 3) := by decide +kernel
theorem dX5_isThere_4 : decode cX5_isThere 4 = .ok (.iload_n 1, 1) := by decide +kernel
theorem dX5_isThere_5 : decode cX5_isThere 5 = .ok (.aload_n 0, 1) := by decide +kernel
theorem dX5_isThere_6 : decode cX5_isThere 6 = .ok (.getfield 12, 3) := by decide +kernel
theorem dX5_isThere_9 : decode cX5_isThere 9 = .ok (.getfield 173, 3) := by decide +kernel
theorem dX5_isThere_12 : decode cX5_isThere 12 = .ok (.if_icmp .ge 7, 3) := by decide +kernel
theorem dX5_isThere_15 : decode cX5_isThere 15 = .ok (.iconst 1, 1) := by decide +kernel
theorem dX5_isThere_16 : decode cX5_isThere 16 = .ok (.goto 4, 3) := by decide +kernel
theorem dX5_isThere_19 : decode cX5_isThere 19 = .ok (.iconst 0, 1) := by decide +kernel
theorem dX5_isThere_20 : decode cX5_isThere 20 = .ok (.ireturn, 1) := by decide +kernel
theorem dX5_areTwo_0 : decode cX5_areTwo 0 = .ok (.aload_n 0, 1) := by decide +kernel
theorem dX5_areTwo_1 : decode cX5_areTwo 1 = .ok (.iload_n 1, 1) := by decide +kernel
theorem dX5_areTwo_2 : decode cX5_areTwo 2 = .ok (.invokevirtual 73, 3) := by decide +kernel
theorem dX5_areTwo_5 : decode cX5_areTwo 5 = .ok (.ifCond .eq 20, 3) := by decide +kernel
theorem dX5_areTwo_8 : decode cX5_areTwo 8 = .ok (.aload_n 0, 1) := by decide +kernel
theorem dX5_areTwo_9 : decode cX5_areTwo 9 = .ok (.iload_n 2, 1) := by decide +kernel
theorem dX5_areTwo_10 : decode cX5_areTwo 10 = .ok (.invokevirtual 73, 3) := by decide +kernel
theorem dX5_areTwo_13 : decode cX5_areTwo 13 = .ok (.ifCond .eq 12, 3) := by decide +kernel
theorem dX5_areTwo_16 : decode cX5_areTwo 16 = .ok (.iload_n 1, 1) := by decide +kernel
theorem dX5_areTwo_17 : decode cX5_areTwo 17 = .ok (.iload_n 2, 1) := by decide +kernel
theorem dX5_areTwo_18 : decode cX5_areTwo 18 = .ok (.if_icmp .eq 7, 3) := by decide +kernel
theorem dX5_areTwo_21 : decode cX5_areTwo 21 = .ok (.iconst 1, 1) := by decide +kernel
theorem dX5_areTwo_22 : decode cX5_areTwo 22 = .ok (.goto 4, 3) := by decide +kernel
theorem dX5_areTwo_25 : decode cX5_areTwo 25 = .ok (.iconst 0, 1) := by decide +kernel
theorem dX5_areTwo_26 : decode cX5_areTwo 26 = .ok (.ireturn, 1) := by decide +kernel
theorem dX5_maySet_0 : decode cX5_maySet 0 = .ok (.iload_n 1, 1) := by decide +kernel
theorem dX5_maySet_1 : decode cX5_maySet 1 = .ok (.tableswitch 71 1 6 #[39, 46, 65, 46, 39, 39], 39) := by decide +kernel
theorem dX5_maySet_40 : decode cX5_maySet 40 = .ok (.iload_n 2, 1) := by decide +kernel
theorem dX5_maySet_41 : decode cX5_maySet 41 = .ok (.bipush 99, 2) := by decide +kernel
theorem dX5_maySet_43 : decode cX5_maySet 43 = .ok (.invokestatic 121, 3) := by decide +kernel
theorem dX5_maySet_46 : decode cX5_maySet 46 = .ok (.ireturn, 1) := by decide +kernel
theorem dX5_maySet_47 : decode cX5_maySet 47 = .ok (.iload_n 2, 1) := by decide +kernel
theorem dX5_maySet_48 : decode cX5_maySet 48 = .ok (.iconst (-1), 1) := by decide +kernel
theorem dX5_maySet_49 : decode cX5_maySet 49 = .ok (.if_icmp .eq 11, 3) := by decide +kernel
theorem dX5_maySet_52 : decode cX5_maySet 52 = .ok (.aload_n 0, 1) := by decide +kernel
theorem dX5_maySet_53 : decode cX5_maySet 53 = .ok (.iload_n 2, 1) := by decide +kernel
theorem dX5_maySet_54 : decode cX5_maySet 54 = .ok (.invokevirtual 73, 3) := by decide +kernel
theorem dX5_maySet_57 : decode cX5_maySet 57 = .ok (.ifCond .eq 7, 3) := by decide +kernel
theorem dX5_maySet_60 : decode cX5_maySet 60 = .ok (.iconst 1, 1) := by decide +kernel
theorem dX5_maySet_61 : decode cX5_maySet 61 = .ok (.goto 4, 3) := by decide +kernel
theorem dX5_maySet_64 : decode cX5_maySet 64 = .ok (.iconst 0, 1) := by decide +kernel
theorem dX5_maySet_65 : decode cX5_maySet 65 = .ok (.ireturn, 1) := by decide +kernel
theorem dX5_maySet_66 : decode cX5_maySet 66 = .ok (.iload_n 2, 1) := by decide +kernel
theorem dX5_maySet_67 : decode cX5_maySet 67 = .ok (.iconst 1, 1) := by decide +kernel
theorem dX5_maySet_68 : decode cX5_maySet 68 = .ok (.invokestatic 121, 3) := by decide +kernel
theorem dX5_maySet_71 : decode cX5_maySet 71 = .ok (.ireturn, 1) := by decide +kernel
theorem dX5_maySet_72 : decode cX5_maySet 72 = .ok (.iconst 0, 1) := by decide +kernel
theorem dX5_maySet_73 : decode cX5_maySet 73 = .ok (.ireturn, 1) := by decide +kernel
theorem dX5_trialOf_0 : decode cX5_trialOf 0 = .ok (.aload_n 0, 1) := by decide +kernel
theorem dX5_trialOf_1 : decode cX5_trialOf 1 = .ok (.getfield 25, 3) := by decide +kernel
theorem dX5_trialOf_4 : decode cX5_trialOf 4 = .ok (.aload_n 0, 1) := by decide +kernel
theorem dX5_trialOf_5 : decode cX5_trialOf 5 = .ok (.getfield 12, 3) := by decide +kernel
theorem dX5_trialOf_8 : decode cX5_trialOf 8 = .ok (.getfield 76, 3) := by decide +kernel
theorem dX5_trialOf_11 : decode cX5_trialOf 11 = .ok (.iload_n 1, 1) := by decide +kernel
theorem dX5_trialOf_12 : decode cX5_trialOf 12 = .ok (.aaload, 1) := by decide +kernel
theorem dX5_trialOf_13 : decode cX5_trialOf 13 = .ok (.invokevirtual 260, 3) := by decide +kernel
theorem dX5_trialOf_16 : decode cX5_trialOf 16 = .ok (.aload_n 0, 1) := by decide +kernel
theorem dX5_trialOf_17 : decode cX5_trialOf 17 = .ok (.getfield 25, 3) := by decide +kernel
theorem dX5_trialOf_20 : decode cX5_trialOf 20 = .ok (.areturn, 1) := by decide +kernel
theorem dX5_faultOfSheet_0 : decode cX5_faultOfSheet 0 = .ok (.iload_n 1, 1) := by decide +kernel
theorem dX5_faultOfSheet_1 : decode cX5_faultOfSheet 1 = .ok (.invokestatic 206, 3) := by decide +kernel
theorem dX5_faultOfSheet_4 : decode cX5_faultOfSheet 4 = .ok (.ifCond .ne 6, 3) := by decide +kernel
theorem dX5_faultOfSheet_7 : decode cX5_faultOfSheet 7 = .ok (.ldc 55, 2) := by decide +kernel
theorem dX5_faultOfSheet_9 : decode cX5_faultOfSheet 9 = .ok (.ireturn, 1) := by decide +kernel
theorem dX5_faultOfSheet_10 : decode cX5_faultOfSheet 10 = .ok (.aload_n 0, 1) := by decide +kernel
theorem dX5_faultOfSheet_11 : decode cX5_faultOfSheet 11 = .ok (.getfield 38, 3) := by decide +kernel
theorem dX5_faultOfSheet_14 : decode cX5_faultOfSheet 14 = .ok (.iload_n 1, 1) := by decide +kernel
theorem dX5_faultOfSheet_15 : decode cX5_faultOfSheet 15 = .ok (.aaload, 1) := by decide +kernel
theorem dX5_faultOfSheet_16 : decode cX5_faultOfSheet 16 = .ok (.invokevirtual 226, 3) := by decide +kernel
theorem dX5_faultOfSheet_19 : decode cX5_faultOfSheet 19 = .ok (.ifCond .eq 8, 3) := by decide +kernel
theorem dX5_faultOfSheet_22 : decode cX5_faultOfSheet 22 = .ok (.ldc 229, 2) := by decide +kernel
theorem dX5_faultOfSheet_24 : decode cX5_faultOfSheet 24 = .ok (.goto 4, 3) := by decide +kernel
theorem dX5_faultOfSheet_27 : decode cX5_faultOfSheet 27 = .ok (.iconst 0, 1) := by decide +kernel
theorem dX5_faultOfSheet_28 : decode cX5_faultOfSheet 28 = .ok (.ireturn, 1) := by decide +kernel
theorem dX5_faultOfSheetFor_0 : decode cX5_faultOfSheetFor 0 = .ok (.aload_n 0, 1) := by decide +kernel
theorem dX5_faultOfSheetFor_1 : decode cX5_faultOfSheetFor 1 = .ok (.iload_n 1, 1) := by decide +kernel
theorem dX5_faultOfSheetFor_2 : decode cX5_faultOfSheetFor 2 = .ok (.invokevirtual 216, 3) := by decide +kernel
theorem dX5_faultOfSheetFor_5 : decode cX5_faultOfSheetFor 5 = .ok (.istore_n 3, 1) := by decide +kernel
theorem dX5_faultOfSheetFor_6 : decode cX5_faultOfSheetFor 6 = .ok (.iload_n 3, 1) := by decide +kernel
theorem dX5_faultOfSheetFor_7 : decode cX5_faultOfSheetFor 7 = .ok (.ifCond .eq 5, 3) := by decide +kernel
theorem dX5_faultOfSheetFor_10 : decode cX5_faultOfSheetFor 10 = .ok (.iload_n 3, 1) := by decide +kernel
theorem dX5_faultOfSheetFor_11 : decode cX5_faultOfSheetFor 11 = .ok (.ireturn, 1) := by decide +kernel
theorem dX5_faultOfSheetFor_12 : decode cX5_faultOfSheetFor 12 = .ok (.aload_n 0, 1) := by decide +kernel
theorem dX5_faultOfSheetFor_13 : decode cX5_faultOfSheetFor 13 = .ok (.iload_n 2, 1) := by decide +kernel
theorem dX5_faultOfSheetFor_14 : decode cX5_faultOfSheetFor 14 = .ok (.invokevirtual 73, 3) := by decide +kernel
theorem dX5_faultOfSheetFor_17 : decode cX5_faultOfSheetFor 17 = .ok (.ifCond .eq 7, 3) := by decide +kernel
theorem dX5_faultOfSheetFor_20 : decode cX5_faultOfSheetFor 20 = .ok (.iconst 0, 1) := by decide +kernel
theorem dX5_faultOfSheetFor_21 : decode cX5_faultOfSheetFor 21 = .ok (.goto 5, 3) := by decide +kernel
theorem dX5_faultOfSheetFor_24 : decode cX5_faultOfSheetFor 24 = .ok (.ldc 55, 2) := by decide +kernel
theorem dX5_faultOfSheetFor_26 : decode cX5_faultOfSheetFor 26 = .ok (.ireturn, 1) := by decide +kernel
theorem dX5_isUpTo_0 : decode cX5_isUpTo 0 = .ok (.iload_n 0, 1) := by decide +kernel
theorem dX5_isUpTo_1 : decode cX5_isUpTo 1 = .ok (.ifCond .lt 12, 3) := by decide +kernel
theorem dX5_isUpTo_4 : decode cX5_isUpTo 4 = .ok (.iload_n 0, 1) := by decide +kernel
theorem dX5_isUpTo_5 : decode cX5_isUpTo 5 = .ok (.iload_n 1, 1) := by decide +kernel
theorem dX5_isUpTo_6 : decode cX5_isUpTo 6 = .ok (.if_icmp .gt 7, 3) := by decide +kernel
theorem dX5_isUpTo_9 : decode cX5_isUpTo 9 = .ok (.iconst 1, 1) := by decide +kernel
theorem dX5_isUpTo_10 : decode cX5_isUpTo 10 = .ok (.goto 4, 3) := by decide +kernel
theorem dX5_isUpTo_13 : decode cX5_isUpTo 13 = .ok (.iconst 0, 1) := by decide +kernel
theorem dX5_isUpTo_14 : decode cX5_isUpTo 14 = .ok (.ireturn, 1) := by decide +kernel
theorem dX5_isSheet_0 : decode cX5_isSheet 0 = .ok (.iload_n 0, 1) := by decide +kernel
theorem dX5_isSheet_1 : decode cX5_isSheet 1 = .ok (.ifCond .lt 12, 3) := by decide +kernel
theorem dX5_isSheet_4 : decode cX5_isSheet 4 = .ok (.iload_n 0, 1) := by decide +kernel
theorem dX5_isSheet_5 : decode cX5_isSheet 5 = .ok (.iconst 4, 1) := by decide +kernel
theorem dX5_isSheet_6 : decode cX5_isSheet 6 = .ok (.if_icmp .ge 7, 3) := by decide +kernel
theorem dX5_isSheet_9 : decode cX5_isSheet 9 = .ok (.iconst 1, 1) := by decide +kernel
theorem dX5_isSheet_10 : decode cX5_isSheet 10 = .ok (.goto 4, 3) := by decide +kernel
theorem dX5_isSheet_13 : decode cX5_isSheet 13 = .ok (.iconst 0, 1) := by decide +kernel
theorem dX5_isSheet_14 : decode cX5_isSheet 14 = .ok (.ireturn, 1) := by decide +kernel
theorem dX5_isKind_0 : decode cX5_isKind 0 = .ok (.iload_n 0, 1) := by decide +kernel
theorem dX5_isKind_1 : decode cX5_isKind 1 = .ok (.ifCond .lt 13, 3) := by decide +kernel
theorem dX5_isKind_4 : decode cX5_isKind 4 = .ok (.iload_n 0, 1) := by decide +kernel
theorem dX5_isKind_5 : decode cX5_isKind 5 = .ok (.bipush 6, 2) := by decide +kernel
theorem dX5_isKind_7 : decode cX5_isKind 7 = .ok (.if_icmp .ge 7, 3) := by decide +kernel
theorem dX5_isKind_10 : decode cX5_isKind 10 = .ok (.iconst 1, 1) := by decide +kernel
theorem dX5_isKind_11 : decode cX5_isKind 11 = .ok (.goto 4, 3) := by decide +kernel
theorem dX5_isKind_14 : decode cX5_isKind 14 = .ok (.iconst 0, 1) := by decide +kernel
theorem dX5_isKind_15 : decode cX5_isKind 15 = .ok (.ireturn, 1) := by decide +kernel
theorem dX5_isOrIsUnder_0 : decode cX5_isOrIsUnder 0 = .ok (.iload_n 0, 1) := by decide +kernel
theorem dX5_isOrIsUnder_1 : decode cX5_isOrIsUnder 1 = .ok (.istore_n 2, 1) := by decide +kernel
theorem dX5_isOrIsUnder_2 : decode cX5_isOrIsUnder 2 = .ok (.iconst 0, 1) := by decide +kernel
theorem dX5_isOrIsUnder_3 : decode cX5_isOrIsUnder 3 = .ok (.istore_n 3, 1) := by decide +kernel
theorem dX5_isOrIsUnder_4 : decode cX5_isOrIsUnder 4 = .ok (.iload_n 3, 1) := by decide +kernel
theorem dX5_isOrIsUnder_5 : decode cX5_isOrIsUnder 5 = .ok (.bipush 6, 2) := by decide +kernel
theorem dX5_isOrIsUnder_7 : decode cX5_isOrIsUnder 7 = .ok (.if_icmp .ge 29, 3) := by decide +kernel
theorem dX5_isOrIsUnder_10 : decode cX5_isOrIsUnder 10 = .ok (.iload_n 2, 1) := by decide +kernel
theorem dX5_isOrIsUnder_11 : decode cX5_isOrIsUnder 11 = .ok (.invokestatic 51, 3) := by decide +kernel
theorem dX5_isOrIsUnder_14 : decode cX5_isOrIsUnder 14 = .ok (.ifCond .eq 22, 3) := by decide +kernel
theorem dX5_isOrIsUnder_17 : decode cX5_isOrIsUnder 17 = .ok (.iload_n 2, 1) := by decide +kernel
theorem dX5_isOrIsUnder_18 : decode cX5_isOrIsUnder 18 = .ok (.iload_n 1, 1) := by decide +kernel
theorem dX5_isOrIsUnder_19 : decode cX5_isOrIsUnder 19 = .ok (.if_icmp .ne 5, 3) := by decide +kernel
theorem dX5_isOrIsUnder_22 : decode cX5_isOrIsUnder 22 = .ok (.iconst 1, 1) := by decide +kernel
theorem dX5_isOrIsUnder_23 : decode cX5_isOrIsUnder 23 = .ok (.ireturn, 1) := by decide +kernel
theorem dX5_isOrIsUnder_24 : decode cX5_isOrIsUnder 24 = .ok (.getstatic 262, 3) := by decide +kernel
theorem dX5_isOrIsUnder_27 : decode cX5_isOrIsUnder 27 = .ok (.iload_n 2, 1) := by decide +kernel
theorem dX5_isOrIsUnder_28 : decode cX5_isOrIsUnder 28 = .ok (.iaload, 1) := by decide +kernel
theorem dX5_isOrIsUnder_29 : decode cX5_isOrIsUnder 29 = .ok (.istore_n 2, 1) := by decide +kernel
theorem dX5_isOrIsUnder_30 : decode cX5_isOrIsUnder 30 = .ok (.iinc 3 1, 3) := by decide +kernel
theorem dX5_isOrIsUnder_33 : decode cX5_isOrIsUnder 33 = .ok (.goto (-29), 3) := by decide +kernel
theorem dX5_isOrIsUnder_36 : decode cX5_isOrIsUnder 36 = .ok (.iconst 0, 1) := by decide +kernel
theorem dX5_isOrIsUnder_37 : decode cX5_isOrIsUnder 37 = .ok (.ireturn, 1) := by decide +kernel
theorem dX5_daysTillForgiven_0 : decode cX5_daysTillForgiven 0 = .ok (.iconst 0, 1) := by decide +kernel
theorem dX5_daysTillForgiven_1 : decode cX5_daysTillForgiven 1 = .ok (.istore_n 1, 1) := by decide +kernel
theorem dX5_daysTillForgiven_2 : decode cX5_daysTillForgiven 2 = .ok (.iload_n 1, 1) := by decide +kernel
theorem dX5_daysTillForgiven_3 : decode cX5_daysTillForgiven 3 = .ok (.sipush 200, 3) := by decide +kernel
theorem dX5_daysTillForgiven_6 : decode cX5_daysTillForgiven 6 = .ok (.if_icmp .gt 22, 3) := by decide +kernel
theorem dX5_daysTillForgiven_9 : decode cX5_daysTillForgiven 9 = .ok (.aload_n 0, 1) := by decide +kernel
theorem dX5_daysTillForgiven_10 : decode cX5_daysTillForgiven 10 = .ok (.getfield 98, 3) := by decide +kernel
theorem dX5_daysTillForgiven_13 : decode cX5_daysTillForgiven 13 = .ok (.ifCond .ne 5, 3) := by decide +kernel
theorem dX5_daysTillForgiven_16 : decode cX5_daysTillForgiven 16 = .ok (.iload_n 1, 1) := by decide +kernel
theorem dX5_daysTillForgiven_17 : decode cX5_daysTillForgiven 17 = .ok (.ireturn, 1) := by decide +kernel
theorem dX5_daysTillForgiven_18 : decode cX5_daysTillForgiven 18 = .ok (.aload_n 0, 1) := by decide +kernel
theorem dX5_daysTillForgiven_19 : decode cX5_daysTillForgiven 19 = .ok (.invokevirtual 247, 3) := by decide +kernel
theorem dX5_daysTillForgiven_22 : decode cX5_daysTillForgiven 22 = .ok (.iinc 1 1, 3) := by decide +kernel
theorem dX5_daysTillForgiven_25 : decode cX5_daysTillForgiven 25 = .ok (.goto (-23), 3) := by decide +kernel
theorem dX5_daysTillForgiven_28 : decode cX5_daysTillForgiven 28 = .ok (.sipush 201, 3) := by decide +kernel
theorem dX5_daysTillForgiven_31 : decode cX5_daysTillForgiven 31 = .ok (.ireturn, 1) := by decide +kernel
theorem dX5_daysTillWornOut_0 : decode cX5_daysTillWornOut 0 = .ok (.iconst 0, 1) := by decide +kernel
theorem dX5_daysTillWornOut_1 : decode cX5_daysTillWornOut 1 = .ok (.istore_n 1, 1) := by decide +kernel
theorem dX5_daysTillWornOut_2 : decode cX5_daysTillWornOut 2 = .ok (.iload_n 1, 1) := by decide +kernel
theorem dX5_daysTillWornOut_3 : decode cX5_daysTillWornOut 3 = .ok (.sipush 200, 3) := by decide +kernel
theorem dX5_daysTillWornOut_6 : decode cX5_daysTillWornOut 6 = .ok (.if_icmp .gt 26, 3) := by decide +kernel
theorem dX5_daysTillWornOut_9 : decode cX5_daysTillWornOut 9 = .ok (.aload_n 0, 1) := by decide +kernel
theorem dX5_daysTillWornOut_10 : decode cX5_daysTillWornOut 10 = .ok (.getfield 152, 3) := by decide +kernel
theorem dX5_daysTillWornOut_13 : decode cX5_daysTillWornOut 13 = .ok (.aload_n 0, 1) := by decide +kernel
theorem dX5_daysTillWornOut_14 : decode cX5_daysTillWornOut 14 = .ok (.getfield 108, 3) := by decide +kernel
theorem dX5_daysTillWornOut_17 : decode cX5_daysTillWornOut 17 = .ok (.if_icmp .lt 5, 3) := by decide +kernel
theorem dX5_daysTillWornOut_20 : decode cX5_daysTillWornOut 20 = .ok (.iload_n 1, 1) := by decide +kernel
theorem dX5_daysTillWornOut_21 : decode cX5_daysTillWornOut 21 = .ok (.ireturn, 1) := by decide +kernel
theorem dX5_daysTillWornOut_22 : decode cX5_daysTillWornOut 22 = .ok (.aload_n 0, 1) := by decide +kernel
theorem dX5_daysTillWornOut_23 : decode cX5_daysTillWornOut 23 = .ok (.invokevirtual 247, 3) := by decide +kernel
theorem dX5_daysTillWornOut_26 : decode cX5_daysTillWornOut 26 = .ok (.iinc 1 1, 3) := by decide +kernel
theorem dX5_daysTillWornOut_29 : decode cX5_daysTillWornOut 29 = .ok (.goto (-27), 3) := by decide +kernel
theorem dX5_daysTillWornOut_32 : decode cX5_daysTillWornOut 32 = .ok (.sipush 201, 3) := by decide +kernel
theorem dX5_daysTillWornOut_35 : decode cX5_daysTillWornOut 35 = .ok (.ireturn, 1) := by decide +kernel
theorem dX5_daysTillUnseen_0 : decode cX5_daysTillUnseen 0 = .ok (.iconst 0, 1) := by decide +kernel
theorem dX5_daysTillUnseen_1 : decode cX5_daysTillUnseen 1 = .ok (.istore_n 2, 1) := by decide +kernel
theorem dX5_daysTillUnseen_2 : decode cX5_daysTillUnseen 2 = .ok (.iload_n 2, 1) := by decide +kernel
theorem dX5_daysTillUnseen_3 : decode cX5_daysTillUnseen 3 = .ok (.sipush 200, 3) := by decide +kernel
theorem dX5_daysTillUnseen_6 : decode cX5_daysTillUnseen 6 = .ok (.if_icmp .gt 27, 3) := by decide +kernel
theorem dX5_daysTillUnseen_9 : decode cX5_daysTillUnseen 9 = .ok (.aload_n 0, 1) := by decide +kernel
theorem dX5_daysTillUnseen_10 : decode cX5_daysTillUnseen 10 = .ok (.invokevirtual 142, 3) := by decide +kernel
theorem dX5_daysTillUnseen_13 : decode cX5_daysTillUnseen 13 = .ok (.iconst 1, 1) := by decide +kernel
theorem dX5_daysTillUnseen_14 : decode cX5_daysTillUnseen 14 = .ok (.iload_n 1, 1) := by decide +kernel
theorem dX5_daysTillUnseen_15 : decode cX5_daysTillUnseen 15 = .ok (.ishl, 1) := by decide +kernel
theorem dX5_daysTillUnseen_16 : decode cX5_daysTillUnseen 16 = .ok (.iand, 1) := by decide +kernel
theorem dX5_daysTillUnseen_17 : decode cX5_daysTillUnseen 17 = .ok (.ifCond .ne 5, 3) := by decide +kernel
theorem dX5_daysTillUnseen_20 : decode cX5_daysTillUnseen 20 = .ok (.iload_n 2, 1) := by decide +kernel
theorem dX5_daysTillUnseen_21 : decode cX5_daysTillUnseen 21 = .ok (.ireturn, 1) := by decide +kernel
theorem dX5_daysTillUnseen_22 : decode cX5_daysTillUnseen 22 = .ok (.aload_n 0, 1) := by decide +kernel
theorem dX5_daysTillUnseen_23 : decode cX5_daysTillUnseen 23 = .ok (.iconst 1, 1) := by decide +kernel
theorem dX5_daysTillUnseen_24 : decode cX5_daysTillUnseen 24 = .ok (.invokevirtual 131, 3) := by decide +kernel
theorem dX5_daysTillUnseen_27 : decode cX5_daysTillUnseen 27 = .ok (.iinc 2 1, 3) := by decide +kernel
theorem dX5_daysTillUnseen_30 : decode cX5_daysTillUnseen 30 = .ok (.goto (-28), 3) := by decide +kernel
theorem dX5_daysTillUnseen_33 : decode cX5_daysTillUnseen 33 = .ok (.sipush 201, 3) := by decide +kernel
theorem dX5_daysTillUnseen_36 : decode cX5_daysTillUnseen 36 = .ok (.ireturn, 1) := by decide +kernel
theorem dX5_goesAsTold_0 : decode cX5_goesAsTold 0 = .ok (.iconst 0, 1) := by decide +kernel
theorem dX5_goesAsTold_1 : decode cX5_goesAsTold 1 = .ok (.istore_n 2, 1) := by decide +kernel
theorem dX5_goesAsTold_2 : decode cX5_goesAsTold 2 = .ok (.iload_n 2, 1) := by decide +kernel
theorem dX5_goesAsTold_3 : decode cX5_goesAsTold 3 = .ok (.aload_n 1, 1) := by decide +kernel
theorem dX5_goesAsTold_4 : decode cX5_goesAsTold 4 = .ok (.getfield 213, 3) := by decide +kernel
theorem dX5_goesAsTold_7 : decode cX5_goesAsTold 7 = .ok (.if_icmp .ge 30, 3) := by decide +kernel
theorem dX5_goesAsTold_10 : decode cX5_goesAsTold 10 = .ok (.aload_n 1, 1) := by decide +kernel
theorem dX5_goesAsTold_11 : decode cX5_goesAsTold 11 = .ok (.getfield 219, 3) := by decide +kernel
theorem dX5_goesAsTold_14 : decode cX5_goesAsTold 14 = .ok (.iload_n 2, 1) := by decide +kernel
theorem dX5_goesAsTold_15 : decode cX5_goesAsTold 15 = .ok (.laload, 1) := by decide +kernel
theorem dX5_goesAsTold_16 : decode cX5_goesAsTold 16 = .ok (.aload_n 0, 1) := by decide +kernel
theorem dX5_goesAsTold_17 : decode cX5_goesAsTold 17 = .ok (.getfield 98, 3) := by decide +kernel
theorem dX5_goesAsTold_20 : decode cX5_goesAsTold 20 = .ok (.i2l, 1) := by decide +kernel
theorem dX5_goesAsTold_21 : decode cX5_goesAsTold 21 = .ok (.lcmp, 1) := by decide +kernel
theorem dX5_goesAsTold_22 : decode cX5_goesAsTold 22 = .ok (.ifCond .eq 5, 3) := by decide +kernel
theorem dX5_goesAsTold_25 : decode cX5_goesAsTold 25 = .ok (.iconst 0, 1) := by decide +kernel
theorem dX5_goesAsTold_26 : decode cX5_goesAsTold 26 = .ok (.ireturn, 1) := by decide +kernel
theorem dX5_goesAsTold_27 : decode cX5_goesAsTold 27 = .ok (.aload_n 0, 1) := by decide +kernel
theorem dX5_goesAsTold_28 : decode cX5_goesAsTold 28 = .ok (.invokevirtual 247, 3) := by decide +kernel
theorem dX5_goesAsTold_31 : decode cX5_goesAsTold 31 = .ok (.iinc 2 1, 3) := by decide +kernel
theorem dX5_goesAsTold_34 : decode cX5_goesAsTold 34 = .ok (.goto (-32), 3) := by decide +kernel
theorem dX5_goesAsTold_37 : decode cX5_goesAsTold 37 = .ok (.iconst 1, 1) := by decide +kernel
theorem dX5_goesAsTold_38 : decode cX5_goesAsTold 38 = .ok (.ireturn, 1) := by decide +kernel
