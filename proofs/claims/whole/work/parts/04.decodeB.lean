theorem dX6_init_0 : decode cX6_init 0 = .ok (.aload_n 0, 1) := by decide +kernel
theorem dX6_init_1 : decode cX6_init 1 = .ok (.invokespecial 3, 3) := by decide +kernel
theorem dX6_init_4 : decode cX6_init 4 = .ok (.aload_n 0, 1) := by decide +kernel
theorem dX6_init_5 : decode cX6_init 5 = .ok (.bipush 58, 2) := by decide +kernel
theorem dX6_init_7 : decode cX6_init 7 = .ok (.newarray .int, 2) := by decide +kernel
theorem dX6_init_9 : decode cX6_init 9 = .ok (.putfield 9, 3) := by decide +kernel
theorem dX6_init_12 : decode cX6_init 12 = .ok (.aload_n 0, 1) := by decide +kernel
theorem dX6_init_13 : decode cX6_init 13 = .ok (.bipush 58, 2) := by decide +kernel
theorem dX6_init_15 : decode cX6_init 15 = .ok (.newarray .int, 2) := by decide +kernel
theorem dX6_init_17 : decode cX6_init 17 = .ok (.putfield 13, 3) := by decide +kernel
theorem dX6_init_20 : decode cX6_init 20 = .ok (.aload_n 0, 1) := by decide +kernel
theorem dX6_init_21 : decode cX6_init 21 = .ok (.bipush 58, 2) := by decide +kernel
theorem dX6_init_23 : decode cX6_init 23 = .ok (.newarray .int, 2) := by decide +kernel
theorem dX6_init_25 : decode cX6_init 25 = .ok (.putfield 16, 3) := by decide +kernel
theorem dX6_init_28 : decode cX6_init 28 = .ok (.aload_n 0, 1) := by decide +kernel
theorem dX6_init_29 : decode cX6_init 29 = .ok (.bipush 7, 2) := by decide +kernel
theorem dX6_init_31 : decode cX6_init 31 = .ok (.newarray .int, 2) := by decide +kernel
theorem dX6_init_33 : decode cX6_init 33 = .ok (.putfield 19, 3) := by decide +kernel
theorem dX6_init_36 : decode cX6_init 36 = .ok (.aload_n 0, 1) := by decide +kernel
theorem dX6_init_37 : decode cX6_init 37 = .ok (.bipush 120, 2) := by decide +kernel
theorem dX6_init_39 : decode cX6_init 39 = .ok (.newarray .int, 2) := by decide +kernel
theorem dX6_init_41 : decode cX6_init 41 = .ok (.putfield 22, 3) := by decide +kernel
theorem dX6_init_44 : decode cX6_init 44 = .ok (.aload_n 0, 1) := by decide +kernel
theorem dX6_init_45 : decode cX6_init 45 = .ok (.iconst 4, 1) := by decide +kernel
theorem dX6_init_46 : decode cX6_init 46 = .ok (.newarray .int, 2) := by decide +kernel
theorem dX6_init_48 : decode cX6_init 48 = .ok (.putfield 25, 3) := by decide +kernel
theorem dX6_init_51 : decode cX6_init 51 = .ok (.aload_n 0, 1) := by decide +kernel
theorem dX6_init_52 : decode cX6_init 52 = .ok (.iconst 4, 1) := by decide +kernel
theorem dX6_init_53 : decode cX6_init 53 = .ok (.newarray .int, 2) := by decide +kernel
theorem dX6_init_55 : decode cX6_init 55 = .ok (.putfield 28, 3) := by decide +kernel
theorem dX6_init_58 : decode cX6_init 58 = .ok (.aload_n 0, 1) := by decide +kernel
theorem dX6_init_59 : decode cX6_init 59 = .ok (.sipush 160, 3) := by decide +kernel
theorem dX6_init_62 : decode cX6_init 62 = .ok (.newarray .long, 2) := by decide +kernel
theorem dX6_init_64 : decode cX6_init 64 = .ok (.putfield 31, 3) := by decide +kernel
theorem dX6_init_67 : decode cX6_init 67 = .ok (.aload_n 0, 1) := by decide +kernel
theorem dX6_init_68 : decode cX6_init 68 = .ok (.getfield 9, 3) := by decide +kernel
theorem dX6_init_71 : decode cX6_init 71 = .ok (.iconst 1, 1) := by decide +kernel
theorem dX6_init_72 : decode cX6_init 72 = .ok (.iconst 0, 1) := by decide +kernel
theorem dX6_init_73 : decode cX6_init 73 = .ok (.iastore, 1) := by decide +kernel
theorem dX6_init_74 : decode cX6_init 74 = .ok (.return_, 1) := by decide +kernel
theorem dX6_finds_0 : decode cX6_finds 0 = .ok (.aload_n 0, 1) := by decide +kernel
theorem dX6_finds_1 : decode cX6_finds 1 = .ok (.getfield 19, 3) := by decide +kernel
theorem dX6_finds_4 : decode cX6_finds 4 = .ok (.ldc 35, 2) := by decide +kernel
theorem dX6_finds_6 : decode cX6_finds 6 = .ok (.iload_n 1, 1) := by decide +kernel
theorem dX6_finds_7 : decode cX6_finds 7 = .ok (.isub, 1) := by decide +kernel
theorem dX6_finds_8 : decode cX6_finds 8 = .ok (.dup2, 1) := by decide +kernel
theorem dX6_finds_9 : decode cX6_finds 9 = .ok (.iaload, 1) := by decide +kernel
theorem dX6_finds_10 : decode cX6_finds 10 = .ok (.iconst 1, 1) := by decide +kernel
theorem dX6_finds_11 : decode cX6_finds 11 = .ok (.iadd, 1) := by decide +kernel
theorem dX6_finds_12 : decode cX6_finds 12 = .ok (.iastore, 1) := by decide +kernel
theorem dX6_finds_13 : decode cX6_finds 13 = .ok (.iload_n 1, 1) := by decide +kernel
theorem dX6_finds_14 : decode cX6_finds 14 = .ok (.ireturn, 1) := by decide +kernel
theorem dX6_orNone_0 : decode cX6_orNone 0 = .ok (.iload_n 1, 1) := by decide +kernel
theorem dX6_orNone_1 : decode cX6_orNone 1 = .ok (.ifCond .ge 12, 3) := by decide +kernel
theorem dX6_orNone_4 : decode cX6_orNone 4 = .ok (.aload_n 0, 1) := by decide +kernel
theorem dX6_orNone_5 : decode cX6_orNone 5 = .ok (.ldc 36, 2) := by decide +kernel
theorem dX6_orNone_7 : decode cX6_orNone 7 = .ok (.invokevirtual 37, 3) := by decide +kernel
theorem dX6_orNone_10 : decode cX6_orNone 10 = .ok (.goto 4, 3) := by decide +kernel
theorem dX6_orNone_13 : decode cX6_orNone 13 = .ok (.iload_n 1, 1) := by decide +kernel
theorem dX6_orNone_14 : decode cX6_orNone 14 = .ok (.ireturn, 1) := by decide +kernel
theorem dX6_in_0 : decode cX6_in 0 = .ok (.lload_n 0, 1) := by decide +kernel
theorem dX6_in_1 : decode cX6_in 1 = .ok (.iload_n 2, 1) := by decide +kernel
theorem dX6_in_2 : decode cX6_in 2 = .ok (.i2l, 1) := by decide +kernel
theorem dX6_in_3 : decode cX6_in 3 = .ok (.lcmp, 1) := by decide +kernel
theorem dX6_in_4 : decode cX6_in 4 = .ok (.ifCond .lt 14, 3) := by decide +kernel
theorem dX6_in_7 : decode cX6_in 7 = .ok (.lload_n 0, 1) := by decide +kernel
theorem dX6_in_8 : decode cX6_in 8 = .ok (.iload_n 3, 1) := by decide +kernel
theorem dX6_in_9 : decode cX6_in 9 = .ok (.i2l, 1) := by decide +kernel
theorem dX6_in_10 : decode cX6_in 10 = .ok (.lcmp, 1) := by decide +kernel
theorem dX6_in_11 : decode cX6_in 11 = .ok (.ifCond .gt 7, 3) := by decide +kernel
theorem dX6_in_14 : decode cX6_in 14 = .ok (.iconst 1, 1) := by decide +kernel
theorem dX6_in_15 : decode cX6_in 15 = .ok (.goto 4, 3) := by decide +kernel
theorem dX6_in_18 : decode cX6_in 18 = .ok (.iconst 0, 1) := by decide +kernel
theorem dX6_in_19 : decode cX6_in 19 = .ok (.ireturn, 1) := by decide +kernel
theorem dX6_held_0 : decode cX6_held 0 = .ok (.iload_n 0, 1) := by decide +kernel
theorem dX6_held_1 : decode cX6_held 1 = .ok (.iload_n 1, 1) := by decide +kernel
theorem dX6_held_2 : decode cX6_held 2 = .ok (.if_icmp .ge 7, 3) := by decide +kernel
theorem dX6_held_5 : decode cX6_held 5 = .ok (.iload_n 1, 1) := by decide +kernel
theorem dX6_held_6 : decode cX6_held 6 = .ok (.goto 13, 3) := by decide +kernel
theorem dX6_held_9 : decode cX6_held 9 = .ok (.iload_n 0, 1) := by decide +kernel
theorem dX6_held_10 : decode cX6_held 10 = .ok (.iload_n 2, 1) := by decide +kernel
theorem dX6_held_11 : decode cX6_held 11 = .ok (.if_icmp .le 7, 3) := by decide +kernel
theorem dX6_held_14 : decode cX6_held 14 = .ok (.iload_n 2, 1) := by decide +kernel
theorem dX6_held_15 : decode cX6_held 15 = .ok (.goto 4, 3) := by decide +kernel
theorem dX6_held_18 : decode cX6_held 18 = .ok (.iload_n 0, 1) := by decide +kernel
theorem dX6_held_19 : decode cX6_held 19 = .ok (.ireturn, 1) := by decide +kernel
theorem dX6_copyAll_0 : decode cX6_copyAll 0 = .ok (.iconst 0, 1) := by decide +kernel
theorem dX6_copyAll_1 : decode cX6_copyAll 1 = .ok (.istore_n 2, 1) := by decide +kernel
theorem dX6_copyAll_2 : decode cX6_copyAll 2 = .ok (.iload_n 2, 1) := by decide +kernel
theorem dX6_copyAll_3 : decode cX6_copyAll 3 = .ok (.bipush 58, 2) := by decide +kernel
theorem dX6_copyAll_5 : decode cX6_copyAll 5 = .ok (.if_icmp .ge 15, 3) := by decide +kernel
theorem dX6_copyAll_8 : decode cX6_copyAll 8 = .ok (.aload_n 1, 1) := by decide +kernel
theorem dX6_copyAll_9 : decode cX6_copyAll 9 = .ok (.iload_n 2, 1) := by decide +kernel
theorem dX6_copyAll_10 : decode cX6_copyAll 10 = .ok (.aload_n 0, 1) := by decide +kernel
theorem dX6_copyAll_11 : decode cX6_copyAll 11 = .ok (.iload_n 2, 1) := by decide +kernel
theorem dX6_copyAll_12 : decode cX6_copyAll 12 = .ok (.iaload, 1) := by decide +kernel
theorem dX6_copyAll_13 : decode cX6_copyAll 13 = .ok (.iastore, 1) := by decide +kernel
theorem dX6_copyAll_14 : decode cX6_copyAll 14 = .ok (.iinc 2 1, 3) := by decide +kernel
theorem dX6_copyAll_17 : decode cX6_copyAll 17 = .ok (.goto (-15), 3) := by decide +kernel
theorem dX6_copyAll_20 : decode cX6_copyAll 20 = .ok (.return_, 1) := by decide +kernel
theorem dX6_bits_0 : decode cX6_bits 0 = .ok (.iconst 0, 1) := by decide +kernel
theorem dX6_bits_1 : decode cX6_bits 1 = .ok (.istore_n 1, 1) := by decide +kernel
theorem dX6_bits_2 : decode cX6_bits 2 = .ok (.iload_n 0, 1) := by decide +kernel
theorem dX6_bits_3 : decode cX6_bits 3 = .ok (.istore_n 2, 1) := by decide +kernel
theorem dX6_bits_4 : decode cX6_bits 4 = .ok (.iload_n 2, 1) := by decide +kernel
theorem dX6_bits_5 : decode cX6_bits 5 = .ok (.ifCond .eq 15, 3) := by decide +kernel
theorem dX6_bits_8 : decode cX6_bits 8 = .ok (.iinc 1 1, 3) := by decide +kernel
theorem dX6_bits_11 : decode cX6_bits 11 = .ok (.iload_n 2, 1) := by decide +kernel
theorem dX6_bits_12 : decode cX6_bits 12 = .ok (.iload_n 2, 1) := by decide +kernel
theorem dX6_bits_13 : decode cX6_bits 13 = .ok (.iconst 1, 1) := by decide +kernel
theorem dX6_bits_14 : decode cX6_bits 14 = .ok (.isub, 1) := by decide +kernel
theorem dX6_bits_15 : decode cX6_bits 15 = .ok (.iand, 1) := by decide +kernel
theorem dX6_bits_16 : decode cX6_bits 16 = .ok (.istore_n 2, 1) := by decide +kernel
theorem dX6_bits_17 : decode cX6_bits 17 = .ok (.goto (-13), 3) := by decide +kernel
theorem dX6_bits_20 : decode cX6_bits 20 = .ok (.iload_n 1, 1) := by decide +kernel
theorem dX6_bits_21 : decode cX6_bits 21 = .ok (.ireturn, 1) := by decide +kernel
theorem dX6_becomes_0 : decode cX6_becomes 0 = .ok (.aload_n 0, 1) := by decide +kernel
theorem dX6_becomes_1 : decode cX6_becomes 1 = .ok (.getfield 9, 3) := by decide +kernel
theorem dX6_becomes_4 : decode cX6_becomes 4 = .ok (.iload_n 1, 1) := by decide +kernel
theorem dX6_becomes_5 : decode cX6_becomes 5 = .ok (.iaload, 1) := by decide +kernel
theorem dX6_becomes_6 : decode cX6_becomes 6 = .ok (.istore_n 3, 1) := by decide +kernel
theorem dX6_becomes_7 : decode cX6_becomes 7 = .ok (.aload_n 0, 1) := by decide +kernel
theorem dX6_becomes_8 : decode cX6_becomes 8 = .ok (.getfield 9, 3) := by decide +kernel
theorem dX6_becomes_11 : decode cX6_becomes 11 = .ok (.iload_n 1, 1) := by decide +kernel
theorem dX6_becomes_12 : decode cX6_becomes 12 = .ok (.iload_n 2, 1) := by decide +kernel
theorem dX6_becomes_13 : decode cX6_becomes 13 = .ok (.iastore, 1) := by decide +kernel
theorem dX6_becomes_14 : decode cX6_becomes 14 = .ok (.iload_n 3, 1) := by decide +kernel
theorem dX6_becomes_15 : decode cX6_becomes 15 = .ok (.ireturn, 1) := by decide +kernel
theorem dX6_isPerson_0 : decode cX6_isPerson 0 = .ok (.iload_n 1, 1) := by decide +kernel
theorem dX6_isPerson_1 : decode cX6_isPerson 1 = .ok (.i2l, 1) := by decide +kernel
theorem dX6_isPerson_2 : decode cX6_isPerson 2 = .ok (.iconst 0, 1) := by decide +kernel
theorem dX6_isPerson_3 : decode cX6_isPerson 3 = .ok (.aload_n 0, 1) := by decide +kernel
theorem dX6_isPerson_4 : decode cX6_isPerson 4 = .ok (.getfield 9, 3) := by decide +kernel
theorem dX6_isPerson_7 : decode cX6_isPerson 7 = .ok (.iconst 1, 1) := by decide +kernel
theorem dX6_isPerson_8 : decode cX6_isPerson 8 = .ok (.iaload, 1) := by decide +kernel
theorem dX6_isPerson_9 : decode cX6_isPerson 9 = .ok (.iconst 1, 1) := by decide +kernel
theorem dX6_isPerson_10 : decode cX6_isPerson 10 = .ok (.isub, 1) := by decide +kernel
theorem dX6_isPerson_11 : decode cX6_isPerson 11 = .ok (.invokestatic 41, 3) := by decide +kernel
theorem dX6_isPerson_14 : decode cX6_isPerson 14 = .ok (.ireturn, 1) := by decide +kernel
theorem dX6_areTwo_0 : decode cX6_areTwo 0 = .ok (.aload_n 0, 1) := by decide +kernel
theorem dX6_areTwo_1 : decode cX6_areTwo 1 = .ok (.iload_n 1, 1) := by decide +kernel
theorem dX6_areTwo_2 : decode cX6_areTwo 2 = .ok (.invokevirtual 45, 3) := by decide +kernel
theorem dX6_areTwo_5 : decode cX6_areTwo 5 = .ok (.ifCond .eq 20, 3) := by decide +kernel
theorem dX6_areTwo_8 : decode cX6_areTwo 8 = .ok (.aload_n 0, 1) := by decide +kernel
theorem dX6_areTwo_9 : decode cX6_areTwo 9 = .ok (.iload_n 2, 1) := by decide +kernel
theorem dX6_areTwo_10 : decode cX6_areTwo 10 = .ok (.invokevirtual 45, 3) := by decide +kernel
theorem dX6_areTwo_13 : decode cX6_areTwo 13 = .ok (.ifCond .eq 12, 3) := by decide +kernel
theorem dX6_areTwo_16 : decode cX6_areTwo 16 = .ok (.iload_n 1, 1) := by decide +kernel
theorem dX6_areTwo_17 : decode cX6_areTwo 17 = .ok (.iload_n 2, 1) := by decide +kernel
theorem dX6_areTwo_18 : decode cX6_areTwo 18 = .ok (.if_icmp .eq 7, 3) := by decide +kernel
theorem dX6_areTwo_21 : decode cX6_areTwo 21 = .ok (.iconst 1, 1) := by decide +kernel
theorem dX6_areTwo_22 : decode cX6_areTwo 22 = .ok (.goto 4, 3) := by decide +kernel
theorem dX6_areTwo_25 : decode cX6_areTwo 25 = .ok (.iconst 0, 1) := by decide +kernel
theorem dX6_areTwo_26 : decode cX6_areTwo 26 = .ok (.ireturn, 1) := by decide +kernel
theorem dX6_it_0 : decode cX6_it 0 = .ok (.aload_n 0, 1) := by decide +kernel
theorem dX6_it_1 : decode cX6_it 1 = .ok (.getfield 9, 3) := by decide +kernel
theorem dX6_it_4 : decode cX6_it 4 = .ok (.iconst 2, 1) := by decide +kernel
theorem dX6_it_5 : decode cX6_it 5 = .ok (.bipush 7, 2) := by decide +kernel
theorem dX6_it_7 : decode cX6_it 7 = .ok (.iload_n 1, 1) := by decide +kernel
theorem dX6_it_8 : decode cX6_it 8 = .ok (.imul, 1) := by decide +kernel
theorem dX6_it_9 : decode cX6_it 9 = .ok (.iadd, 1) := by decide +kernel
theorem dX6_it_10 : decode cX6_it 10 = .ok (.iload_n 2, 1) := by decide +kernel
theorem dX6_it_11 : decode cX6_it 11 = .ok (.iadd, 1) := by decide +kernel
theorem dX6_it_12 : decode cX6_it 12 = .ok (.iaload, 1) := by decide +kernel
theorem dX6_it_13 : decode cX6_it 13 = .ok (.ireturn, 1) := by decide +kernel
theorem dX6_put_0 : decode cX6_put 0 = .ok (.aload_n 0, 1) := by decide +kernel
theorem dX6_put_1 : decode cX6_put 1 = .ok (.getfield 9, 3) := by decide +kernel
theorem dX6_put_4 : decode cX6_put 4 = .ok (.iconst 2, 1) := by decide +kernel
theorem dX6_put_5 : decode cX6_put 5 = .ok (.bipush 7, 2) := by decide +kernel
theorem dX6_put_7 : decode cX6_put 7 = .ok (.iload_n 1, 1) := by decide +kernel
theorem dX6_put_8 : decode cX6_put 8 = .ok (.imul, 1) := by decide +kernel
theorem dX6_put_9 : decode cX6_put 9 = .ok (.iadd, 1) := by decide +kernel
theorem dX6_put_10 : decode cX6_put 10 = .ok (.iload_n 2, 1) := by decide +kernel
theorem dX6_put_11 : decode cX6_put 11 = .ok (.iadd, 1) := by decide +kernel
theorem dX6_put_12 : decode cX6_put 12 = .ok (.iload_n 3, 1) := by decide +kernel
theorem dX6_put_13 : decode cX6_put 13 = .ok (.iastore, 1) := by decide +kernel
theorem dX6_put_14 : decode cX6_put 14 = .ok (.return_, 1) := by decide +kernel
theorem dX6_grinds_0 : decode cX6_grinds 0 = .ok (.aload_n 0, 1) := by decide +kernel
theorem dX6_grinds_1 : decode cX6_grinds 1 = .ok (.iload_n 1, 1) := by decide +kernel
theorem dX6_grinds_2 : decode cX6_grinds 2 = .ok (.iconst 1, 1) := by decide +kernel
theorem dX6_grinds_3 : decode cX6_grinds 3 = .ok (.invokevirtual 49, 3) := by decide +kernel
theorem dX6_grinds_6 : decode cX6_grinds 6 = .ok (.istore_n 2, 1) := by decide +kernel
theorem dX6_grinds_7 : decode cX6_grinds 7 = .ok (.iload_n 2, 1) := by decide +kernel
theorem dX6_grinds_8 : decode cX6_grinds 8 = .ok (.istore_n 3, 1) := by decide +kernel
theorem dX6_grinds_9 : decode cX6_grinds 9 = .ok (.aload_n 0, 1) := by decide +kernel
theorem dX6_grinds_10 : decode cX6_grinds 10 = .ok (.iload_n 1, 1) := by decide +kernel
theorem dX6_grinds_11 : decode cX6_grinds 11 = .ok (.iconst 0, 1) := by decide +kernel
theorem dX6_grinds_12 : decode cX6_grinds 12 = .ok (.invokevirtual 49, 3) := by decide +kernel
theorem dX6_grinds_15 : decode cX6_grinds 15 = .ok (.tableswitch 71 1 5 #[33, 41, 48, 53, 61], 33) := by decide +kernel
theorem dX6_grinds_48 : decode cX6_grinds 48 = .ok (.iload_n 2, 1) := by decide +kernel
theorem dX6_grinds_49 : decode cX6_grinds 49 = .ok (.bipush 10, 2) := by decide +kernel
theorem dX6_grinds_51 : decode cX6_grinds 51 = .ok (.iadd, 1) := by decide +kernel
theorem dX6_grinds_52 : decode cX6_grinds 52 = .ok (.istore_n 3, 1) := by decide +kernel
theorem dX6_grinds_53 : decode cX6_grinds 53 = .ok (.goto 33, 3) := by decide +kernel
theorem dX6_grinds_56 : decode cX6_grinds 56 = .ok (.iload_n 2, 1) := by decide +kernel
theorem dX6_grinds_57 : decode cX6_grinds 57 = .ok (.iconst 2, 1) := by decide +kernel
theorem dX6_grinds_58 : decode cX6_grinds 58 = .ok (.idiv, 1) := by decide +kernel
theorem dX6_grinds_59 : decode cX6_grinds 59 = .ok (.istore_n 3, 1) := by decide +kernel
theorem dX6_grinds_60 : decode cX6_grinds 60 = .ok (.goto 26, 3) := by decide +kernel
theorem dX6_grinds_63 : decode cX6_grinds 63 = .ok (.iconst 0, 1) := by decide +kernel
theorem dX6_grinds_64 : decode cX6_grinds 64 = .ok (.istore_n 3, 1) := by decide +kernel
theorem dX6_grinds_65 : decode cX6_grinds 65 = .ok (.goto 21, 3) := by decide +kernel
theorem dX6_grinds_68 : decode cX6_grinds 68 = .ok (.iload_n 2, 1) := by decide +kernel
theorem dX6_grinds_69 : decode cX6_grinds 69 = .ok (.bipush 20, 2) := by decide +kernel
theorem dX6_grinds_71 : decode cX6_grinds 71 = .ok (.iadd, 1) := by decide +kernel
theorem dX6_grinds_72 : decode cX6_grinds 72 = .ok (.istore_n 3, 1) := by decide +kernel
theorem dX6_grinds_73 : decode cX6_grinds 73 = .ok (.goto 13, 3) := by decide +kernel
theorem dX6_grinds_76 : decode cX6_grinds 76 = .ok (.iload_n 2, 1) := by decide +kernel
theorem dX6_grinds_77 : decode cX6_grinds 77 = .ok (.iconst 2, 1) := by decide +kernel
theorem dX6_grinds_78 : decode cX6_grinds 78 = .ok (.idiv, 1) := by decide +kernel
theorem dX6_grinds_79 : decode cX6_grinds 79 = .ok (.bipush 20, 2) := by decide +kernel
theorem dX6_grinds_81 : decode cX6_grinds 81 = .ok (.iadd, 1) := by decide +kernel
theorem dX6_grinds_82 : decode cX6_grinds 82 = .ok (.istore_n 3, 1) := by decide +kernel
theorem dX6_grinds_83 : decode cX6_grinds 83 = .ok (.goto 3, 3) := by decide +kernel
theorem dX6_grinds_86 : decode cX6_grinds 86 = .ok (.iload_n 3, 1) := by decide +kernel
theorem dX6_grinds_87 : decode cX6_grinds 87 = .ok (.iconst 0, 1) := by decide +kernel
theorem dX6_grinds_88 : decode cX6_grinds 88 = .ok (.bipush 99, 2) := by decide +kernel
theorem dX6_grinds_90 : decode cX6_grinds 90 = .ok (.invokestatic 53, 3) := by decide +kernel
theorem dX6_grinds_93 : decode cX6_grinds 93 = .ok (.ireturn, 1) := by decide +kernel
theorem dX6_looksAt_0 : decode cX6_looksAt 0 = .ok (.aload_n 0, 1) := by decide +kernel
theorem dX6_looksAt_1 : decode cX6_looksAt 1 = .ok (.iload_n 1, 1) := by decide +kernel
theorem dX6_looksAt_2 : decode cX6_looksAt 2 = .ok (.iconst 3, 1) := by decide +kernel
theorem dX6_looksAt_3 : decode cX6_looksAt 3 = .ok (.invokevirtual 49, 3) := by decide +kernel
theorem dX6_looksAt_6 : decode cX6_looksAt 6 = .ok (.iconst 1, 1) := by decide +kernel
theorem dX6_looksAt_7 : decode cX6_looksAt 7 = .ok (.if_icmp .ne 6, 3) := by decide +kernel
theorem dX6_looksAt_10 : decode cX6_looksAt 10 = .ok (.bipush 50, 2) := by decide +kernel
theorem dX6_looksAt_12 : decode cX6_looksAt 12 = .ok (.ireturn, 1) := by decide +kernel
theorem dX6_looksAt_13 : decode cX6_looksAt 13 = .ok (.aload_n 0, 1) := by decide +kernel
theorem dX6_looksAt_14 : decode cX6_looksAt 14 = .ok (.iload_n 1, 1) := by decide +kernel
theorem dX6_looksAt_15 : decode cX6_looksAt 15 = .ok (.iconst 5, 1) := by decide +kernel
theorem dX6_looksAt_16 : decode cX6_looksAt 16 = .ok (.invokevirtual 49, 3) := by decide +kernel
theorem dX6_looksAt_19 : decode cX6_looksAt 19 = .ok (.aload_n 0, 1) := by decide +kernel
theorem dX6_looksAt_20 : decode cX6_looksAt 20 = .ok (.iload_n 1, 1) := by decide +kernel
theorem dX6_looksAt_21 : decode cX6_looksAt 21 = .ok (.bipush 6, 2) := by decide +kernel
theorem dX6_looksAt_23 : decode cX6_looksAt 23 = .ok (.invokevirtual 49, 3) := by decide +kernel
theorem dX6_looksAt_26 : decode cX6_looksAt 26 = .ok (.isub, 1) := by decide +kernel
theorem dX6_looksAt_27 : decode cX6_looksAt 27 = .ok (.istore_n 3, 1) := by decide +kernel
theorem dX6_looksAt_28 : decode cX6_looksAt 28 = .ok (.iload_n 2, 1) := by decide +kernel
theorem dX6_looksAt_29 : decode cX6_looksAt 29 = .ok (.aload_n 0, 1) := by decide +kernel
theorem dX6_looksAt_30 : decode cX6_looksAt 30 = .ok (.iload_n 1, 1) := by decide +kernel
theorem dX6_looksAt_31 : decode cX6_looksAt 31 = .ok (.iconst 4, 1) := by decide +kernel
theorem dX6_looksAt_32 : decode cX6_looksAt 32 = .ok (.invokevirtual 49, 3) := by decide +kernel
theorem dX6_looksAt_35 : decode cX6_looksAt 35 = .ok (.if_icmp .ne 13, 3) := by decide +kernel
theorem dX6_looksAt_38 : decode cX6_looksAt 38 = .ok (.iload_n 3, 1) := by decide +kernel
theorem dX6_looksAt_39 : decode cX6_looksAt 39 = .ok (.iconst 0, 1) := by decide +kernel
theorem dX6_looksAt_40 : decode cX6_looksAt 40 = .ok (.bipush 99, 2) := by decide +kernel
theorem dX6_looksAt_42 : decode cX6_looksAt 42 = .ok (.invokestatic 53, 3) := by decide +kernel
theorem dX6_looksAt_45 : decode cX6_looksAt 45 = .ok (.goto 12, 3) := by decide +kernel
theorem dX6_looksAt_48 : decode cX6_looksAt 48 = .ok (.aload_n 0, 1) := by decide +kernel
theorem dX6_looksAt_49 : decode cX6_looksAt 49 = .ok (.iload_n 1, 1) := by decide +kernel
theorem dX6_looksAt_50 : decode cX6_looksAt 50 = .ok (.bipush 6, 2) := by decide +kernel
theorem dX6_looksAt_52 : decode cX6_looksAt 52 = .ok (.invokevirtual 49, 3) := by decide +kernel
theorem dX6_looksAt_55 : decode cX6_looksAt 55 = .ok (.iconst 2, 1) := by decide +kernel
theorem dX6_looksAt_56 : decode cX6_looksAt 56 = .ok (.idiv, 1) := by decide +kernel
theorem dX6_looksAt_57 : decode cX6_looksAt 57 = .ok (.istore 4, 2) := by decide +kernel
theorem dX6_looksAt_59 : decode cX6_looksAt 59 = .ok (.iload 4, 2) := by decide +kernel
theorem dX6_looksAt_61 : decode cX6_looksAt 61 = .ok (.iload_n 2, 1) := by decide +kernel
theorem dX6_looksAt_62 : decode cX6_looksAt 62 = .ok (.iload_n 1, 1) := by decide +kernel
theorem dX6_looksAt_63 : decode cX6_looksAt 63 = .ok (.iconst 1, 1) := by decide +kernel
theorem dX6_looksAt_64 : decode cX6_looksAt 64 = .ok (.iadd, 1) := by decide +kernel
theorem dX6_looksAt_65 : decode cX6_looksAt 65 = .ok (.if_icmp .ne 7, 3) := by decide +kernel
theorem dX6_looksAt_68 : decode cX6_looksAt 68 = .ok (.iconst 5, 1) := by decide +kernel
theorem dX6_looksAt_69 : decode cX6_looksAt 69 = .ok (.goto 4, 3) := by decide +kernel
theorem dX6_looksAt_72 : decode cX6_looksAt 72 = .ok (.iconst 0, 1) := by decide +kernel
theorem dX6_looksAt_73 : decode cX6_looksAt 73 = .ok (.iadd, 1) := by decide +kernel
theorem dX6_looksAt_74 : decode cX6_looksAt 74 = .ok (.istore 5, 2) := by decide +kernel
theorem dX6_looksAt_76 : decode cX6_looksAt 76 = .ok (.iload_n 2, 1) := by decide +kernel
theorem dX6_looksAt_77 : decode cX6_looksAt 77 = .ok (.iload_n 1, 1) := by decide +kernel
theorem dX6_looksAt_78 : decode cX6_looksAt 78 = .ok (.if_icmp .ge 10, 3) := by decide +kernel
theorem dX6_looksAt_81 : decode cX6_looksAt 81 = .ok (.iconst 2, 1) := by decide +kernel
theorem dX6_looksAt_82 : decode cX6_looksAt 82 = .ok (.iload 4, 2) := by decide +kernel
theorem dX6_looksAt_84 : decode cX6_looksAt 84 = .ok (.imul, 1) := by decide +kernel
theorem dX6_looksAt_85 : decode cX6_looksAt 85 = .ok (.goto 5, 3) := by decide +kernel
theorem dX6_looksAt_88 : decode cX6_looksAt 88 = .ok (.iload 4, 2) := by decide +kernel
theorem dX6_looksAt_90 : decode cX6_looksAt 90 = .ok (.istore 6, 2) := by decide +kernel
theorem dX6_looksAt_92 : decode cX6_looksAt 92 = .ok (.aload_n 0, 1) := by decide +kernel
theorem dX6_looksAt_93 : decode cX6_looksAt 93 = .ok (.iload_n 1, 1) := by decide +kernel
theorem dX6_looksAt_94 : decode cX6_looksAt 94 = .ok (.iconst 0, 1) := by decide +kernel
theorem dX6_looksAt_95 : decode cX6_looksAt 95 = .ok (.invokevirtual 49, 3) := by decide +kernel
theorem dX6_looksAt_98 : decode cX6_looksAt 98 = .ok (.tableswitch 72 1 5 #[34, 37, 40, 43, 59], 34) := by decide +kernel
theorem dX6_looksAt_132 : decode cX6_looksAt 132 = .ok (.iload 5, 2) := by decide +kernel
theorem dX6_looksAt_134 : decode cX6_looksAt 134 = .ok (.ireturn, 1) := by decide +kernel
theorem dX6_looksAt_135 : decode cX6_looksAt 135 = .ok (.iload 6, 2) := by decide +kernel
theorem dX6_looksAt_137 : decode cX6_looksAt 137 = .ok (.ireturn, 1) := by decide +kernel
theorem dX6_looksAt_138 : decode cX6_looksAt 138 = .ok (.bipush 10, 2) := by decide +kernel
theorem dX6_looksAt_140 : decode cX6_looksAt 140 = .ok (.ireturn, 1) := by decide +kernel
theorem dX6_looksAt_141 : decode cX6_looksAt 141 = .ok (.iload 5, 2) := by decide +kernel
theorem dX6_looksAt_143 : decode cX6_looksAt 143 = .ok (.iload_n 1, 1) := by decide +kernel
theorem dX6_looksAt_144 : decode cX6_looksAt 144 = .ok (.iload_n 2, 1) := by decide +kernel
theorem dX6_looksAt_145 : decode cX6_looksAt 145 = .ok (.iconst 1, 1) := by decide +kernel
theorem dX6_looksAt_146 : decode cX6_looksAt 146 = .ok (.iadd, 1) := by decide +kernel
theorem dX6_looksAt_147 : decode cX6_looksAt 147 = .ok (.if_icmp .ne 7, 3) := by decide +kernel
theorem dX6_looksAt_150 : decode cX6_looksAt 150 = .ok (.iconst 5, 1) := by decide +kernel
theorem dX6_looksAt_151 : decode cX6_looksAt 151 = .ok (.goto 4, 3) := by decide +kernel
theorem dX6_looksAt_154 : decode cX6_looksAt 154 = .ok (.iconst 0, 1) := by decide +kernel
theorem dX6_looksAt_155 : decode cX6_looksAt 155 = .ok (.iadd, 1) := by decide +kernel
theorem dX6_looksAt_156 : decode cX6_looksAt 156 = .ok (.ireturn, 1) := by decide +kernel
theorem dX6_looksAt_157 : decode cX6_looksAt 157 = .ok (.iload 6, 2) := by decide +kernel
theorem dX6_looksAt_159 : decode cX6_looksAt 159 = .ok (.iconst 5, 1) := by decide +kernel
theorem dX6_looksAt_160 : decode cX6_looksAt 160 = .ok (.if_icmp .ge 7, 3) := by decide +kernel
theorem dX6_looksAt_163 : decode cX6_looksAt 163 = .ok (.iconst 5, 1) := by decide +kernel
theorem dX6_looksAt_164 : decode cX6_looksAt 164 = .ok (.goto 5, 3) := by decide +kernel
theorem dX6_looksAt_167 : decode cX6_looksAt 167 = .ok (.iload 6, 2) := by decide +kernel
theorem dX6_looksAt_169 : decode cX6_looksAt 169 = .ok (.ireturn, 1) := by decide +kernel
theorem dX6_looksAt_170 : decode cX6_looksAt 170 = .ok (.iload 4, 2) := by decide +kernel
theorem dX6_looksAt_172 : decode cX6_looksAt 172 = .ok (.ireturn, 1) := by decide +kernel
theorem dX6_sight_0 : decode cX6_sight 0 = .ok (.aload_n 0, 1) := by decide +kernel
theorem dX6_sight_1 : decode cX6_sight 1 = .ok (.iload_n 1, 1) := by decide +kernel
theorem dX6_sight_2 : decode cX6_sight 2 = .ok (.iconst 2, 1) := by decide +kernel
theorem dX6_sight_3 : decode cX6_sight 3 = .ok (.invokevirtual 49, 3) := by decide +kernel
theorem dX6_sight_6 : decode cX6_sight 6 = .ok (.ifCond .ge 7, 3) := by decide +kernel
theorem dX6_sight_9 : decode cX6_sight 9 = .ok (.iconst 0, 1) := by decide +kernel
theorem dX6_sight_10 : decode cX6_sight 10 = .ok (.goto 14, 3) := by decide +kernel
theorem dX6_sight_13 : decode cX6_sight 13 = .ok (.aload_n 0, 1) := by decide +kernel
theorem dX6_sight_14 : decode cX6_sight 14 = .ok (.iload_n 1, 1) := by decide +kernel
theorem dX6_sight_15 : decode cX6_sight 15 = .ok (.aload_n 0, 1) := by decide +kernel
theorem dX6_sight_16 : decode cX6_sight 16 = .ok (.iload_n 1, 1) := by decide +kernel
theorem dX6_sight_17 : decode cX6_sight 17 = .ok (.iconst 2, 1) := by decide +kernel
theorem dX6_sight_18 : decode cX6_sight 18 = .ok (.invokevirtual 49, 3) := by decide +kernel
theorem dX6_sight_21 : decode cX6_sight 21 = .ok (.invokevirtual 57, 3) := by decide +kernel
theorem dX6_sight_24 : decode cX6_sight 24 = .ok (.ireturn, 1) := by decide +kernel
theorem dX6_eases_0 : decode cX6_eases 0 = .ok (.aload_n 0, 1) := by decide +kernel
theorem dX6_eases_1 : decode cX6_eases 1 = .ok (.iload_n 1, 1) := by decide +kernel
theorem dX6_eases_2 : decode cX6_eases 2 = .ok (.invokevirtual 60, 3) := by decide +kernel
theorem dX6_eases_5 : decode cX6_eases 5 = .ok (.bipush 30, 2) := by decide +kernel
theorem dX6_eases_7 : decode cX6_eases 7 = .ok (.if_icmp .ge 7, 3) := by decide +kernel
theorem dX6_eases_10 : decode cX6_eases 10 = .ok (.iconst 1, 1) := by decide +kernel
theorem dX6_eases_11 : decode cX6_eases 11 = .ok (.goto 4, 3) := by decide +kernel
theorem dX6_eases_14 : decode cX6_eases 14 = .ok (.iconst 0, 1) := by decide +kernel
theorem dX6_eases_15 : decode cX6_eases 15 = .ok (.istore_n 2, 1) := by decide +kernel
theorem dX6_eases_16 : decode cX6_eases 16 = .ok (.aload_n 0, 1) := by decide +kernel
theorem dX6_eases_17 : decode cX6_eases 17 = .ok (.iload_n 1, 1) := by decide +kernel
theorem dX6_eases_18 : decode cX6_eases 18 = .ok (.iconst 0, 1) := by decide +kernel
theorem dX6_eases_19 : decode cX6_eases 19 = .ok (.invokevirtual 49, 3) := by decide +kernel
theorem dX6_eases_22 : decode cX6_eases 22 = .ok (.tableswitch 68 1 5 #[34, 51, 55, 34, 57], 34) := by decide +kernel
theorem dX6_eases_56 : decode cX6_eases 56 = .ok (.aload_n 0, 1) := by decide +kernel
theorem dX6_eases_57 : decode cX6_eases 57 = .ok (.iload_n 1, 1) := by decide +kernel
theorem dX6_eases_58 : decode cX6_eases 58 = .ok (.iconst 1, 1) := by decide +kernel
theorem dX6_eases_59 : decode cX6_eases 59 = .ok (.invokevirtual 49, 3) := by decide +kernel
theorem dX6_eases_62 : decode cX6_eases 62 = .ok (.bipush 50, 2) := by decide +kernel
theorem dX6_eases_64 : decode cX6_eases 64 = .ok (.if_icmp .le 7, 3) := by decide +kernel
theorem dX6_eases_67 : decode cX6_eases 67 = .ok (.iconst 0, 1) := by decide +kernel
theorem dX6_eases_68 : decode cX6_eases 68 = .ok (.goto 4, 3) := by decide +kernel
theorem dX6_eases_71 : decode cX6_eases 71 = .ok (.iload_n 2, 1) := by decide +kernel
theorem dX6_eases_72 : decode cX6_eases 72 = .ok (.ireturn, 1) := by decide +kernel
theorem dX6_eases_73 : decode cX6_eases 73 = .ok (.iconst 2, 1) := by decide +kernel
theorem dX6_eases_74 : decode cX6_eases 74 = .ok (.iload_n 2, 1) := by decide +kernel
theorem dX6_eases_75 : decode cX6_eases 75 = .ok (.imul, 1) := by decide +kernel
theorem dX6_eases_76 : decode cX6_eases 76 = .ok (.ireturn, 1) := by decide +kernel
theorem dX6_eases_77 : decode cX6_eases 77 = .ok (.iconst 3, 1) := by decide +kernel
theorem dX6_eases_78 : decode cX6_eases 78 = .ok (.ireturn, 1) := by decide +kernel
theorem dX6_eases_79 : decode cX6_eases 79 = .ok (.iconst 2, 1) := by decide +kernel
theorem dX6_eases_80 : decode cX6_eases 80 = .ok (.iload_n 2, 1) := by decide +kernel
theorem dX6_eases_81 : decode cX6_eases 81 = .ok (.imul, 1) := by decide +kernel
theorem dX6_eases_82 : decode cX6_eases 82 = .ok (.aload_n 0, 1) := by decide +kernel
theorem dX6_eases_83 : decode cX6_eases 83 = .ok (.iload_n 1, 1) := by decide +kernel
theorem dX6_eases_84 : decode cX6_eases 84 = .ok (.iconst 3, 1) := by decide +kernel
theorem dX6_eases_85 : decode cX6_eases 85 = .ok (.invokevirtual 49, 3) := by decide +kernel
theorem dX6_eases_88 : decode cX6_eases 88 = .ok (.iadd, 1) := by decide +kernel
theorem dX6_eases_89 : decode cX6_eases 89 = .ok (.ireturn, 1) := by decide +kernel
theorem dX6_eases_90 : decode cX6_eases 90 = .ok (.iload_n 2, 1) := by decide +kernel
theorem dX6_eases_91 : decode cX6_eases 91 = .ok (.ireturn, 1) := by decide +kernel
theorem dX6_grows_0 : decode cX6_grows 0 = .ok (.aload_n 0, 1) := by decide +kernel
theorem dX6_grows_1 : decode cX6_grows 1 = .ok (.iload_n 1, 1) := by decide +kernel
theorem dX6_grows_2 : decode cX6_grows 2 = .ok (.invokevirtual 60, 3) := by decide +kernel
theorem dX6_grows_5 : decode cX6_grows 5 = .ok (.istore_n 2, 1) := by decide +kernel
theorem dX6_grows_6 : decode cX6_grows 6 = .ok (.iload_n 2, 1) := by decide +kernel
theorem dX6_grows_7 : decode cX6_grows 7 = .ok (.bipush 60, 2) := by decide +kernel
theorem dX6_grows_9 : decode cX6_grows 9 = .ok (.if_icmp .lt 7, 3) := by decide +kernel
theorem dX6_grows_12 : decode cX6_grows 12 = .ok (.iconst 1, 1) := by decide +kernel
theorem dX6_grows_13 : decode cX6_grows 13 = .ok (.goto 4, 3) := by decide +kernel
theorem dX6_grows_16 : decode cX6_grows 16 = .ok (.iconst 0, 1) := by decide +kernel
theorem dX6_grows_17 : decode cX6_grows 17 = .ok (.istore_n 3, 1) := by decide +kernel
theorem dX6_grows_18 : decode cX6_grows 18 = .ok (.iload_n 3, 1) := by decide +kernel
theorem dX6_grows_19 : decode cX6_grows 19 = .ok (.iload_n 2, 1) := by decide +kernel
theorem dX6_grows_20 : decode cX6_grows 20 = .ok (.bipush 80, 2) := by decide +kernel
theorem dX6_grows_22 : decode cX6_grows 22 = .ok (.if_icmp .lt 7, 3) := by decide +kernel
theorem dX6_grows_25 : decode cX6_grows 25 = .ok (.iconst 1, 1) := by decide +kernel
theorem dX6_grows_26 : decode cX6_grows 26 = .ok (.goto 4, 3) := by decide +kernel
theorem dX6_grows_29 : decode cX6_grows 29 = .ok (.iconst 0, 1) := by decide +kernel
theorem dX6_grows_30 : decode cX6_grows 30 = .ok (.iadd, 1) := by decide +kernel
theorem dX6_grows_31 : decode cX6_grows 31 = .ok (.istore 4, 2) := by decide +kernel
theorem dX6_grows_33 : decode cX6_grows 33 = .ok (.aload_n 0, 1) := by decide +kernel
theorem dX6_grows_34 : decode cX6_grows 34 = .ok (.iload_n 1, 1) := by decide +kernel
theorem dX6_grows_35 : decode cX6_grows 35 = .ok (.iconst 0, 1) := by decide +kernel
theorem dX6_grows_36 : decode cX6_grows 36 = .ok (.invokevirtual 49, 3) := by decide +kernel
theorem dX6_grows_39 : decode cX6_grows 39 = .ok (.tableswitch 39 1 4 #[29, 39, 32, 34], 29) := by decide +kernel
theorem dX6_grows_68 : decode cX6_grows 68 = .ok (.iload 4, 2) := by decide +kernel
theorem dX6_grows_70 : decode cX6_grows 70 = .ok (.ireturn, 1) := by decide +kernel
theorem dX6_grows_71 : decode cX6_grows 71 = .ok (.iconst 0, 1) := by decide +kernel
theorem dX6_grows_72 : decode cX6_grows 72 = .ok (.ireturn, 1) := by decide +kernel
theorem dX6_grows_73 : decode cX6_grows 73 = .ok (.iconst 2, 1) := by decide +kernel
theorem dX6_grows_74 : decode cX6_grows 74 = .ok (.iload 4, 2) := by decide +kernel
theorem dX6_grows_76 : decode cX6_grows 76 = .ok (.imul, 1) := by decide +kernel
theorem dX6_grows_77 : decode cX6_grows 77 = .ok (.ireturn, 1) := by decide +kernel
theorem dX6_grows_78 : decode cX6_grows 78 = .ok (.iload_n 3, 1) := by decide +kernel
theorem dX6_grows_79 : decode cX6_grows 79 = .ok (.ireturn, 1) := by decide +kernel
theorem dX6_comesAs_0 : decode cX6_comesAs 0 = .ok (.aload_n 0, 1) := by decide +kernel
theorem dX6_comesAs_1 : decode cX6_comesAs 1 = .ok (.getfield 9, 3) := by decide +kernel
theorem dX6_comesAs_4 : decode cX6_comesAs 4 = .ok (.iconst 1, 1) := by decide +kernel
theorem dX6_comesAs_5 : decode cX6_comesAs 5 = .ok (.iaload, 1) := by decide +kernel
theorem dX6_comesAs_6 : decode cX6_comesAs 6 = .ok (.istore 4, 2) := by decide +kernel
theorem dX6_comesAs_8 : decode cX6_comesAs 8 = .ok (.aload_n 0, 1) := by decide +kernel
theorem dX6_comesAs_9 : decode cX6_comesAs 9 = .ok (.getfield 9, 3) := by decide +kernel
theorem dX6_comesAs_12 : decode cX6_comesAs 12 = .ok (.iconst 1, 1) := by decide +kernel
theorem dX6_comesAs_13 : decode cX6_comesAs 13 = .ok (.dup2, 1) := by decide +kernel
theorem dX6_comesAs_14 : decode cX6_comesAs 14 = .ok (.iaload, 1) := by decide +kernel
theorem dX6_comesAs_15 : decode cX6_comesAs 15 = .ok (.iconst 1, 1) := by decide +kernel
theorem dX6_comesAs_16 : decode cX6_comesAs 16 = .ok (.iadd, 1) := by decide +kernel
theorem dX6_comesAs_17 : decode cX6_comesAs 17 = .ok (.iastore, 1) := by decide +kernel
theorem dX6_comesAs_18 : decode cX6_comesAs 18 = .ok (.aload_n 0, 1) := by decide +kernel
theorem dX6_comesAs_19 : decode cX6_comesAs 19 = .ok (.iload 4, 2) := by decide +kernel
theorem dX6_comesAs_21 : decode cX6_comesAs 21 = .ok (.iconst 0, 1) := by decide +kernel
theorem dX6_comesAs_22 : decode cX6_comesAs 22 = .ok (.iload_n 1, 1) := by decide +kernel
theorem dX6_comesAs_23 : decode cX6_comesAs 23 = .ok (.invokevirtual 63, 3) := by decide +kernel
theorem dX6_comesAs_26 : decode cX6_comesAs 26 = .ok (.aload_n 0, 1) := by decide +kernel
theorem dX6_comesAs_27 : decode cX6_comesAs 27 = .ok (.iload 4, 2) := by decide +kernel
theorem dX6_comesAs_29 : decode cX6_comesAs 29 = .ok (.iconst 1, 1) := by decide +kernel
theorem dX6_comesAs_30 : decode cX6_comesAs 30 = .ok (.iload_n 2, 1) := by decide +kernel
theorem dX6_comesAs_31 : decode cX6_comesAs 31 = .ok (.invokevirtual 63, 3) := by decide +kernel
theorem dX6_comesAs_34 : decode cX6_comesAs 34 = .ok (.aload_n 0, 1) := by decide +kernel
theorem dX6_comesAs_35 : decode cX6_comesAs 35 = .ok (.iload 4, 2) := by decide +kernel
theorem dX6_comesAs_37 : decode cX6_comesAs 37 = .ok (.iconst 2, 1) := by decide +kernel
theorem dX6_comesAs_38 : decode cX6_comesAs 38 = .ok (.iload_n 3, 1) := by decide +kernel
theorem dX6_comesAs_39 : decode cX6_comesAs 39 = .ok (.invokevirtual 63, 3) := by decide +kernel
theorem dX6_comesAs_42 : decode cX6_comesAs 42 = .ok (.aload_n 0, 1) := by decide +kernel
theorem dX6_comesAs_43 : decode cX6_comesAs 43 = .ok (.iload 4, 2) := by decide +kernel
theorem dX6_comesAs_45 : decode cX6_comesAs 45 = .ok (.iconst 3, 1) := by decide +kernel
theorem dX6_comesAs_46 : decode cX6_comesAs 46 = .ok (.iconst 0, 1) := by decide +kernel
theorem dX6_comesAs_47 : decode cX6_comesAs 47 = .ok (.invokevirtual 63, 3) := by decide +kernel
theorem dX6_comesAs_50 : decode cX6_comesAs 50 = .ok (.aload_n 0, 1) := by decide +kernel
theorem dX6_comesAs_51 : decode cX6_comesAs 51 = .ok (.iload 4, 2) := by decide +kernel
theorem dX6_comesAs_53 : decode cX6_comesAs 53 = .ok (.iconst 4, 1) := by decide +kernel
theorem dX6_comesAs_54 : decode cX6_comesAs 54 = .ok (.iconst (-1), 1) := by decide +kernel
theorem dX6_comesAs_55 : decode cX6_comesAs 55 = .ok (.invokevirtual 63, 3) := by decide +kernel
theorem dX6_comesAs_58 : decode cX6_comesAs 58 = .ok (.aload_n 0, 1) := by decide +kernel
theorem dX6_comesAs_59 : decode cX6_comesAs 59 = .ok (.iload 4, 2) := by decide +kernel
theorem dX6_comesAs_61 : decode cX6_comesAs 61 = .ok (.iconst 5, 1) := by decide +kernel
theorem dX6_comesAs_62 : decode cX6_comesAs 62 = .ok (.iconst 0, 1) := by decide +kernel
theorem dX6_comesAs_63 : decode cX6_comesAs 63 = .ok (.invokevirtual 63, 3) := by decide +kernel
theorem dX6_comesAs_66 : decode cX6_comesAs 66 = .ok (.aload_n 0, 1) := by decide +kernel
theorem dX6_comesAs_67 : decode cX6_comesAs 67 = .ok (.iload 4, 2) := by decide +kernel
theorem dX6_comesAs_69 : decode cX6_comesAs 69 = .ok (.bipush 6, 2) := by decide +kernel
theorem dX6_comesAs_71 : decode cX6_comesAs 71 = .ok (.iconst 0, 1) := by decide +kernel
theorem dX6_comesAs_72 : decode cX6_comesAs 72 = .ok (.invokevirtual 63, 3) := by decide +kernel
theorem dX6_comesAs_75 : decode cX6_comesAs 75 = .ok (.iload 4, 2) := by decide +kernel
theorem dX6_comesAs_77 : decode cX6_comesAs 77 = .ok (.ireturn, 1) := by decide +kernel
theorem dX6_person_0 : decode cX6_person 0 = .ok (.iload_n 1, 1) := by decide +kernel
theorem dX6_person_1 : decode cX6_person 1 = .ok (.i2l, 1) := by decide +kernel
theorem dX6_person_2 : decode cX6_person 2 = .ok (.iconst 0, 1) := by decide +kernel
theorem dX6_person_3 : decode cX6_person 3 = .ok (.iconst 5, 1) := by decide +kernel
theorem dX6_person_4 : decode cX6_person 4 = .ok (.invokestatic 41, 3) := by decide +kernel
theorem dX6_person_7 : decode cX6_person 7 = .ok (.ifCond .ne 10, 3) := by decide +kernel
theorem dX6_person_10 : decode cX6_person 10 = .ok (.aload_n 0, 1) := by decide +kernel
theorem dX6_person_11 : decode cX6_person 11 = .ok (.ldc 35, 2) := by decide +kernel
theorem dX6_person_13 : decode cX6_person 13 = .ok (.invokevirtual 37, 3) := by decide +kernel
theorem dX6_person_16 : decode cX6_person 16 = .ok (.ireturn, 1) := by decide +kernel
theorem dX6_person_17 : decode cX6_person 17 = .ok (.aload_n 0, 1) := by decide +kernel
theorem dX6_person_18 : decode cX6_person 18 = .ok (.getfield 9, 3) := by decide +kernel
theorem dX6_person_21 : decode cX6_person 21 = .ok (.iconst 1, 1) := by decide +kernel
theorem dX6_person_22 : decode cX6_person 22 = .ok (.iaload, 1) := by decide +kernel
theorem dX6_person_23 : decode cX6_person 23 = .ok (.bipush 8, 2) := by decide +kernel
theorem dX6_person_25 : decode cX6_person 25 = .ok (.if_icmp .ne 12, 3) := by decide +kernel
theorem dX6_person_28 : decode cX6_person 28 = .ok (.aload_n 0, 1) := by decide +kernel
theorem dX6_person_29 : decode cX6_person 29 = .ok (.ldc 67, 2) := by decide +kernel
theorem dX6_person_31 : decode cX6_person 31 = .ok (.invokevirtual 37, 3) := by decide +kernel
theorem dX6_person_34 : decode cX6_person 34 = .ok (.goto 11, 3) := by decide +kernel
theorem dX6_person_37 : decode cX6_person 37 = .ok (.aload_n 0, 1) := by decide +kernel
theorem dX6_person_38 : decode cX6_person 38 = .ok (.iload_n 1, 1) := by decide +kernel
theorem dX6_person_39 : decode cX6_person 39 = .ok (.bipush 20, 2) := by decide +kernel
theorem dX6_person_41 : decode cX6_person 41 = .ok (.iconst (-1), 1) := by decide +kernel
theorem dX6_person_42 : decode cX6_person 42 = .ok (.invokevirtual 68, 3) := by decide +kernel
theorem dX6_person_45 : decode cX6_person 45 = .ok (.ireturn, 1) := by decide +kernel
theorem dX6_of_0 : decode cX6_of 0 = .ok (.aload_n 0, 1) := by decide +kernel
theorem dX6_of_1 : decode cX6_of 1 = .ok (.iload_n 1, 1) := by decide +kernel
theorem dX6_of_2 : decode cX6_of 2 = .ok (.invokevirtual 45, 3) := by decide +kernel
theorem dX6_of_5 : decode cX6_of 5 = .ok (.ifCond .eq 14, 3) := by decide +kernel
theorem dX6_of_8 : decode cX6_of 8 = .ok (.iload_n 2, 1) := by decide +kernel
theorem dX6_of_9 : decode cX6_of 9 = .ok (.i2l, 1) := by decide +kernel
theorem dX6_of_10 : decode cX6_of 10 = .ok (.iconst 0, 1) := by decide +kernel
theorem dX6_of_11 : decode cX6_of 11 = .ok (.bipush 9, 2) := by decide +kernel
theorem dX6_of_13 : decode cX6_of 13 = .ok (.invokestatic 41, 3) := by decide +kernel
theorem dX6_of_16 : decode cX6_of 16 = .ok (.ifCond .ne 10, 3) := by decide +kernel
theorem dX6_of_19 : decode cX6_of 19 = .ok (.aload_n 0, 1) := by decide +kernel
theorem dX6_of_20 : decode cX6_of 20 = .ok (.ldc 35, 2) := by decide +kernel
theorem dX6_of_22 : decode cX6_of 22 = .ok (.invokevirtual 37, 3) := by decide +kernel
theorem dX6_of_25 : decode cX6_of 25 = .ok (.ireturn, 1) := by decide +kernel
theorem dX6_of_26 : decode cX6_of 26 = .ok (.iload_n 2, 1) := by decide +kernel
theorem dX6_of_27 : decode cX6_of 27 = .ok (.bipush 7, 2) := by decide +kernel
theorem dX6_of_29 : decode cX6_of 29 = .ok (.if_icmp .ge 10, 3) := by decide +kernel
theorem dX6_of_32 : decode cX6_of 32 = .ok (.aload_n 0, 1) := by decide +kernel
theorem dX6_of_33 : decode cX6_of 33 = .ok (.iload_n 1, 1) := by decide +kernel
theorem dX6_of_34 : decode cX6_of 34 = .ok (.iload_n 2, 1) := by decide +kernel
theorem dX6_of_35 : decode cX6_of 35 = .ok (.invokevirtual 49, 3) := by decide +kernel
theorem dX6_of_38 : decode cX6_of 38 = .ok (.ireturn, 1) := by decide +kernel
theorem dX6_of_39 : decode cX6_of 39 = .ok (.iload_n 2, 1) := by decide +kernel
theorem dX6_of_40 : decode cX6_of 40 = .ok (.bipush 7, 2) := by decide +kernel
theorem dX6_of_42 : decode cX6_of 42 = .ok (.if_icmp .ne 11, 3) := by decide +kernel
theorem dX6_of_45 : decode cX6_of 45 = .ok (.aload_n 0, 1) := by decide +kernel
theorem dX6_of_46 : decode cX6_of 46 = .ok (.iload_n 1, 1) := by decide +kernel
theorem dX6_of_47 : decode cX6_of 47 = .ok (.invokevirtual 71, 3) := by decide +kernel
theorem dX6_of_50 : decode cX6_of 50 = .ok (.goto 22, 3) := by decide +kernel
theorem dX6_of_53 : decode cX6_of 53 = .ok (.iload_n 2, 1) := by decide +kernel
theorem dX6_of_54 : decode cX6_of 54 = .ok (.bipush 8, 2) := by decide +kernel
theorem dX6_of_56 : decode cX6_of 56 = .ok (.if_icmp .ne 11, 3) := by decide +kernel
theorem dX6_of_59 : decode cX6_of 59 = .ok (.aload_n 0, 1) := by decide +kernel
theorem dX6_of_60 : decode cX6_of 60 = .ok (.iload_n 1, 1) := by decide +kernel
theorem dX6_of_61 : decode cX6_of 61 = .ok (.invokevirtual 74, 3) := by decide +kernel
theorem dX6_of_64 : decode cX6_of 64 = .ok (.goto 8, 3) := by decide +kernel
theorem dX6_of_67 : decode cX6_of 67 = .ok (.aload_n 0, 1) := by decide +kernel
theorem dX6_of_68 : decode cX6_of 68 = .ok (.iload_n 1, 1) := by decide +kernel
theorem dX6_of_69 : decode cX6_of 69 = .ok (.invokevirtual 77, 3) := by decide +kernel
theorem dX6_of_72 : decode cX6_of 72 = .ok (.ireturn, 1) := by decide +kernel
theorem dX6_mayBe_0 : decode cX6_mayBe 0 = .ok (.iload_n 1, 1) := by decide +kernel
theorem dX6_mayBe_1 : decode cX6_mayBe 1 = .ok (.iconst 2, 1) := by decide +kernel
theorem dX6_mayBe_2 : decode cX6_mayBe 2 = .ok (.if_icmp .eq 8, 3) := by decide +kernel
theorem dX6_mayBe_5 : decode cX6_mayBe 5 = .ok (.iload_n 1, 1) := by decide +kernel
theorem dX6_mayBe_6 : decode cX6_mayBe 6 = .ok (.iconst 4, 1) := by decide +kernel
theorem dX6_mayBe_7 : decode cX6_mayBe 7 = .ok (.if_icmp .ne 7, 3) := by decide +kernel
theorem dX6_mayBe_10 : decode cX6_mayBe 10 = .ok (.iconst 1, 1) := by decide +kernel
theorem dX6_mayBe_11 : decode cX6_mayBe 11 = .ok (.goto 4, 3) := by decide +kernel
theorem dX6_mayBe_14 : decode cX6_mayBe 14 = .ok (.iconst 0, 1) := by decide +kernel
theorem dX6_mayBe_15 : decode cX6_mayBe 15 = .ok (.istore_n 3, 1) := by decide +kernel
theorem dX6_mayBe_16 : decode cX6_mayBe 16 = .ok (.iload_n 1, 1) := by decide +kernel
theorem dX6_mayBe_17 : decode cX6_mayBe 17 = .ok (.i2l, 1) := by decide +kernel
theorem dX6_mayBe_18 : decode cX6_mayBe 18 = .ok (.iconst 1, 1) := by decide +kernel
theorem dX6_mayBe_19 : decode cX6_mayBe 19 = .ok (.bipush 6, 2) := by decide +kernel
theorem dX6_mayBe_21 : decode cX6_mayBe 21 = .ok (.invokestatic 41, 3) := by decide +kernel
theorem dX6_mayBe_24 : decode cX6_mayBe 24 = .ok (.ifCond .eq 50, 3) := by decide +kernel
theorem dX6_mayBe_27 : decode cX6_mayBe 27 = .ok (.iload_n 2, 1) := by decide +kernel
theorem dX6_mayBe_28 : decode cX6_mayBe 28 = .ok (.i2l, 1) := by decide +kernel
theorem dX6_mayBe_29 : decode cX6_mayBe 29 = .ok (.iload_n 3, 1) := by decide +kernel
theorem dX6_mayBe_30 : decode cX6_mayBe 30 = .ok (.ifCond .eq 7, 3) := by decide +kernel
theorem dX6_mayBe_33 : decode cX6_mayBe 33 = .ok (.iconst (-1), 1) := by decide +kernel
theorem dX6_mayBe_34 : decode cX6_mayBe 34 = .ok (.goto 4, 3) := by decide +kernel
theorem dX6_mayBe_37 : decode cX6_mayBe 37 = .ok (.iconst 0, 1) := by decide +kernel
theorem dX6_mayBe_38 : decode cX6_mayBe 38 = .ok (.iload_n 3, 1) := by decide +kernel
theorem dX6_mayBe_39 : decode cX6_mayBe 39 = .ok (.ifCond .eq 14, 3) := by decide +kernel
theorem dX6_mayBe_42 : decode cX6_mayBe 42 = .ok (.aload_n 0, 1) := by decide +kernel
theorem dX6_mayBe_43 : decode cX6_mayBe 43 = .ok (.getfield 9, 3) := by decide +kernel
theorem dX6_mayBe_46 : decode cX6_mayBe 46 = .ok (.iconst 1, 1) := by decide +kernel
theorem dX6_mayBe_47 : decode cX6_mayBe 47 = .ok (.iaload, 1) := by decide +kernel
theorem dX6_mayBe_48 : decode cX6_mayBe 48 = .ok (.iconst 1, 1) := by decide +kernel
theorem dX6_mayBe_49 : decode cX6_mayBe 49 = .ok (.isub, 1) := by decide +kernel
theorem dX6_mayBe_50 : decode cX6_mayBe 50 = .ok (.goto 14, 3) := by decide +kernel
theorem dX6_mayBe_53 : decode cX6_mayBe 53 = .ok (.iload_n 1, 1) := by decide +kernel
theorem dX6_mayBe_54 : decode cX6_mayBe 54 = .ok (.iconst 3, 1) := by decide +kernel
theorem dX6_mayBe_55 : decode cX6_mayBe 55 = .ok (.if_icmp .ne 7, 3) := by decide +kernel
theorem dX6_mayBe_58 : decode cX6_mayBe 58 = .ok (.iconst 1, 1) := by decide +kernel
theorem dX6_mayBe_59 : decode cX6_mayBe 59 = .ok (.goto 5, 3) := by decide +kernel
theorem dX6_mayBe_62 : decode cX6_mayBe 62 = .ok (.bipush 99, 2) := by decide +kernel
theorem dX6_mayBe_64 : decode cX6_mayBe 64 = .ok (.invokestatic 41, 3) := by decide +kernel
theorem dX6_mayBe_67 : decode cX6_mayBe 67 = .ok (.ifCond .eq 7, 3) := by decide +kernel
theorem dX6_mayBe_70 : decode cX6_mayBe 70 = .ok (.iconst 1, 1) := by decide +kernel
theorem dX6_mayBe_71 : decode cX6_mayBe 71 = .ok (.goto 4, 3) := by decide +kernel
theorem dX6_mayBe_74 : decode cX6_mayBe 74 = .ok (.iconst 0, 1) := by decide +kernel
theorem dX6_mayBe_75 : decode cX6_mayBe 75 = .ok (.ireturn, 1) := by decide +kernel
theorem dX6_set_0 : decode cX6_set 0 = .ok (.aload_n 0, 1) := by decide +kernel
theorem dX6_set_1 : decode cX6_set 1 = .ok (.iload_n 1, 1) := by decide +kernel
theorem dX6_set_2 : decode cX6_set 2 = .ok (.invokevirtual 45, 3) := by decide +kernel
theorem dX6_set_5 : decode cX6_set 5 = .ok (.ifCond .eq 28, 3) := by decide +kernel
theorem dX6_set_8 : decode cX6_set 8 = .ok (.aload_n 0, 1) := by decide +kernel
theorem dX6_set_9 : decode cX6_set 9 = .ok (.iload_n 2, 1) := by decide +kernel
theorem dX6_set_10 : decode cX6_set 10 = .ok (.iload_n 3, 1) := by decide +kernel
theorem dX6_set_11 : decode cX6_set 11 = .ok (.invokevirtual 80, 3) := by decide +kernel
theorem dX6_set_14 : decode cX6_set 14 = .ok (.ifCond .eq 19, 3) := by decide +kernel
theorem dX6_set_17 : decode cX6_set 17 = .ok (.aload_n 0, 1) := by decide +kernel
theorem dX6_set_18 : decode cX6_set 18 = .ok (.iconst 2, 1) := by decide +kernel
theorem dX6_set_19 : decode cX6_set 19 = .ok (.bipush 7, 2) := by decide +kernel
theorem dX6_set_21 : decode cX6_set 21 = .ok (.iload_n 1, 1) := by decide +kernel
theorem dX6_set_22 : decode cX6_set 22 = .ok (.imul, 1) := by decide +kernel
theorem dX6_set_23 : decode cX6_set 23 = .ok (.iadd, 1) := by decide +kernel
theorem dX6_set_24 : decode cX6_set 24 = .ok (.iload_n 2, 1) := by decide +kernel
theorem dX6_set_25 : decode cX6_set 25 = .ok (.iadd, 1) := by decide +kernel
theorem dX6_set_26 : decode cX6_set 26 = .ok (.iload_n 3, 1) := by decide +kernel
theorem dX6_set_27 : decode cX6_set 27 = .ok (.invokevirtual 84, 3) := by decide +kernel
theorem dX6_set_30 : decode cX6_set 30 = .ok (.goto 9, 3) := by decide +kernel
theorem dX6_set_33 : decode cX6_set 33 = .ok (.aload_n 0, 1) := by decide +kernel
theorem dX6_set_34 : decode cX6_set 34 = .ok (.ldc 35, 2) := by decide +kernel
theorem dX6_set_36 : decode cX6_set 36 = .ok (.invokevirtual 37, 3) := by decide +kernel
theorem dX6_set_39 : decode cX6_set 39 = .ok (.ireturn, 1) := by decide +kernel
theorem dX6_turn_0 : decode cX6_turn 0 = .ok (.aload_n 0, 1) := by decide +kernel
theorem dX6_turn_1 : decode cX6_turn 1 = .ok (.iload_n 1, 1) := by decide +kernel
theorem dX6_turn_2 : decode cX6_turn 2 = .ok (.invokevirtual 45, 3) := by decide +kernel
theorem dX6_turn_5 : decode cX6_turn 5 = .ok (.ifCond .eq 27, 3) := by decide +kernel
theorem dX6_turn_8 : decode cX6_turn 8 = .ok (.iload_n 2, 1) := by decide +kernel
theorem dX6_turn_9 : decode cX6_turn 9 = .ok (.i2l, 1) := by decide +kernel
theorem dX6_turn_10 : decode cX6_turn 10 = .ok (.iconst 0, 1) := by decide +kernel
theorem dX6_turn_11 : decode cX6_turn 11 = .ok (.iconst 5, 1) := by decide +kernel
theorem dX6_turn_12 : decode cX6_turn 12 = .ok (.invokestatic 41, 3) := by decide +kernel
theorem dX6_turn_15 : decode cX6_turn 15 = .ok (.ifCond .eq 17, 3) := by decide +kernel
theorem dX6_turn_18 : decode cX6_turn 18 = .ok (.aload_n 0, 1) := by decide +kernel
theorem dX6_turn_19 : decode cX6_turn 19 = .ok (.iconst 2, 1) := by decide +kernel
theorem dX6_turn_20 : decode cX6_turn 20 = .ok (.bipush 7, 2) := by decide +kernel
theorem dX6_turn_22 : decode cX6_turn 22 = .ok (.iload_n 1, 1) := by decide +kernel
theorem dX6_turn_23 : decode cX6_turn 23 = .ok (.imul, 1) := by decide +kernel
theorem dX6_turn_24 : decode cX6_turn 24 = .ok (.iadd, 1) := by decide +kernel
theorem dX6_turn_25 : decode cX6_turn 25 = .ok (.iload_n 2, 1) := by decide +kernel
theorem dX6_turn_26 : decode cX6_turn 26 = .ok (.invokevirtual 84, 3) := by decide +kernel
theorem dX6_turn_29 : decode cX6_turn 29 = .ok (.goto 9, 3) := by decide +kernel
theorem dX6_turn_32 : decode cX6_turn 32 = .ok (.aload_n 0, 1) := by decide +kernel
theorem dX6_turn_33 : decode cX6_turn 33 = .ok (.ldc 35, 2) := by decide +kernel
theorem dX6_turn_35 : decode cX6_turn 35 = .ok (.invokevirtual 37, 3) := by decide +kernel
theorem dX6_turn_38 : decode cX6_turn 38 = .ok (.ireturn, 1) := by decide +kernel
theorem dX6_as_0 : decode cX6_as 0 = .ok (.aload_n 0, 1) := by decide +kernel
theorem dX6_as_1 : decode cX6_as 1 = .ok (.iload_n 1, 1) := by decide +kernel
theorem dX6_as_2 : decode cX6_as 2 = .ok (.invokevirtual 45, 3) := by decide +kernel
theorem dX6_as_5 : decode cX6_as 5 = .ok (.ifCond .eq 13, 3) := by decide +kernel
theorem dX6_as_8 : decode cX6_as 8 = .ok (.iload_n 2, 1) := by decide +kernel
theorem dX6_as_9 : decode cX6_as 9 = .ok (.i2l, 1) := by decide +kernel
theorem dX6_as_10 : decode cX6_as 10 = .ok (.iconst 0, 1) := by decide +kernel
theorem dX6_as_11 : decode cX6_as 11 = .ok (.iconst 5, 1) := by decide +kernel
theorem dX6_as_12 : decode cX6_as 12 = .ok (.invokestatic 41, 3) := by decide +kernel
theorem dX6_as_15 : decode cX6_as 15 = .ok (.ifCond .ne 10, 3) := by decide +kernel
theorem dX6_as_18 : decode cX6_as 18 = .ok (.aload_n 0, 1) := by decide +kernel
theorem dX6_as_19 : decode cX6_as 19 = .ok (.ldc 35, 2) := by decide +kernel
theorem dX6_as_21 : decode cX6_as 21 = .ok (.invokevirtual 37, 3) := by decide +kernel
theorem dX6_as_24 : decode cX6_as 24 = .ok (.ireturn, 1) := by decide +kernel
theorem dX6_as_25 : decode cX6_as 25 = .ok (.aload_n 0, 1) := by decide +kernel
theorem dX6_as_26 : decode cX6_as 26 = .ok (.iload_n 1, 1) := by decide +kernel
theorem dX6_as_27 : decode cX6_as 27 = .ok (.iconst 0, 1) := by decide +kernel
theorem dX6_as_28 : decode cX6_as 28 = .ok (.invokevirtual 49, 3) := by decide +kernel
theorem dX6_as_31 : decode cX6_as 31 = .ok (.istore_n 3, 1) := by decide +kernel
theorem dX6_as_32 : decode cX6_as 32 = .ok (.iload_n 2, 1) := by decide +kernel
theorem dX6_as_33 : decode cX6_as 33 = .ok (.ifCond .eq 28, 3) := by decide +kernel
theorem dX6_as_36 : decode cX6_as 36 = .ok (.iload_n 2, 1) := by decide +kernel
theorem dX6_as_37 : decode cX6_as 37 = .ok (.iload_n 3, 1) := by decide +kernel
theorem dX6_as_38 : decode cX6_as 38 = .ok (.if_icmp .eq 23, 3) := by decide +kernel
theorem dX6_as_41 : decode cX6_as 41 = .ok (.iload_n 2, 1) := by decide +kernel
theorem dX6_as_42 : decode cX6_as 42 = .ok (.iconst 1, 1) := by decide +kernel
theorem dX6_as_43 : decode cX6_as 43 = .ok (.if_icmp .ne 8, 3) := by decide +kernel
theorem dX6_as_46 : decode cX6_as 46 = .ok (.iload_n 3, 1) := by decide +kernel
theorem dX6_as_47 : decode cX6_as 47 = .ok (.iconst 4, 1) := by decide +kernel
theorem dX6_as_48 : decode cX6_as 48 = .ok (.if_icmp .eq 13, 3) := by decide +kernel
theorem dX6_as_51 : decode cX6_as 51 = .ok (.iload_n 2, 1) := by decide +kernel
theorem dX6_as_52 : decode cX6_as 52 = .ok (.iconst 2, 1) := by decide +kernel
theorem dX6_as_53 : decode cX6_as 53 = .ok (.if_icmp .ne 12, 3) := by decide +kernel
theorem dX6_as_56 : decode cX6_as 56 = .ok (.iload_n 3, 1) := by decide +kernel
theorem dX6_as_57 : decode cX6_as 57 = .ok (.iconst 5, 1) := by decide +kernel
theorem dX6_as_58 : decode cX6_as 58 = .ok (.if_icmp .ne 7, 3) := by decide +kernel
theorem dX6_as_61 : decode cX6_as 61 = .ok (.iconst 1, 1) := by decide +kernel
theorem dX6_as_62 : decode cX6_as 62 = .ok (.goto 4, 3) := by decide +kernel
theorem dX6_as_65 : decode cX6_as 65 = .ok (.iconst 0, 1) := by decide +kernel
theorem dX6_as_66 : decode cX6_as 66 = .ok (.istore 4, 2) := by decide +kernel
theorem dX6_as_68 : decode cX6_as 68 = .ok (.iload 4, 2) := by decide +kernel
theorem dX6_as_70 : decode cX6_as 70 = .ok (.ifCond .eq 12, 3) := by decide +kernel
theorem dX6_as_73 : decode cX6_as 73 = .ok (.aload_n 0, 1) := by decide +kernel
theorem dX6_as_74 : decode cX6_as 74 = .ok (.iload_n 1, 1) := by decide +kernel
theorem dX6_as_75 : decode cX6_as 75 = .ok (.iconst 1, 1) := by decide +kernel
theorem dX6_as_76 : decode cX6_as 76 = .ok (.invokevirtual 49, 3) := by decide +kernel
theorem dX6_as_79 : decode cX6_as 79 = .ok (.goto 9, 3) := by decide +kernel
theorem dX6_as_82 : decode cX6_as 82 = .ok (.aload_n 0, 1) := by decide +kernel
theorem dX6_as_83 : decode cX6_as 83 = .ok (.ldc 87, 2) := by decide +kernel
theorem dX6_as_85 : decode cX6_as 85 = .ok (.invokevirtual 37, 3) := by decide +kernel
theorem dX6_as_88 : decode cX6_as 88 = .ok (.ireturn, 1) := by decide +kernel
theorem dX6_isGround_0 : decode cX6_isGround 0 = .ok (.aload_n 0, 1) := by decide +kernel
theorem dX6_isGround_1 : decode cX6_isGround 1 = .ok (.iload_n 1, 1) := by decide +kernel
theorem dX6_isGround_2 : decode cX6_isGround 2 = .ok (.iconst 5, 1) := by decide +kernel
theorem dX6_isGround_3 : decode cX6_isGround 3 = .ok (.aload_n 0, 1) := by decide +kernel
theorem dX6_isGround_4 : decode cX6_isGround 4 = .ok (.iload_n 1, 1) := by decide +kernel
theorem dX6_isGround_5 : decode cX6_isGround 5 = .ok (.invokevirtual 71, 3) := by decide +kernel
theorem dX6_isGround_8 : decode cX6_isGround 8 = .ok (.invokevirtual 63, 3) := by decide +kernel
theorem dX6_isGround_11 : decode cX6_isGround 11 = .ok (.aload_n 0, 1) := by decide +kernel
theorem dX6_isGround_12 : decode cX6_isGround 12 = .ok (.iload_n 1, 1) := by decide +kernel
theorem dX6_isGround_13 : decode cX6_isGround 13 = .ok (.iconst 4, 1) := by decide +kernel
theorem dX6_isGround_14 : decode cX6_isGround 14 = .ok (.aload_n 0, 1) := by decide +kernel
theorem dX6_isGround_15 : decode cX6_isGround 15 = .ok (.iload_n 1, 1) := by decide +kernel
theorem dX6_isGround_16 : decode cX6_isGround 16 = .ok (.iconst 2, 1) := by decide +kernel
theorem dX6_isGround_17 : decode cX6_isGround 17 = .ok (.invokevirtual 49, 3) := by decide +kernel
theorem dX6_isGround_20 : decode cX6_isGround 20 = .ok (.invokevirtual 63, 3) := by decide +kernel
theorem dX6_isGround_23 : decode cX6_isGround 23 = .ok (.aload_n 0, 1) := by decide +kernel
theorem dX6_isGround_24 : decode cX6_isGround 24 = .ok (.iload_n 1, 1) := by decide +kernel
theorem dX6_isGround_25 : decode cX6_isGround 25 = .ok (.bipush 6, 2) := by decide +kernel
theorem dX6_isGround_27 : decode cX6_isGround 27 = .ok (.iconst 0, 1) := by decide +kernel
theorem dX6_isGround_28 : decode cX6_isGround 28 = .ok (.invokevirtual 63, 3) := by decide +kernel
theorem dX6_isGround_31 : decode cX6_isGround 31 = .ok (.aload_n 0, 1) := by decide +kernel
theorem dX6_isGround_32 : decode cX6_isGround 32 = .ok (.iload_n 1, 1) := by decide +kernel
theorem dX6_isGround_33 : decode cX6_isGround 33 = .ok (.iconst 3, 1) := by decide +kernel
theorem dX6_isGround_34 : decode cX6_isGround 34 = .ok (.iconst 0, 1) := by decide +kernel
theorem dX6_isGround_35 : decode cX6_isGround 35 = .ok (.invokevirtual 63, 3) := by decide +kernel
theorem dX6_isGround_38 : decode cX6_isGround 38 = .ok (.aload_n 0, 1) := by decide +kernel
theorem dX6_isGround_39 : decode cX6_isGround 39 = .ok (.iload_n 1, 1) := by decide +kernel
theorem dX6_isGround_40 : decode cX6_isGround 40 = .ok (.iconst 5, 1) := by decide +kernel
theorem dX6_isGround_41 : decode cX6_isGround 41 = .ok (.invokevirtual 49, 3) := by decide +kernel
theorem dX6_isGround_44 : decode cX6_isGround 44 = .ok (.ireturn, 1) := by decide +kernel
theorem dX6_grind_0 : decode cX6_grind 0 = .ok (.aload_n 0, 1) := by decide +kernel
theorem dX6_grind_1 : decode cX6_grind 1 = .ok (.iload_n 1, 1) := by decide +kernel
theorem dX6_grind_2 : decode cX6_grind 2 = .ok (.invokevirtual 45, 3) := by decide +kernel
theorem dX6_grind_5 : decode cX6_grind 5 = .ok (.ifCond .ne 10, 3) := by decide +kernel
theorem dX6_grind_8 : decode cX6_grind 8 = .ok (.aload_n 0, 1) := by decide +kernel
theorem dX6_grind_9 : decode cX6_grind 9 = .ok (.ldc 35, 2) := by decide +kernel
theorem dX6_grind_11 : decode cX6_grind 11 = .ok (.invokevirtual 37, 3) := by decide +kernel
theorem dX6_grind_14 : decode cX6_grind 14 = .ok (.ireturn, 1) := by decide +kernel
theorem dX6_grind_15 : decode cX6_grind 15 = .ok (.aload_n 0, 1) := by decide +kernel
theorem dX6_grind_16 : decode cX6_grind 16 = .ok (.iload_n 1, 1) := by decide +kernel
theorem dX6_grind_17 : decode cX6_grind 17 = .ok (.iconst 2, 1) := by decide +kernel
theorem dX6_grind_18 : decode cX6_grind 18 = .ok (.invokevirtual 49, 3) := by decide +kernel
theorem dX6_grind_21 : decode cX6_grind 21 = .ok (.ifCond .ge 12, 3) := by decide +kernel
theorem dX6_grind_24 : decode cX6_grind 24 = .ok (.aload_n 0, 1) := by decide +kernel
theorem dX6_grind_25 : decode cX6_grind 25 = .ok (.ldc 88, 2) := by decide +kernel
theorem dX6_grind_27 : decode cX6_grind 27 = .ok (.invokevirtual 37, 3) := by decide +kernel
theorem dX6_grind_30 : decode cX6_grind 30 = .ok (.goto 8, 3) := by decide +kernel
theorem dX6_grind_33 : decode cX6_grind 33 = .ok (.aload_n 0, 1) := by decide +kernel
theorem dX6_grind_34 : decode cX6_grind 34 = .ok (.iload_n 1, 1) := by decide +kernel
theorem dX6_grind_35 : decode cX6_grind 35 = .ok (.invokevirtual 89, 3) := by decide +kernel
theorem dX6_grind_38 : decode cX6_grind 38 = .ok (.ireturn, 1) := by decide +kernel
theorem dX6_lends_0 : decode cX6_lends 0 = .ok (.iconst 4, 1) := by decide +kernel
theorem dX6_lends_1 : decode cX6_lends 1 = .ok (.istore_n 3, 1) := by decide +kernel
theorem dX6_lends_2 : decode cX6_lends 2 = .ok (.iload_n 3, 1) := by decide +kernel
theorem dX6_lends_3 : decode cX6_lends 3 = .ok (.bipush 6, 2) := by decide +kernel
theorem dX6_lends_5 : decode cX6_lends 5 = .ok (.if_icmp .gt 37, 3) := by decide +kernel
theorem dX6_lends_8 : decode cX6_lends 8 = .ok (.aload_n 0, 1) := by decide +kernel
theorem dX6_lends_9 : decode cX6_lends 9 = .ok (.iload_n 1, 1) := by decide +kernel
theorem dX6_lends_10 : decode cX6_lends 10 = .ok (.iload_n 3, 1) := by decide +kernel
theorem dX6_lends_11 : decode cX6_lends 11 = .ok (.invokevirtual 49, 3) := by decide +kernel
theorem dX6_lends_14 : decode cX6_lends 14 = .ok (.istore 4, 2) := by decide +kernel
theorem dX6_lends_16 : decode cX6_lends 16 = .ok (.aload_n 0, 1) := by decide +kernel
theorem dX6_lends_17 : decode cX6_lends 17 = .ok (.iload_n 1, 1) := by decide +kernel
theorem dX6_lends_18 : decode cX6_lends 18 = .ok (.iload_n 3, 1) := by decide +kernel
theorem dX6_lends_19 : decode cX6_lends 19 = .ok (.aload_n 0, 1) := by decide +kernel
theorem dX6_lends_20 : decode cX6_lends 20 = .ok (.iload_n 2, 1) := by decide +kernel
theorem dX6_lends_21 : decode cX6_lends 21 = .ok (.iload_n 3, 1) := by decide +kernel
theorem dX6_lends_22 : decode cX6_lends 22 = .ok (.invokevirtual 49, 3) := by decide +kernel
theorem dX6_lends_25 : decode cX6_lends 25 = .ok (.invokevirtual 63, 3) := by decide +kernel
theorem dX6_lends_28 : decode cX6_lends 28 = .ok (.aload_n 0, 1) := by decide +kernel
theorem dX6_lends_29 : decode cX6_lends 29 = .ok (.iload_n 2, 1) := by decide +kernel
theorem dX6_lends_30 : decode cX6_lends 30 = .ok (.iload_n 3, 1) := by decide +kernel
theorem dX6_lends_31 : decode cX6_lends 31 = .ok (.iload 4, 2) := by decide +kernel
theorem dX6_lends_33 : decode cX6_lends 33 = .ok (.invokevirtual 63, 3) := by decide +kernel
theorem dX6_lends_36 : decode cX6_lends 36 = .ok (.iinc 3 1, 3) := by decide +kernel
theorem dX6_lends_39 : decode cX6_lends 39 = .ok (.goto (-37), 3) := by decide +kernel
theorem dX6_lends_42 : decode cX6_lends 42 = .ok (.return_, 1) := by decide +kernel
theorem dX6_lend_0 : decode cX6_lend 0 = .ok (.aload_n 0, 1) := by decide +kernel
theorem dX6_lend_1 : decode cX6_lend 1 = .ok (.iload_n 1, 1) := by decide +kernel
theorem dX6_lend_2 : decode cX6_lend 2 = .ok (.iload_n 2, 1) := by decide +kernel
theorem dX6_lend_3 : decode cX6_lend 3 = .ok (.invokevirtual 92, 3) := by decide +kernel
theorem dX6_lend_6 : decode cX6_lend 6 = .ok (.ifCond .ne 10, 3) := by decide +kernel
theorem dX6_lend_9 : decode cX6_lend 9 = .ok (.aload_n 0, 1) := by decide +kernel
theorem dX6_lend_10 : decode cX6_lend 10 = .ok (.ldc 35, 2) := by decide +kernel
theorem dX6_lend_12 : decode cX6_lend 12 = .ok (.invokevirtual 37, 3) := by decide +kernel
theorem dX6_lend_15 : decode cX6_lend 15 = .ok (.ireturn, 1) := by decide +kernel
theorem dX6_lend_16 : decode cX6_lend 16 = .ok (.aload_n 0, 1) := by decide +kernel
theorem dX6_lend_17 : decode cX6_lend 17 = .ok (.iload_n 1, 1) := by decide +kernel
theorem dX6_lend_18 : decode cX6_lend 18 = .ok (.iload_n 2, 1) := by decide +kernel
theorem dX6_lend_19 : decode cX6_lend 19 = .ok (.invokevirtual 95, 3) := by decide +kernel
theorem dX6_lend_22 : decode cX6_lend 22 = .ok (.iconst 1, 1) := by decide +kernel
theorem dX6_lend_23 : decode cX6_lend 23 = .ok (.ireturn, 1) := by decide +kernel
theorem dX6_looks_0 : decode cX6_looks 0 = .ok (.aload_n 0, 1) := by decide +kernel
theorem dX6_looks_1 : decode cX6_looks 1 = .ok (.iload_n 1, 1) := by decide +kernel
theorem dX6_looks_2 : decode cX6_looks 2 = .ok (.iload_n 2, 1) := by decide +kernel
theorem dX6_looks_3 : decode cX6_looks 3 = .ok (.invokevirtual 92, 3) := by decide +kernel
theorem dX6_looks_6 : decode cX6_looks 6 = .ok (.ifCond .eq 12, 3) := by decide +kernel
theorem dX6_looks_9 : decode cX6_looks 9 = .ok (.aload_n 0, 1) := by decide +kernel
theorem dX6_looks_10 : decode cX6_looks 10 = .ok (.iload_n 1, 1) := by decide +kernel
theorem dX6_looks_11 : decode cX6_looks 11 = .ok (.iload_n 2, 1) := by decide +kernel
theorem dX6_looks_12 : decode cX6_looks 12 = .ok (.invokevirtual 57, 3) := by decide +kernel
theorem dX6_looks_15 : decode cX6_looks 15 = .ok (.goto 9, 3) := by decide +kernel
theorem dX6_looks_18 : decode cX6_looks 18 = .ok (.aload_n 0, 1) := by decide +kernel
theorem dX6_looks_19 : decode cX6_looks 19 = .ok (.ldc 35, 2) := by decide +kernel
theorem dX6_looks_21 : decode cX6_looks 21 = .ok (.invokevirtual 37, 3) := by decide +kernel
theorem dX6_looks_24 : decode cX6_looks 24 = .ok (.ireturn, 1) := by decide +kernel
theorem dX6_seesBy_0 : decode cX6_seesBy 0 = .ok (.iconst 0, 1) := by decide +kernel
theorem dX6_seesBy_1 : decode cX6_seesBy 1 = .ok (.istore_n 3, 1) := by decide +kernel
theorem dX6_seesBy_2 : decode cX6_seesBy 2 = .ok (.iconst 0, 1) := by decide +kernel
theorem dX6_seesBy_3 : decode cX6_seesBy 3 = .ok (.istore 4, 2) := by decide +kernel
theorem dX6_seesBy_5 : decode cX6_seesBy 5 = .ok (.iload 4, 2) := by decide +kernel
theorem dX6_seesBy_7 : decode cX6_seesBy 7 = .ok (.aload_n 0, 1) := by decide +kernel
theorem dX6_seesBy_8 : decode cX6_seesBy 8 = .ok (.getfield 9, 3) := by decide +kernel
theorem dX6_seesBy_11 : decode cX6_seesBy 11 = .ok (.iconst 1, 1) := by decide +kernel
theorem dX6_seesBy_12 : decode cX6_seesBy 12 = .ok (.iaload, 1) := by decide +kernel
theorem dX6_seesBy_13 : decode cX6_seesBy 13 = .ok (.if_icmp .ge 37, 3) := by decide +kernel
theorem dX6_seesBy_16 : decode cX6_seesBy 16 = .ok (.iload_n 3, 1) := by decide +kernel
theorem dX6_seesBy_17 : decode cX6_seesBy 17 = .ok (.iload 4, 2) := by decide +kernel
theorem dX6_seesBy_19 : decode cX6_seesBy 19 = .ok (.iload_n 1, 1) := by decide +kernel
theorem dX6_seesBy_20 : decode cX6_seesBy 20 = .ok (.if_icmp .eq 21, 3) := by decide +kernel
theorem dX6_seesBy_23 : decode cX6_seesBy 23 = .ok (.aload_n 0, 1) := by decide +kernel
theorem dX6_seesBy_24 : decode cX6_seesBy 24 = .ok (.iload_n 1, 1) := by decide +kernel
theorem dX6_seesBy_25 : decode cX6_seesBy 25 = .ok (.iload 4, 2) := by decide +kernel
theorem dX6_seesBy_27 : decode cX6_seesBy 27 = .ok (.invokevirtual 57, 3) := by decide +kernel
theorem dX6_seesBy_30 : decode cX6_seesBy 30 = .ok (.iload_n 2, 1) := by decide +kernel
theorem dX6_seesBy_31 : decode cX6_seesBy 31 = .ok (.if_icmp .lt 10, 3) := by decide +kernel
theorem dX6_seesBy_34 : decode cX6_seesBy 34 = .ok (.iconst 1, 1) := by decide +kernel
theorem dX6_seesBy_35 : decode cX6_seesBy 35 = .ok (.iload 4, 2) := by decide +kernel
theorem dX6_seesBy_37 : decode cX6_seesBy 37 = .ok (.ishl, 1) := by decide +kernel
theorem dX6_seesBy_38 : decode cX6_seesBy 38 = .ok (.goto 4, 3) := by decide +kernel
theorem dX6_seesBy_41 : decode cX6_seesBy 41 = .ok (.iconst 0, 1) := by decide +kernel
theorem dX6_seesBy_42 : decode cX6_seesBy 42 = .ok (.ior, 1) := by decide +kernel
theorem dX6_seesBy_43 : decode cX6_seesBy 43 = .ok (.istore_n 3, 1) := by decide +kernel
theorem dX6_seesBy_44 : decode cX6_seesBy 44 = .ok (.iinc 4 1, 3) := by decide +kernel
theorem dX6_seesBy_47 : decode cX6_seesBy 47 = .ok (.goto (-42), 3) := by decide +kernel
theorem dX6_seesBy_50 : decode cX6_seesBy 50 = .ok (.iload_n 3, 1) := by decide +kernel
theorem dX6_seesBy_51 : decode cX6_seesBy 51 = .ok (.ireturn, 1) := by decide +kernel
theorem dX6_sees_0 : decode cX6_sees 0 = .ok (.aload_n 0, 1) := by decide +kernel
theorem dX6_sees_1 : decode cX6_sees 1 = .ok (.iload_n 1, 1) := by decide +kernel
theorem dX6_sees_2 : decode cX6_sees 2 = .ok (.invokevirtual 45, 3) := by decide +kernel
theorem dX6_sees_5 : decode cX6_sees 5 = .ok (.ifCond .eq 24, 3) := by decide +kernel
theorem dX6_sees_8 : decode cX6_sees 8 = .ok (.iload_n 2, 1) := by decide +kernel
theorem dX6_sees_9 : decode cX6_sees 9 = .ok (.i2l, 1) := by decide +kernel
theorem dX6_sees_10 : decode cX6_sees 10 = .ok (.iconst 0, 1) := by decide +kernel
theorem dX6_sees_11 : decode cX6_sees 11 = .ok (.sipush 198, 3) := by decide +kernel
theorem dX6_sees_14 : decode cX6_sees 14 = .ok (.invokestatic 41, 3) := by decide +kernel
theorem dX6_sees_17 : decode cX6_sees 17 = .ok (.ifCond .eq 12, 3) := by decide +kernel
theorem dX6_sees_20 : decode cX6_sees 20 = .ok (.aload_n 0, 1) := by decide +kernel
theorem dX6_sees_21 : decode cX6_sees 21 = .ok (.iload_n 1, 1) := by decide +kernel
theorem dX6_sees_22 : decode cX6_sees 22 = .ok (.iload_n 2, 1) := by decide +kernel
theorem dX6_sees_23 : decode cX6_sees 23 = .ok (.invokevirtual 99, 3) := by decide +kernel
theorem dX6_sees_26 : decode cX6_sees 26 = .ok (.goto 9, 3) := by decide +kernel
theorem dX6_sees_29 : decode cX6_sees 29 = .ok (.aload_n 0, 1) := by decide +kernel
theorem dX6_sees_30 : decode cX6_sees 30 = .ok (.ldc 35, 2) := by decide +kernel
theorem dX6_sees_32 : decode cX6_sees 32 = .ok (.invokevirtual 37, 3) := by decide +kernel
theorem dX6_sees_35 : decode cX6_sees 35 = .ok (.ireturn, 1) := by decide +kernel
theorem dX6_goes_0 : decode cX6_goes 0 = .ok (.iconst 0, 1) := by decide +kernel
theorem dX6_goes_1 : decode cX6_goes 1 = .ok (.istore_n 1, 1) := by decide +kernel
theorem dX6_goes_2 : decode cX6_goes 2 = .ok (.iload_n 1, 1) := by decide +kernel
theorem dX6_goes_3 : decode cX6_goes 3 = .ok (.aload_n 0, 1) := by decide +kernel
theorem dX6_goes_4 : decode cX6_goes 4 = .ok (.getfield 9, 3) := by decide +kernel
theorem dX6_goes_7 : decode cX6_goes 7 = .ok (.iconst 1, 1) := by decide +kernel
theorem dX6_goes_8 : decode cX6_goes 8 = .ok (.iaload, 1) := by decide +kernel
theorem dX6_goes_9 : decode cX6_goes 9 = .ok (.if_icmp .ge 99, 3) := by decide +kernel
theorem dX6_goes_12 : decode cX6_goes 12 = .ok (.aload_n 0, 1) := by decide +kernel
theorem dX6_goes_13 : decode cX6_goes 13 = .ok (.iload_n 1, 1) := by decide +kernel
theorem dX6_goes_14 : decode cX6_goes 14 = .ok (.iconst 1, 1) := by decide +kernel
theorem dX6_goes_15 : decode cX6_goes 15 = .ok (.aload_n 0, 1) := by decide +kernel
theorem dX6_goes_16 : decode cX6_goes 16 = .ok (.iload_n 1, 1) := by decide +kernel
theorem dX6_goes_17 : decode cX6_goes 17 = .ok (.iconst 1, 1) := by decide +kernel
theorem dX6_goes_18 : decode cX6_goes 18 = .ok (.invokevirtual 49, 3) := by decide +kernel
theorem dX6_goes_21 : decode cX6_goes 21 = .ok (.aload_n 0, 1) := by decide +kernel
theorem dX6_goes_22 : decode cX6_goes 22 = .ok (.iload_n 1, 1) := by decide +kernel
theorem dX6_goes_23 : decode cX6_goes 23 = .ok (.invokevirtual 77, 3) := by decide +kernel
theorem dX6_goes_26 : decode cX6_goes 26 = .ok (.iadd, 1) := by decide +kernel
theorem dX6_goes_27 : decode cX6_goes 27 = .ok (.aload_n 0, 1) := by decide +kernel
theorem dX6_goes_28 : decode cX6_goes 28 = .ok (.iload_n 1, 1) := by decide +kernel
theorem dX6_goes_29 : decode cX6_goes 29 = .ok (.invokevirtual 74, 3) := by decide +kernel
theorem dX6_goes_32 : decode cX6_goes 32 = .ok (.isub, 1) := by decide +kernel
theorem dX6_goes_33 : decode cX6_goes 33 = .ok (.iconst 0, 1) := by decide +kernel
theorem dX6_goes_34 : decode cX6_goes 34 = .ok (.bipush 99, 2) := by decide +kernel
theorem dX6_goes_36 : decode cX6_goes 36 = .ok (.invokestatic 53, 3) := by decide +kernel
theorem dX6_goes_39 : decode cX6_goes 39 = .ok (.invokevirtual 63, 3) := by decide +kernel
theorem dX6_goes_42 : decode cX6_goes 42 = .ok (.aload_n 0, 1) := by decide +kernel
theorem dX6_goes_43 : decode cX6_goes 43 = .ok (.iload_n 1, 1) := by decide +kernel
theorem dX6_goes_44 : decode cX6_goes 44 = .ok (.iconst 3, 1) := by decide +kernel
theorem dX6_goes_45 : decode cX6_goes 45 = .ok (.invokevirtual 49, 3) := by decide +kernel
theorem dX6_goes_48 : decode cX6_goes 48 = .ok (.ifCond .ne 22, 3) := by decide +kernel
theorem dX6_goes_51 : decode cX6_goes 51 = .ok (.aload_n 0, 1) := by decide +kernel
theorem dX6_goes_52 : decode cX6_goes 52 = .ok (.iload_n 1, 1) := by decide +kernel
theorem dX6_goes_53 : decode cX6_goes 53 = .ok (.iconst 1, 1) := by decide +kernel
theorem dX6_goes_54 : decode cX6_goes 54 = .ok (.invokevirtual 49, 3) := by decide +kernel
theorem dX6_goes_57 : decode cX6_goes 57 = .ok (.aload_n 0, 1) := by decide +kernel
theorem dX6_goes_58 : decode cX6_goes 58 = .ok (.iload_n 1, 1) := by decide +kernel
theorem dX6_goes_59 : decode cX6_goes 59 = .ok (.iconst 5, 1) := by decide +kernel
theorem dX6_goes_60 : decode cX6_goes 60 = .ok (.invokevirtual 49, 3) := by decide +kernel
theorem dX6_goes_63 : decode cX6_goes 63 = .ok (.if_icmp .ge 7, 3) := by decide +kernel
theorem dX6_goes_66 : decode cX6_goes 66 = .ok (.iconst 1, 1) := by decide +kernel
theorem dX6_goes_67 : decode cX6_goes 67 = .ok (.goto 4, 3) := by decide +kernel
theorem dX6_goes_70 : decode cX6_goes 70 = .ok (.iconst 0, 1) := by decide +kernel
theorem dX6_goes_71 : decode cX6_goes 71 = .ok (.istore_n 2, 1) := by decide +kernel
theorem dX6_goes_72 : decode cX6_goes 72 = .ok (.aload_n 0, 1) := by decide +kernel
theorem dX6_goes_73 : decode cX6_goes 73 = .ok (.iload_n 1, 1) := by decide +kernel
theorem dX6_goes_74 : decode cX6_goes 74 = .ok (.bipush 6, 2) := by decide +kernel
theorem dX6_goes_76 : decode cX6_goes 76 = .ok (.aload_n 0, 1) := by decide +kernel
theorem dX6_goes_77 : decode cX6_goes 77 = .ok (.iload_n 1, 1) := by decide +kernel
theorem dX6_goes_78 : decode cX6_goes 78 = .ok (.bipush 6, 2) := by decide +kernel
theorem dX6_goes_80 : decode cX6_goes 80 = .ok (.invokevirtual 49, 3) := by decide +kernel
theorem dX6_goes_83 : decode cX6_goes 83 = .ok (.iload_n 2, 1) := by decide +kernel
theorem dX6_goes_84 : decode cX6_goes 84 = .ok (.ifCond .eq 7, 3) := by decide +kernel
theorem dX6_goes_87 : decode cX6_goes 87 = .ok (.iconst 1, 1) := by decide +kernel
theorem dX6_goes_88 : decode cX6_goes 88 = .ok (.goto 4, 3) := by decide +kernel
theorem dX6_goes_91 : decode cX6_goes 91 = .ok (.iconst 0, 1) := by decide +kernel
theorem dX6_goes_92 : decode cX6_goes 92 = .ok (.iadd, 1) := by decide +kernel
theorem dX6_goes_93 : decode cX6_goes 93 = .ok (.iconst 0, 1) := by decide +kernel
theorem dX6_goes_94 : decode cX6_goes 94 = .ok (.bipush 99, 2) := by decide +kernel
theorem dX6_goes_96 : decode cX6_goes 96 = .ok (.invokestatic 53, 3) := by decide +kernel
theorem dX6_goes_99 : decode cX6_goes 99 = .ok (.invokevirtual 63, 3) := by decide +kernel
theorem dX6_goes_102 : decode cX6_goes 102 = .ok (.iinc 1 1, 3) := by decide +kernel
theorem dX6_goes_105 : decode cX6_goes 105 = .ok (.goto (-103), 3) := by decide +kernel
theorem dX6_goes_108 : decode cX6_goes 108 = .ok (.aload_n 0, 1) := by decide +kernel
theorem dX6_goes_109 : decode cX6_goes 109 = .ok (.getfield 9, 3) := by decide +kernel
theorem dX6_goes_112 : decode cX6_goes 112 = .ok (.iconst 0, 1) := by decide +kernel
theorem dX6_goes_113 : decode cX6_goes 113 = .ok (.dup2, 1) := by decide +kernel
theorem dX6_goes_114 : decode cX6_goes 114 = .ok (.iaload, 1) := by decide +kernel
theorem dX6_goes_115 : decode cX6_goes 115 = .ok (.iconst 1, 1) := by decide +kernel
theorem dX6_goes_116 : decode cX6_goes 116 = .ok (.iadd, 1) := by decide +kernel
theorem dX6_goes_117 : decode cX6_goes 117 = .ok (.iastore, 1) := by decide +kernel
theorem dX6_goes_118 : decode cX6_goes 118 = .ok (.return_, 1) := by decide +kernel
theorem dX6_goesFor_0 : decode cX6_goesFor 0 = .ok (.iconst 0, 1) := by decide +kernel
theorem dX6_goesFor_1 : decode cX6_goesFor 1 = .ok (.istore_n 2, 1) := by decide +kernel
theorem dX6_goesFor_2 : decode cX6_goesFor 2 = .ok (.iload_n 2, 1) := by decide +kernel
theorem dX6_goesFor_3 : decode cX6_goesFor 3 = .ok (.iload_n 1, 1) := by decide +kernel
theorem dX6_goesFor_4 : decode cX6_goesFor 4 = .ok (.if_icmp .ge 13, 3) := by decide +kernel
theorem dX6_goesFor_7 : decode cX6_goesFor 7 = .ok (.aload_n 0, 1) := by decide +kernel
theorem dX6_goesFor_8 : decode cX6_goesFor 8 = .ok (.invokevirtual 102, 3) := by decide +kernel
theorem dX6_goesFor_11 : decode cX6_goesFor 11 = .ok (.iinc 2 1, 3) := by decide +kernel
theorem dX6_goesFor_14 : decode cX6_goesFor 14 = .ok (.goto (-12), 3) := by decide +kernel
theorem dX6_goesFor_17 : decode cX6_goesFor 17 = .ok (.return_, 1) := by decide +kernel
theorem dX6_sums_0 : decode cX6_sums 0 = .ok (.iconst 0, 1) := by decide +kernel
theorem dX6_sums_1 : decode cX6_sums 1 = .ok (.istore_n 2, 1) := by decide +kernel
theorem dX6_sums_2 : decode cX6_sums 2 = .ok (.iconst 0, 1) := by decide +kernel
theorem dX6_sums_3 : decode cX6_sums 3 = .ok (.istore_n 3, 1) := by decide +kernel
theorem dX6_sums_4 : decode cX6_sums 4 = .ok (.iload_n 3, 1) := by decide +kernel
theorem dX6_sums_5 : decode cX6_sums 5 = .ok (.aload_n 0, 1) := by decide +kernel
theorem dX6_sums_6 : decode cX6_sums 6 = .ok (.getfield 9, 3) := by decide +kernel
theorem dX6_sums_9 : decode cX6_sums 9 = .ok (.iconst 1, 1) := by decide +kernel
theorem dX6_sums_10 : decode cX6_sums 10 = .ok (.iaload, 1) := by decide +kernel
theorem dX6_sums_11 : decode cX6_sums 11 = .ok (.if_icmp .ge 18, 3) := by decide +kernel
theorem dX6_sums_14 : decode cX6_sums 14 = .ok (.iload_n 2, 1) := by decide +kernel
theorem dX6_sums_15 : decode cX6_sums 15 = .ok (.aload_n 0, 1) := by decide +kernel
theorem dX6_sums_16 : decode cX6_sums 16 = .ok (.iload_n 3, 1) := by decide +kernel
theorem dX6_sums_17 : decode cX6_sums 17 = .ok (.iload_n 1, 1) := by decide +kernel
theorem dX6_sums_18 : decode cX6_sums 18 = .ok (.invokevirtual 49, 3) := by decide +kernel
theorem dX6_sums_21 : decode cX6_sums 21 = .ok (.iadd, 1) := by decide +kernel
theorem dX6_sums_22 : decode cX6_sums 22 = .ok (.istore_n 2, 1) := by decide +kernel
theorem dX6_sums_23 : decode cX6_sums 23 = .ok (.iinc 3 1, 3) := by decide +kernel
theorem dX6_sums_26 : decode cX6_sums 26 = .ok (.goto (-22), 3) := by decide +kernel
theorem dX6_sums_29 : decode cX6_sums 29 = .ok (.iload_n 2, 1) := by decide +kernel
theorem dX6_sums_30 : decode cX6_sums 30 = .ok (.ireturn, 1) := by decide +kernel
theorem dX6_days_0 : decode cX6_days 0 = .ok (.iload_n 1, 1) := by decide +kernel
theorem dX6_days_1 : decode cX6_days 1 = .ok (.i2l, 1) := by decide +kernel
theorem dX6_days_2 : decode cX6_days 2 = .ok (.iconst 1, 1) := by decide +kernel
theorem dX6_days_3 : decode cX6_days 3 = .ok (.bipush 100, 2) := by decide +kernel
theorem dX6_days_5 : decode cX6_days 5 = .ok (.invokestatic 41, 3) := by decide +kernel
theorem dX6_days_8 : decode cX6_days 8 = .ok (.ifCond .ne 10, 3) := by decide +kernel
theorem dX6_days_11 : decode cX6_days 11 = .ok (.aload_n 0, 1) := by decide +kernel
theorem dX6_days_12 : decode cX6_days 12 = .ok (.ldc 35, 2) := by decide +kernel
theorem dX6_days_14 : decode cX6_days 14 = .ok (.invokevirtual 37, 3) := by decide +kernel
theorem dX6_days_17 : decode cX6_days 17 = .ok (.ireturn, 1) := by decide +kernel
theorem dX6_days_18 : decode cX6_days 18 = .ok (.aload_n 0, 1) := by decide +kernel
theorem dX6_days_19 : decode cX6_days 19 = .ok (.getfield 9, 3) := by decide +kernel
theorem dX6_days_22 : decode cX6_days 22 = .ok (.iconst 0, 1) := by decide +kernel
theorem dX6_days_23 : decode cX6_days 23 = .ok (.iaload, 1) := by decide +kernel
theorem dX6_days_24 : decode cX6_days 24 = .ok (.iload_n 1, 1) := by decide +kernel
theorem dX6_days_25 : decode cX6_days 25 = .ok (.iadd, 1) := by decide +kernel
theorem dX6_days_26 : decode cX6_days 26 = .ok (.sipush 9999, 3) := by decide +kernel
theorem dX6_days_29 : decode cX6_days 29 = .ok (.if_icmp .le 10, 3) := by decide +kernel
theorem dX6_days_32 : decode cX6_days 32 = .ok (.aload_n 0, 1) := by decide +kernel
theorem dX6_days_33 : decode cX6_days 33 = .ok (.ldc 88, 2) := by decide +kernel
theorem dX6_days_35 : decode cX6_days 35 = .ok (.invokevirtual 37, 3) := by decide +kernel
theorem dX6_days_38 : decode cX6_days 38 = .ok (.ireturn, 1) := by decide +kernel
theorem dX6_days_39 : decode cX6_days 39 = .ok (.aload_n 0, 1) := by decide +kernel
theorem dX6_days_40 : decode cX6_days 40 = .ok (.iload_n 1, 1) := by decide +kernel
theorem dX6_days_41 : decode cX6_days 41 = .ok (.invokevirtual 105, 3) := by decide +kernel
theorem dX6_days_44 : decode cX6_days 44 = .ok (.aload_n 0, 1) := by decide +kernel
theorem dX6_days_45 : decode cX6_days 45 = .ok (.iconst 1, 1) := by decide +kernel
theorem dX6_days_46 : decode cX6_days 46 = .ok (.invokevirtual 109, 3) := by decide +kernel
theorem dX6_days_49 : decode cX6_days 49 = .ok (.ireturn, 1) := by decide +kernel
theorem dX6_seen_0 : decode cX6_seen 0 = .ok (.iconst 0, 1) := by decide +kernel
theorem dX6_seen_1 : decode cX6_seen 1 = .ok (.istore_n 1, 1) := by decide +kernel
theorem dX6_seen_2 : decode cX6_seen 2 = .ok (.iconst 0, 1) := by decide +kernel
theorem dX6_seen_3 : decode cX6_seen 3 = .ok (.istore_n 2, 1) := by decide +kernel
theorem dX6_seen_4 : decode cX6_seen 4 = .ok (.iload_n 2, 1) := by decide +kernel
theorem dX6_seen_5 : decode cX6_seen 5 = .ok (.aload_n 0, 1) := by decide +kernel
theorem dX6_seen_6 : decode cX6_seen 6 = .ok (.getfield 9, 3) := by decide +kernel
theorem dX6_seen_9 : decode cX6_seen 9 = .ok (.iconst 1, 1) := by decide +kernel
theorem dX6_seen_10 : decode cX6_seen 10 = .ok (.iaload, 1) := by decide +kernel
theorem dX6_seen_11 : decode cX6_seen 11 = .ok (.if_icmp .ge 19, 3) := by decide +kernel
theorem dX6_seen_14 : decode cX6_seen 14 = .ok (.iload_n 1, 1) := by decide +kernel
theorem dX6_seen_15 : decode cX6_seen 15 = .ok (.aload_n 0, 1) := by decide +kernel
theorem dX6_seen_16 : decode cX6_seen 16 = .ok (.iload_n 2, 1) := by decide +kernel
theorem dX6_seen_17 : decode cX6_seen 17 = .ok (.bipush 30, 2) := by decide +kernel
theorem dX6_seen_19 : decode cX6_seen 19 = .ok (.invokevirtual 99, 3) := by decide +kernel
theorem dX6_seen_22 : decode cX6_seen 22 = .ok (.ior, 1) := by decide +kernel
theorem dX6_seen_23 : decode cX6_seen 23 = .ok (.istore_n 1, 1) := by decide +kernel
theorem dX6_seen_24 : decode cX6_seen 24 = .ok (.iinc 2 1, 3) := by decide +kernel
theorem dX6_seen_27 : decode cX6_seen 27 = .ok (.goto (-23), 3) := by decide +kernel
theorem dX6_seen_30 : decode cX6_seen 30 = .ok (.iload_n 1, 1) := by decide +kernel
theorem dX6_seen_31 : decode cX6_seen 31 = .ok (.ireturn, 1) := by decide +kernel
theorem dX6_thoseWith_0 : decode cX6_thoseWith 0 = .ok (.iconst 0, 1) := by decide +kernel
theorem dX6_thoseWith_1 : decode cX6_thoseWith 1 = .ok (.istore_n 3, 1) := by decide +kernel
theorem dX6_thoseWith_2 : decode cX6_thoseWith 2 = .ok (.iconst 0, 1) := by decide +kernel
theorem dX6_thoseWith_3 : decode cX6_thoseWith 3 = .ok (.istore 4, 2) := by decide +kernel
theorem dX6_thoseWith_5 : decode cX6_thoseWith 5 = .ok (.iload 4, 2) := by decide +kernel
theorem dX6_thoseWith_7 : decode cX6_thoseWith 7 = .ok (.aload_n 0, 1) := by decide +kernel
theorem dX6_thoseWith_8 : decode cX6_thoseWith 8 = .ok (.getfield 9, 3) := by decide +kernel
theorem dX6_thoseWith_11 : decode cX6_thoseWith 11 = .ok (.iconst 1, 1) := by decide +kernel
theorem dX6_thoseWith_12 : decode cX6_thoseWith 12 = .ok (.iaload, 1) := by decide +kernel
theorem dX6_thoseWith_13 : decode cX6_thoseWith 13 = .ok (.if_icmp .ge 31, 3) := by decide +kernel
theorem dX6_thoseWith_16 : decode cX6_thoseWith 16 = .ok (.iload_n 3, 1) := by decide +kernel
theorem dX6_thoseWith_17 : decode cX6_thoseWith 17 = .ok (.aload_n 0, 1) := by decide +kernel
theorem dX6_thoseWith_18 : decode cX6_thoseWith 18 = .ok (.iload 4, 2) := by decide +kernel
theorem dX6_thoseWith_20 : decode cX6_thoseWith 20 = .ok (.iload_n 1, 1) := by decide +kernel
theorem dX6_thoseWith_21 : decode cX6_thoseWith 21 = .ok (.invokevirtual 49, 3) := by decide +kernel
theorem dX6_thoseWith_24 : decode cX6_thoseWith 24 = .ok (.iload_n 2, 1) := by decide +kernel
theorem dX6_thoseWith_25 : decode cX6_thoseWith 25 = .ok (.if_icmp .ne 10, 3) := by decide +kernel
theorem dX6_thoseWith_28 : decode cX6_thoseWith 28 = .ok (.iconst 1, 1) := by decide +kernel
theorem dX6_thoseWith_29 : decode cX6_thoseWith 29 = .ok (.iload 4, 2) := by decide +kernel
theorem dX6_thoseWith_31 : decode cX6_thoseWith 31 = .ok (.ishl, 1) := by decide +kernel
theorem dX6_thoseWith_32 : decode cX6_thoseWith 32 = .ok (.goto 4, 3) := by decide +kernel
theorem dX6_thoseWith_35 : decode cX6_thoseWith 35 = .ok (.iconst 0, 1) := by decide +kernel
theorem dX6_thoseWith_36 : decode cX6_thoseWith 36 = .ok (.ior, 1) := by decide +kernel
theorem dX6_thoseWith_37 : decode cX6_thoseWith 37 = .ok (.istore_n 3, 1) := by decide +kernel
theorem dX6_thoseWith_38 : decode cX6_thoseWith 38 = .ok (.iinc 4 1, 3) := by decide +kernel
theorem dX6_thoseWith_41 : decode cX6_thoseWith 41 = .ok (.goto (-36), 3) := by decide +kernel
theorem dX6_thoseWith_44 : decode cX6_thoseWith 44 = .ok (.iload_n 3, 1) := by decide +kernel
theorem dX6_thoseWith_45 : decode cX6_thoseWith 45 = .ok (.ireturn, 1) := by decide +kernel
theorem dX6_now_0 : decode cX6_now 0 = .ok (.iload_n 1, 1) := by decide +kernel
theorem dX6_now_1 : decode cX6_now 1 = .ok (.tableswitch 67 0 4 #[35, 42, 48, 55, 60], 35) := by decide +kernel
theorem dX6_now_36 : decode cX6_now 36 = .ok (.aload_n 0, 1) := by decide +kernel
theorem dX6_now_37 : decode cX6_now 37 = .ok (.getfield 9, 3) := by decide +kernel
theorem dX6_now_40 : decode cX6_now 40 = .ok (.iconst 0, 1) := by decide +kernel
theorem dX6_now_41 : decode cX6_now 41 = .ok (.iaload, 1) := by decide +kernel
theorem dX6_now_42 : decode cX6_now 42 = .ok (.ireturn, 1) := by decide +kernel
theorem dX6_now_43 : decode cX6_now 43 = .ok (.aload_n 0, 1) := by decide +kernel
theorem dX6_now_44 : decode cX6_now 44 = .ok (.iconst 1, 1) := by decide +kernel
theorem dX6_now_45 : decode cX6_now 45 = .ok (.invokevirtual 109, 3) := by decide +kernel
theorem dX6_now_48 : decode cX6_now 48 = .ok (.ireturn, 1) := by decide +kernel
theorem dX6_now_49 : decode cX6_now 49 = .ok (.aload_n 0, 1) := by decide +kernel
theorem dX6_now_50 : decode cX6_now 50 = .ok (.iconst 1, 1) := by decide +kernel
theorem dX6_now_51 : decode cX6_now 51 = .ok (.iconst 0, 1) := by decide +kernel
theorem dX6_now_52 : decode cX6_now 52 = .ok (.invokevirtual 112, 3) := by decide +kernel
theorem dX6_now_55 : decode cX6_now 55 = .ok (.ireturn, 1) := by decide +kernel
theorem dX6_now_56 : decode cX6_now 56 = .ok (.aload_n 0, 1) := by decide +kernel
theorem dX6_now_57 : decode cX6_now 57 = .ok (.invokevirtual 115, 3) := by decide +kernel
theorem dX6_now_60 : decode cX6_now 60 = .ok (.ireturn, 1) := by decide +kernel
theorem dX6_now_61 : decode cX6_now 61 = .ok (.aload_n 0, 1) := by decide +kernel
theorem dX6_now_62 : decode cX6_now 62 = .ok (.iconst 3, 1) := by decide +kernel
theorem dX6_now_63 : decode cX6_now 63 = .ok (.iconst 1, 1) := by decide +kernel
theorem dX6_now_64 : decode cX6_now 64 = .ok (.invokevirtual 112, 3) := by decide +kernel
theorem dX6_now_67 : decode cX6_now 67 = .ok (.ireturn, 1) := by decide +kernel
theorem dX6_now_68 : decode cX6_now 68 = .ok (.aload_n 0, 1) := by decide +kernel
theorem dX6_now_69 : decode cX6_now 69 = .ok (.ldc 35, 2) := by decide +kernel
theorem dX6_now_71 : decode cX6_now 71 = .ok (.invokevirtual 37, 3) := by decide +kernel
theorem dX6_now_74 : decode cX6_now 74 = .ok (.ireturn, 1) := by decide +kernel
theorem dX6_thinks_0 : decode cX6_thinks 0 = .ok (.aload_n 0, 1) := by decide +kernel
theorem dX6_thinks_1 : decode cX6_thinks 1 = .ok (.getfield 9, 3) := by decide +kernel
theorem dX6_thinks_4 : decode cX6_thinks 4 = .ok (.aload_n 0, 1) := by decide +kernel
theorem dX6_thinks_5 : decode cX6_thinks 5 = .ok (.getfield 16, 3) := by decide +kernel
theorem dX6_thinks_8 : decode cX6_thinks 8 = .ok (.invokestatic 119, 3) := by decide +kernel
theorem dX6_thinks_11 : decode cX6_thinks 11 = .ok (.return_, 1) := by decide +kernel
theorem dX6_putsBack_0 : decode cX6_putsBack 0 = .ok (.aload_n 0, 1) := by decide +kernel
theorem dX6_putsBack_1 : decode cX6_putsBack 1 = .ok (.getfield 16, 3) := by decide +kernel
theorem dX6_putsBack_4 : decode cX6_putsBack 4 = .ok (.aload_n 0, 1) := by decide +kernel
theorem dX6_putsBack_5 : decode cX6_putsBack 5 = .ok (.getfield 9, 3) := by decide +kernel
theorem dX6_putsBack_8 : decode cX6_putsBack 8 = .ok (.invokestatic 119, 3) := by decide +kernel
theorem dX6_putsBack_11 : decode cX6_putsBack 11 = .ok (.return_, 1) := by decide +kernel
theorem dX6_on_0 : decode cX6_on 0 = .ok (.aload_n 0, 1) := by decide +kernel
theorem dX6_on_1 : decode cX6_on 1 = .ok (.iload_n 1, 1) := by decide +kernel
theorem dX6_on_2 : decode cX6_on 2 = .ok (.invokevirtual 45, 3) := by decide +kernel
theorem dX6_on_5 : decode cX6_on 5 = .ok (.ifCond .eq 25, 3) := by decide +kernel
theorem dX6_on_8 : decode cX6_on 8 = .ok (.iload_n 2, 1) := by decide +kernel
theorem dX6_on_9 : decode cX6_on 9 = .ok (.i2l, 1) := by decide +kernel
theorem dX6_on_10 : decode cX6_on 10 = .ok (.iconst 0, 1) := by decide +kernel
theorem dX6_on_11 : decode cX6_on 11 = .ok (.sipush 200, 3) := by decide +kernel
theorem dX6_on_14 : decode cX6_on 14 = .ok (.invokestatic 41, 3) := by decide +kernel
theorem dX6_on_17 : decode cX6_on 17 = .ok (.ifCond .eq 13, 3) := by decide +kernel
theorem dX6_on_20 : decode cX6_on 20 = .ok (.iload_n 3, 1) := by decide +kernel
theorem dX6_on_21 : decode cX6_on 21 = .ok (.i2l, 1) := by decide +kernel
theorem dX6_on_22 : decode cX6_on 22 = .ok (.iconst 0, 1) := by decide +kernel
theorem dX6_on_23 : decode cX6_on 23 = .ok (.iconst 1, 1) := by decide +kernel
theorem dX6_on_24 : decode cX6_on 24 = .ok (.invokestatic 41, 3) := by decide +kernel
theorem dX6_on_27 : decode cX6_on 27 = .ok (.ifCond .ne 10, 3) := by decide +kernel
theorem dX6_on_30 : decode cX6_on 30 = .ok (.aload_n 0, 1) := by decide +kernel
theorem dX6_on_31 : decode cX6_on 31 = .ok (.ldc 35, 2) := by decide +kernel
theorem dX6_on_33 : decode cX6_on 33 = .ok (.invokevirtual 37, 3) := by decide +kernel
theorem dX6_on_36 : decode cX6_on 36 = .ok (.ireturn, 1) := by decide +kernel
theorem dX6_on_37 : decode cX6_on 37 = .ok (.aload_n 0, 1) := by decide +kernel
theorem dX6_on_38 : decode cX6_on 38 = .ok (.invokevirtual 123, 3) := by decide +kernel
theorem dX6_on_41 : decode cX6_on 41 = .ok (.aload_n 0, 1) := by decide +kernel
theorem dX6_on_42 : decode cX6_on 42 = .ok (.iload_n 2, 1) := by decide +kernel
theorem dX6_on_43 : decode cX6_on 43 = .ok (.invokevirtual 105, 3) := by decide +kernel
theorem dX6_on_46 : decode cX6_on 46 = .ok (.aload_n 0, 1) := by decide +kernel
theorem dX6_on_47 : decode cX6_on 47 = .ok (.iload_n 1, 1) := by decide +kernel
theorem dX6_on_48 : decode cX6_on 48 = .ok (.iload_n 3, 1) := by decide +kernel
theorem dX6_on_49 : decode cX6_on 49 = .ok (.ifCond .ne 7, 3) := by decide +kernel
theorem dX6_on_52 : decode cX6_on 52 = .ok (.iconst 1, 1) := by decide +kernel
theorem dX6_on_53 : decode cX6_on 53 = .ok (.goto 5, 3) := by decide +kernel
theorem dX6_on_56 : decode cX6_on 56 = .ok (.bipush 6, 2) := by decide +kernel
theorem dX6_on_58 : decode cX6_on 58 = .ok (.invokevirtual 49, 3) := by decide +kernel
theorem dX6_on_61 : decode cX6_on 61 = .ok (.istore 4, 2) := by decide +kernel
theorem dX6_on_63 : decode cX6_on 63 = .ok (.aload_n 0, 1) := by decide +kernel
theorem dX6_on_64 : decode cX6_on 64 = .ok (.invokevirtual 126, 3) := by decide +kernel
theorem dX6_on_67 : decode cX6_on 67 = .ok (.iload 4, 2) := by decide +kernel
theorem dX6_on_69 : decode cX6_on 69 = .ok (.ireturn, 1) := by decide +kernel
theorem dX6_then_0 : decode cX6_then 0 = .ok (.aload_n 0, 1) := by decide +kernel
theorem dX6_then_1 : decode cX6_then 1 = .ok (.iload_n 1, 1) := by decide +kernel
theorem dX6_then_2 : decode cX6_then 2 = .ok (.iload_n 2, 1) := by decide +kernel
theorem dX6_then_3 : decode cX6_then 3 = .ok (.invokevirtual 92, 3) := by decide +kernel
theorem dX6_then_6 : decode cX6_then 6 = .ok (.ifCond .eq 15, 3) := by decide +kernel
theorem dX6_then_9 : decode cX6_then 9 = .ok (.iload_n 3, 1) := by decide +kernel
theorem dX6_then_10 : decode cX6_then 10 = .ok (.i2l, 1) := by decide +kernel
theorem dX6_then_11 : decode cX6_then 11 = .ok (.iconst 0, 1) := by decide +kernel
theorem dX6_then_12 : decode cX6_then 12 = .ok (.sipush 200, 3) := by decide +kernel
theorem dX6_then_15 : decode cX6_then 15 = .ok (.invokestatic 41, 3) := by decide +kernel
theorem dX6_then_18 : decode cX6_then 18 = .ok (.ifCond .ne 10, 3) := by decide +kernel
theorem dX6_then_21 : decode cX6_then 21 = .ok (.aload_n 0, 1) := by decide +kernel
theorem dX6_then_22 : decode cX6_then 22 = .ok (.ldc 35, 2) := by decide +kernel
theorem dX6_then_24 : decode cX6_then 24 = .ok (.invokevirtual 37, 3) := by decide +kernel
theorem dX6_then_27 : decode cX6_then 27 = .ok (.ireturn, 1) := by decide +kernel
theorem dX6_then_28 : decode cX6_then 28 = .ok (.aload_n 0, 1) := by decide +kernel
theorem dX6_then_29 : decode cX6_then 29 = .ok (.invokevirtual 123, 3) := by decide +kernel
theorem dX6_then_32 : decode cX6_then 32 = .ok (.aload_n 0, 1) := by decide +kernel
theorem dX6_then_33 : decode cX6_then 33 = .ok (.iload_n 3, 1) := by decide +kernel
theorem dX6_then_34 : decode cX6_then 34 = .ok (.invokevirtual 105, 3) := by decide +kernel
theorem dX6_then_37 : decode cX6_then 37 = .ok (.aload_n 0, 1) := by decide +kernel
theorem dX6_then_38 : decode cX6_then 38 = .ok (.iload_n 1, 1) := by decide +kernel
theorem dX6_then_39 : decode cX6_then 39 = .ok (.iload_n 2, 1) := by decide +kernel
theorem dX6_then_40 : decode cX6_then 40 = .ok (.invokevirtual 57, 3) := by decide +kernel
theorem dX6_then_43 : decode cX6_then 43 = .ok (.istore 4, 2) := by decide +kernel
theorem dX6_then_45 : decode cX6_then 45 = .ok (.aload_n 0, 1) := by decide +kernel
theorem dX6_then_46 : decode cX6_then 46 = .ok (.invokevirtual 126, 3) := by decide +kernel
theorem dX6_then_49 : decode cX6_then 49 = .ok (.iload 4, 2) := by decide +kernel
theorem dX6_then_51 : decode cX6_then 51 = .ok (.ireturn, 1) := by decide +kernel
theorem dX6_easedIn_0 : decode cX6_easedIn 0 = .ok (.iconst 0, 1) := by decide +kernel
theorem dX6_easedIn_1 : decode cX6_easedIn 1 = .ok (.istore_n 2, 1) := by decide +kernel
theorem dX6_easedIn_2 : decode cX6_easedIn 2 = .ok (.iload_n 2, 1) := by decide +kernel
theorem dX6_easedIn_3 : decode cX6_easedIn 3 = .ok (.sipush 200, 3) := by decide +kernel
theorem dX6_easedIn_6 : decode cX6_easedIn 6 = .ok (.if_icmp .gt 22, 3) := by decide +kernel
theorem dX6_easedIn_9 : decode cX6_easedIn 9 = .ok (.aload_n 0, 1) := by decide +kernel
theorem dX6_easedIn_10 : decode cX6_easedIn 10 = .ok (.iload_n 1, 1) := by decide +kernel
theorem dX6_easedIn_11 : decode cX6_easedIn 11 = .ok (.iconst 1, 1) := by decide +kernel
theorem dX6_easedIn_12 : decode cX6_easedIn 12 = .ok (.invokevirtual 49, 3) := by decide +kernel
theorem dX6_easedIn_15 : decode cX6_easedIn 15 = .ok (.ifCond .le 13, 3) := by decide +kernel
theorem dX6_easedIn_18 : decode cX6_easedIn 18 = .ok (.aload_n 0, 1) := by decide +kernel
theorem dX6_easedIn_19 : decode cX6_easedIn 19 = .ok (.invokevirtual 102, 3) := by decide +kernel
theorem dX6_easedIn_22 : decode cX6_easedIn 22 = .ok (.iinc 2 1, 3) := by decide +kernel
theorem dX6_easedIn_25 : decode cX6_easedIn 25 = .ok (.goto (-23), 3) := by decide +kernel
theorem dX6_easedIn_28 : decode cX6_easedIn 28 = .ok (.aload_n 0, 1) := by decide +kernel
theorem dX6_easedIn_29 : decode cX6_easedIn 29 = .ok (.invokevirtual 126, 3) := by decide +kernel
theorem dX6_easedIn_32 : decode cX6_easedIn 32 = .ok (.iload_n 2, 1) := by decide +kernel
theorem dX6_easedIn_33 : decode cX6_easedIn 33 = .ok (.sipush 200, 3) := by decide +kernel
theorem dX6_easedIn_36 : decode cX6_easedIn 36 = .ok (.if_icmp .le 7, 3) := by decide +kernel
theorem dX6_easedIn_39 : decode cX6_easedIn 39 = .ok (.iconst (-1), 1) := by decide +kernel
theorem dX6_easedIn_40 : decode cX6_easedIn 40 = .ok (.goto 4, 3) := by decide +kernel
theorem dX6_easedIn_43 : decode cX6_easedIn 43 = .ok (.iload_n 2, 1) := by decide +kernel
theorem dX6_easedIn_44 : decode cX6_easedIn 44 = .ok (.ireturn, 1) := by decide +kernel
theorem dX6_forgives_0 : decode cX6_forgives 0 = .ok (.aload_n 0, 1) := by decide +kernel
theorem dX6_forgives_1 : decode cX6_forgives 1 = .ok (.iload_n 1, 1) := by decide +kernel
theorem dX6_forgives_2 : decode cX6_forgives 2 = .ok (.invokevirtual 45, 3) := by decide +kernel
theorem dX6_forgives_5 : decode cX6_forgives 5 = .ok (.ifCond .ne 10, 3) := by decide +kernel
theorem dX6_forgives_8 : decode cX6_forgives 8 = .ok (.aload_n 0, 1) := by decide +kernel
theorem dX6_forgives_9 : decode cX6_forgives 9 = .ok (.ldc 35, 2) := by decide +kernel
theorem dX6_forgives_11 : decode cX6_forgives 11 = .ok (.invokevirtual 37, 3) := by decide +kernel
theorem dX6_forgives_14 : decode cX6_forgives 14 = .ok (.ireturn, 1) := by decide +kernel
theorem dX6_forgives_15 : decode cX6_forgives 15 = .ok (.aload_n 0, 1) := by decide +kernel
theorem dX6_forgives_16 : decode cX6_forgives 16 = .ok (.invokevirtual 123, 3) := by decide +kernel
theorem dX6_forgives_19 : decode cX6_forgives 19 = .ok (.aload_n 0, 1) := by decide +kernel
theorem dX6_forgives_20 : decode cX6_forgives 20 = .ok (.aload_n 0, 1) := by decide +kernel
theorem dX6_forgives_21 : decode cX6_forgives 21 = .ok (.iload_n 1, 1) := by decide +kernel
theorem dX6_forgives_22 : decode cX6_forgives 22 = .ok (.invokevirtual 129, 3) := by decide +kernel
theorem dX6_forgives_25 : decode cX6_forgives 25 = .ok (.invokevirtual 132, 3) := by decide +kernel
theorem dX6_forgives_28 : decode cX6_forgives 28 = .ok (.ireturn, 1) := by decide +kernel
theorem dX6_worn_0 : decode cX6_worn 0 = .ok (.aload_n 0, 1) := by decide +kernel
theorem dX6_worn_1 : decode cX6_worn 1 = .ok (.iload_n 1, 1) := by decide +kernel
theorem dX6_worn_2 : decode cX6_worn 2 = .ok (.invokevirtual 45, 3) := by decide +kernel
theorem dX6_worn_5 : decode cX6_worn 5 = .ok (.ifCond .ne 10, 3) := by decide +kernel
theorem dX6_worn_8 : decode cX6_worn 8 = .ok (.aload_n 0, 1) := by decide +kernel
theorem dX6_worn_9 : decode cX6_worn 9 = .ok (.ldc 35, 2) := by decide +kernel
theorem dX6_worn_11 : decode cX6_worn 11 = .ok (.invokevirtual 37, 3) := by decide +kernel
theorem dX6_worn_14 : decode cX6_worn 14 = .ok (.ireturn, 1) := by decide +kernel
theorem dX6_worn_15 : decode cX6_worn 15 = .ok (.aload_n 0, 1) := by decide +kernel
theorem dX6_worn_16 : decode cX6_worn 16 = .ok (.invokevirtual 123, 3) := by decide +kernel
theorem dX6_worn_19 : decode cX6_worn 19 = .ok (.iconst 0, 1) := by decide +kernel
theorem dX6_worn_20 : decode cX6_worn 20 = .ok (.istore_n 2, 1) := by decide +kernel
theorem dX6_worn_21 : decode cX6_worn 21 = .ok (.iload_n 2, 1) := by decide +kernel
theorem dX6_worn_22 : decode cX6_worn 22 = .ok (.sipush 200, 3) := by decide +kernel
theorem dX6_worn_25 : decode cX6_worn 25 = .ok (.if_icmp .gt 29, 3) := by decide +kernel
theorem dX6_worn_28 : decode cX6_worn 28 = .ok (.aload_n 0, 1) := by decide +kernel
theorem dX6_worn_29 : decode cX6_worn 29 = .ok (.iload_n 1, 1) := by decide +kernel
theorem dX6_worn_30 : decode cX6_worn 30 = .ok (.bipush 6, 2) := by decide +kernel
theorem dX6_worn_32 : decode cX6_worn 32 = .ok (.invokevirtual 49, 3) := by decide +kernel
theorem dX6_worn_35 : decode cX6_worn 35 = .ok (.aload_n 0, 1) := by decide +kernel
theorem dX6_worn_36 : decode cX6_worn 36 = .ok (.iload_n 1, 1) := by decide +kernel
theorem dX6_worn_37 : decode cX6_worn 37 = .ok (.iconst 5, 1) := by decide +kernel
theorem dX6_worn_38 : decode cX6_worn 38 = .ok (.invokevirtual 49, 3) := by decide +kernel
theorem dX6_worn_41 : decode cX6_worn 41 = .ok (.if_icmp .ge 13, 3) := by decide +kernel
theorem dX6_worn_44 : decode cX6_worn 44 = .ok (.aload_n 0, 1) := by decide +kernel
theorem dX6_worn_45 : decode cX6_worn 45 = .ok (.invokevirtual 102, 3) := by decide +kernel
theorem dX6_worn_48 : decode cX6_worn 48 = .ok (.iinc 2 1, 3) := by decide +kernel
theorem dX6_worn_51 : decode cX6_worn 51 = .ok (.goto (-30), 3) := by decide +kernel
theorem dX6_worn_54 : decode cX6_worn 54 = .ok (.aload_n 0, 1) := by decide +kernel
theorem dX6_worn_55 : decode cX6_worn 55 = .ok (.invokevirtual 126, 3) := by decide +kernel
theorem dX6_worn_58 : decode cX6_worn 58 = .ok (.iload_n 2, 1) := by decide +kernel
theorem dX6_worn_59 : decode cX6_worn 59 = .ok (.sipush 200, 3) := by decide +kernel
theorem dX6_worn_62 : decode cX6_worn 62 = .ok (.if_icmp .le 12, 3) := by decide +kernel
theorem dX6_worn_65 : decode cX6_worn 65 = .ok (.aload_n 0, 1) := by decide +kernel
theorem dX6_worn_66 : decode cX6_worn 66 = .ok (.ldc 36, 2) := by decide +kernel
theorem dX6_worn_68 : decode cX6_worn 68 = .ok (.invokevirtual 37, 3) := by decide +kernel
theorem dX6_worn_71 : decode cX6_worn 71 = .ok (.goto 4, 3) := by decide +kernel
theorem dX6_worn_74 : decode cX6_worn 74 = .ok (.iload_n 2, 1) := by decide +kernel
theorem dX6_worn_75 : decode cX6_worn 75 = .ok (.ireturn, 1) := by decide +kernel
theorem dX6_unseen_0 : decode cX6_unseen 0 = .ok (.aload_n 0, 1) := by decide +kernel
theorem dX6_unseen_1 : decode cX6_unseen 1 = .ok (.iload_n 1, 1) := by decide +kernel
theorem dX6_unseen_2 : decode cX6_unseen 2 = .ok (.invokevirtual 45, 3) := by decide +kernel
theorem dX6_unseen_5 : decode cX6_unseen 5 = .ok (.ifCond .ne 10, 3) := by decide +kernel
theorem dX6_unseen_8 : decode cX6_unseen 8 = .ok (.aload_n 0, 1) := by decide +kernel
theorem dX6_unseen_9 : decode cX6_unseen 9 = .ok (.ldc 35, 2) := by decide +kernel
theorem dX6_unseen_11 : decode cX6_unseen 11 = .ok (.invokevirtual 37, 3) := by decide +kernel
theorem dX6_unseen_14 : decode cX6_unseen 14 = .ok (.ireturn, 1) := by decide +kernel
theorem dX6_unseen_15 : decode cX6_unseen 15 = .ok (.aload_n 0, 1) := by decide +kernel
theorem dX6_unseen_16 : decode cX6_unseen 16 = .ok (.invokevirtual 123, 3) := by decide +kernel
theorem dX6_unseen_19 : decode cX6_unseen 19 = .ok (.iconst 0, 1) := by decide +kernel
theorem dX6_unseen_20 : decode cX6_unseen 20 = .ok (.istore_n 2, 1) := by decide +kernel
theorem dX6_unseen_21 : decode cX6_unseen 21 = .ok (.iload_n 2, 1) := by decide +kernel
theorem dX6_unseen_22 : decode cX6_unseen 22 = .ok (.sipush 200, 3) := by decide +kernel
theorem dX6_unseen_25 : decode cX6_unseen 25 = .ok (.if_icmp .gt 25, 3) := by decide +kernel
theorem dX6_unseen_28 : decode cX6_unseen 28 = .ok (.aload_n 0, 1) := by decide +kernel
theorem dX6_unseen_29 : decode cX6_unseen 29 = .ok (.invokevirtual 115, 3) := by decide +kernel
theorem dX6_unseen_32 : decode cX6_unseen 32 = .ok (.iload_n 1, 1) := by decide +kernel
theorem dX6_unseen_33 : decode cX6_unseen 33 = .ok (.ishr, 1) := by decide +kernel
theorem dX6_unseen_34 : decode cX6_unseen 34 = .ok (.iconst 1, 1) := by decide +kernel
theorem dX6_unseen_35 : decode cX6_unseen 35 = .ok (.iand, 1) := by decide +kernel
theorem dX6_unseen_36 : decode cX6_unseen 36 = .ok (.iconst 1, 1) := by decide +kernel
theorem dX6_unseen_37 : decode cX6_unseen 37 = .ok (.if_icmp .ne 13, 3) := by decide +kernel
theorem dX6_unseen_40 : decode cX6_unseen 40 = .ok (.aload_n 0, 1) := by decide +kernel
theorem dX6_unseen_41 : decode cX6_unseen 41 = .ok (.invokevirtual 102, 3) := by decide +kernel
theorem dX6_unseen_44 : decode cX6_unseen 44 = .ok (.iinc 2 1, 3) := by decide +kernel
theorem dX6_unseen_47 : decode cX6_unseen 47 = .ok (.goto (-26), 3) := by decide +kernel
theorem dX6_unseen_50 : decode cX6_unseen 50 = .ok (.aload_n 0, 1) := by decide +kernel
theorem dX6_unseen_51 : decode cX6_unseen 51 = .ok (.invokevirtual 126, 3) := by decide +kernel
theorem dX6_unseen_54 : decode cX6_unseen 54 = .ok (.iload_n 2, 1) := by decide +kernel
theorem dX6_unseen_55 : decode cX6_unseen 55 = .ok (.sipush 200, 3) := by decide +kernel
theorem dX6_unseen_58 : decode cX6_unseen 58 = .ok (.if_icmp .le 12, 3) := by decide +kernel
theorem dX6_unseen_61 : decode cX6_unseen 61 = .ok (.aload_n 0, 1) := by decide +kernel
theorem dX6_unseen_62 : decode cX6_unseen 62 = .ok (.ldc 36, 2) := by decide +kernel
theorem dX6_unseen_64 : decode cX6_unseen 64 = .ok (.invokevirtual 37, 3) := by decide +kernel
theorem dX6_unseen_67 : decode cX6_unseen 67 = .ok (.goto 4, 3) := by decide +kernel
theorem dX6_unseen_70 : decode cX6_unseen 70 = .ok (.iload_n 2, 1) := by decide +kernel
theorem dX6_unseen_71 : decode cX6_unseen 71 = .ok (.ireturn, 1) := by decide +kernel
theorem dX6_borrow_0 : decode cX6_borrow 0 = .ok (.aload_n 0, 1) := by decide +kernel
theorem dX6_borrow_1 : decode cX6_borrow 1 = .ok (.iload_n 1, 1) := by decide +kernel
theorem dX6_borrow_2 : decode cX6_borrow 2 = .ok (.invokevirtual 45, 3) := by decide +kernel
theorem dX6_borrow_5 : decode cX6_borrow 5 = .ok (.ifCond .ne 10, 3) := by decide +kernel
theorem dX6_borrow_8 : decode cX6_borrow 8 = .ok (.aload_n 0, 1) := by decide +kernel
theorem dX6_borrow_9 : decode cX6_borrow 9 = .ok (.ldc 35, 2) := by decide +kernel
theorem dX6_borrow_11 : decode cX6_borrow 11 = .ok (.invokevirtual 37, 3) := by decide +kernel
theorem dX6_borrow_14 : decode cX6_borrow 14 = .ok (.ireturn, 1) := by decide +kernel
theorem dX6_borrow_15 : decode cX6_borrow 15 = .ok (.aload_n 0, 1) := by decide +kernel
theorem dX6_borrow_16 : decode cX6_borrow 16 = .ok (.invokevirtual 123, 3) := by decide +kernel
theorem dX6_borrow_19 : decode cX6_borrow 19 = .ok (.aload_n 0, 1) := by decide +kernel
theorem dX6_borrow_20 : decode cX6_borrow 20 = .ok (.iload_n 1, 1) := by decide +kernel
theorem dX6_borrow_21 : decode cX6_borrow 21 = .ok (.invokevirtual 129, 3) := by decide +kernel
theorem dX6_borrow_24 : decode cX6_borrow 24 = .ok (.istore_n 2, 1) := by decide +kernel
theorem dX6_borrow_25 : decode cX6_borrow 25 = .ok (.iconst (-1), 1) := by decide +kernel
theorem dX6_borrow_26 : decode cX6_borrow 26 = .ok (.istore_n 3, 1) := by decide +kernel
theorem dX6_borrow_27 : decode cX6_borrow 27 = .ok (.iconst 0, 1) := by decide +kernel
theorem dX6_borrow_28 : decode cX6_borrow 28 = .ok (.istore 4, 2) := by decide +kernel
theorem dX6_borrow_30 : decode cX6_borrow 30 = .ok (.iload 4, 2) := by decide +kernel
theorem dX6_borrow_32 : decode cX6_borrow 32 = .ok (.aload_n 0, 1) := by decide +kernel
theorem dX6_borrow_33 : decode cX6_borrow 33 = .ok (.getfield 9, 3) := by decide +kernel
theorem dX6_borrow_36 : decode cX6_borrow 36 = .ok (.iconst 1, 1) := by decide +kernel
theorem dX6_borrow_37 : decode cX6_borrow 37 = .ok (.iaload, 1) := by decide +kernel
theorem dX6_borrow_38 : decode cX6_borrow 38 = .ok (.if_icmp .ge 75, 3) := by decide +kernel
theorem dX6_borrow_41 : decode cX6_borrow 41 = .ok (.iload 4, 2) := by decide +kernel
theorem dX6_borrow_43 : decode cX6_borrow 43 = .ok (.iload_n 1, 1) := by decide +kernel
theorem dX6_borrow_44 : decode cX6_borrow 44 = .ok (.if_icmp .eq 63, 3) := by decide +kernel
theorem dX6_borrow_47 : decode cX6_borrow 47 = .ok (.aload_n 0, 1) := by decide +kernel
theorem dX6_borrow_48 : decode cX6_borrow 48 = .ok (.iload_n 1, 1) := by decide +kernel
theorem dX6_borrow_49 : decode cX6_borrow 49 = .ok (.iload 4, 2) := by decide +kernel
theorem dX6_borrow_51 : decode cX6_borrow 51 = .ok (.invokevirtual 95, 3) := by decide +kernel
theorem dX6_borrow_54 : decode cX6_borrow 54 = .ok (.aload_n 0, 1) := by decide +kernel
theorem dX6_borrow_55 : decode cX6_borrow 55 = .ok (.iload_n 1, 1) := by decide +kernel
theorem dX6_borrow_56 : decode cX6_borrow 56 = .ok (.invokevirtual 129, 3) := by decide +kernel
theorem dX6_borrow_59 : decode cX6_borrow 59 = .ok (.istore 5, 2) := by decide +kernel
theorem dX6_borrow_61 : decode cX6_borrow 61 = .ok (.iload 5, 2) := by decide +kernel
theorem dX6_borrow_63 : decode cX6_borrow 63 = .ok (.ifCond .lt 17, 3) := by decide +kernel
theorem dX6_borrow_66 : decode cX6_borrow 66 = .ok (.iload_n 2, 1) := by decide +kernel
theorem dX6_borrow_67 : decode cX6_borrow 67 = .ok (.ifCond .lt 9, 3) := by decide +kernel
theorem dX6_borrow_70 : decode cX6_borrow 70 = .ok (.iload 5, 2) := by decide +kernel
theorem dX6_borrow_72 : decode cX6_borrow 72 = .ok (.iload_n 2, 1) := by decide +kernel
theorem dX6_borrow_73 : decode cX6_borrow 73 = .ok (.if_icmp .ge 7, 3) := by decide +kernel
theorem dX6_borrow_76 : decode cX6_borrow 76 = .ok (.iconst 1, 1) := by decide +kernel
theorem dX6_borrow_77 : decode cX6_borrow 77 = .ok (.goto 4, 3) := by decide +kernel
theorem dX6_borrow_80 : decode cX6_borrow 80 = .ok (.iconst 0, 1) := by decide +kernel
theorem dX6_borrow_81 : decode cX6_borrow 81 = .ok (.istore 6, 2) := by decide +kernel
theorem dX6_borrow_83 : decode cX6_borrow 83 = .ok (.iload 6, 2) := by decide +kernel
theorem dX6_borrow_85 : decode cX6_borrow 85 = .ok (.ifCond .eq 8, 3) := by decide +kernel
theorem dX6_borrow_88 : decode cX6_borrow 88 = .ok (.iload 4, 2) := by decide +kernel
theorem dX6_borrow_90 : decode cX6_borrow 90 = .ok (.goto 4, 3) := by decide +kernel
theorem dX6_borrow_93 : decode cX6_borrow 93 = .ok (.iload_n 3, 1) := by decide +kernel
theorem dX6_borrow_94 : decode cX6_borrow 94 = .ok (.istore_n 3, 1) := by decide +kernel
theorem dX6_borrow_95 : decode cX6_borrow 95 = .ok (.iload 6, 2) := by decide +kernel
theorem dX6_borrow_97 : decode cX6_borrow 97 = .ok (.ifCond .eq 8, 3) := by decide +kernel
theorem dX6_borrow_100 : decode cX6_borrow 100 = .ok (.iload 5, 2) := by decide +kernel
theorem dX6_borrow_102 : decode cX6_borrow 102 = .ok (.goto 4, 3) := by decide +kernel
theorem dX6_borrow_105 : decode cX6_borrow 105 = .ok (.iload_n 2, 1) := by decide +kernel
theorem dX6_borrow_106 : decode cX6_borrow 106 = .ok (.istore_n 2, 1) := by decide +kernel
theorem dX6_borrow_107 : decode cX6_borrow 107 = .ok (.iinc 4 1, 3) := by decide +kernel
theorem dX6_borrow_110 : decode cX6_borrow 110 = .ok (.goto (-80), 3) := by decide +kernel
theorem dX6_borrow_113 : decode cX6_borrow 113 = .ok (.aload_n 0, 1) := by decide +kernel
theorem dX6_borrow_114 : decode cX6_borrow 114 = .ok (.iload_n 3, 1) := by decide +kernel
theorem dX6_borrow_115 : decode cX6_borrow 115 = .ok (.invokevirtual 132, 3) := by decide +kernel
theorem dX6_borrow_118 : decode cX6_borrow 118 = .ok (.ireturn, 1) := by decide +kernel
theorem dX6_kind_0 : decode cX6_kind 0 = .ok (.aload_n 0, 1) := by decide +kernel
theorem dX6_kind_1 : decode cX6_kind 1 = .ok (.iload_n 1, 1) := by decide +kernel
theorem dX6_kind_2 : decode cX6_kind 2 = .ok (.invokevirtual 45, 3) := by decide +kernel
theorem dX6_kind_5 : decode cX6_kind 5 = .ok (.ifCond .ne 10, 3) := by decide +kernel
theorem dX6_kind_8 : decode cX6_kind 8 = .ok (.aload_n 0, 1) := by decide +kernel
theorem dX6_kind_9 : decode cX6_kind 9 = .ok (.ldc 35, 2) := by decide +kernel
theorem dX6_kind_11 : decode cX6_kind 11 = .ok (.invokevirtual 37, 3) := by decide +kernel
theorem dX6_kind_14 : decode cX6_kind 14 = .ok (.ireturn, 1) := by decide +kernel
theorem dX6_kind_15 : decode cX6_kind 15 = .ok (.aload_n 0, 1) := by decide +kernel
theorem dX6_kind_16 : decode cX6_kind 16 = .ok (.invokevirtual 123, 3) := by decide +kernel
theorem dX6_kind_19 : decode cX6_kind 19 = .ok (.iconst (-1), 1) := by decide +kernel
theorem dX6_kind_20 : decode cX6_kind 20 = .ok (.istore_n 2, 1) := by decide +kernel
theorem dX6_kind_21 : decode cX6_kind 21 = .ok (.iconst (-1), 1) := by decide +kernel
theorem dX6_kind_22 : decode cX6_kind 22 = .ok (.istore_n 3, 1) := by decide +kernel
theorem dX6_kind_23 : decode cX6_kind 23 = .ok (.iconst 0, 1) := by decide +kernel
theorem dX6_kind_24 : decode cX6_kind 24 = .ok (.istore 4, 2) := by decide +kernel
theorem dX6_kind_26 : decode cX6_kind 26 = .ok (.iload 4, 2) := by decide +kernel
theorem dX6_kind_28 : decode cX6_kind 28 = .ok (.iconst 5, 1) := by decide +kernel
theorem dX6_kind_29 : decode cX6_kind 29 = .ok (.if_icmp .gt 70, 3) := by decide +kernel
theorem dX6_kind_32 : decode cX6_kind 32 = .ok (.aload_n 0, 1) := by decide +kernel
theorem dX6_kind_33 : decode cX6_kind 33 = .ok (.iload_n 1, 1) := by decide +kernel
theorem dX6_kind_34 : decode cX6_kind 34 = .ok (.iconst 0, 1) := by decide +kernel
theorem dX6_kind_35 : decode cX6_kind 35 = .ok (.iload 4, 2) := by decide +kernel
theorem dX6_kind_37 : decode cX6_kind 37 = .ok (.invokevirtual 63, 3) := by decide +kernel
theorem dX6_kind_40 : decode cX6_kind 40 = .ok (.aload_n 0, 1) := by decide +kernel
theorem dX6_kind_41 : decode cX6_kind 41 = .ok (.iload_n 1, 1) := by decide +kernel
theorem dX6_kind_42 : decode cX6_kind 42 = .ok (.invokevirtual 129, 3) := by decide +kernel
theorem dX6_kind_45 : decode cX6_kind 45 = .ok (.istore 5, 2) := by decide +kernel
theorem dX6_kind_47 : decode cX6_kind 47 = .ok (.iload 5, 2) := by decide +kernel
theorem dX6_kind_49 : decode cX6_kind 49 = .ok (.ifCond .lt 17, 3) := by decide +kernel
theorem dX6_kind_52 : decode cX6_kind 52 = .ok (.iload_n 2, 1) := by decide +kernel
theorem dX6_kind_53 : decode cX6_kind 53 = .ok (.ifCond .lt 9, 3) := by decide +kernel
theorem dX6_kind_56 : decode cX6_kind 56 = .ok (.iload 5, 2) := by decide +kernel
theorem dX6_kind_58 : decode cX6_kind 58 = .ok (.iload_n 2, 1) := by decide +kernel
theorem dX6_kind_59 : decode cX6_kind 59 = .ok (.if_icmp .ge 7, 3) := by decide +kernel
theorem dX6_kind_62 : decode cX6_kind 62 = .ok (.iconst 1, 1) := by decide +kernel
theorem dX6_kind_63 : decode cX6_kind 63 = .ok (.goto 4, 3) := by decide +kernel
theorem dX6_kind_66 : decode cX6_kind 66 = .ok (.iconst 0, 1) := by decide +kernel
theorem dX6_kind_67 : decode cX6_kind 67 = .ok (.istore 6, 2) := by decide +kernel
theorem dX6_kind_69 : decode cX6_kind 69 = .ok (.iload 6, 2) := by decide +kernel
theorem dX6_kind_71 : decode cX6_kind 71 = .ok (.ifCond .eq 8, 3) := by decide +kernel
theorem dX6_kind_74 : decode cX6_kind 74 = .ok (.iload 4, 2) := by decide +kernel
theorem dX6_kind_76 : decode cX6_kind 76 = .ok (.goto 4, 3) := by decide +kernel
theorem dX6_kind_79 : decode cX6_kind 79 = .ok (.iload_n 3, 1) := by decide +kernel
theorem dX6_kind_80 : decode cX6_kind 80 = .ok (.istore_n 3, 1) := by decide +kernel
theorem dX6_kind_81 : decode cX6_kind 81 = .ok (.iload 6, 2) := by decide +kernel
theorem dX6_kind_83 : decode cX6_kind 83 = .ok (.ifCond .eq 8, 3) := by decide +kernel
theorem dX6_kind_86 : decode cX6_kind 86 = .ok (.iload 5, 2) := by decide +kernel
theorem dX6_kind_88 : decode cX6_kind 88 = .ok (.goto 4, 3) := by decide +kernel
theorem dX6_kind_91 : decode cX6_kind 91 = .ok (.iload_n 2, 1) := by decide +kernel
theorem dX6_kind_92 : decode cX6_kind 92 = .ok (.istore_n 2, 1) := by decide +kernel
theorem dX6_kind_93 : decode cX6_kind 93 = .ok (.iinc 4 1, 3) := by decide +kernel
theorem dX6_kind_96 : decode cX6_kind 96 = .ok (.goto (-70), 3) := by decide +kernel
theorem dX6_kind_99 : decode cX6_kind 99 = .ok (.aload_n 0, 1) := by decide +kernel
theorem dX6_kind_100 : decode cX6_kind 100 = .ok (.iload_n 3, 1) := by decide +kernel
theorem dX6_kind_101 : decode cX6_kind 101 = .ok (.invokevirtual 132, 3) := by decide +kernel
theorem dX6_kind_104 : decode cX6_kind 104 = .ok (.ireturn, 1) := by decide +kernel
theorem dX6_grudgeOn_0 : decode cX6_grudgeOn 0 = .ok (.aload_n 0, 1) := by decide +kernel
theorem dX6_grudgeOn_1 : decode cX6_grudgeOn 1 = .ok (.iload_n 2, 1) := by decide +kernel
theorem dX6_grudgeOn_2 : decode cX6_grudgeOn 2 = .ok (.invokevirtual 105, 3) := by decide +kernel
theorem dX6_grudgeOn_5 : decode cX6_grudgeOn 5 = .ok (.aload_n 0, 1) := by decide +kernel
theorem dX6_grudgeOn_6 : decode cX6_grudgeOn 6 = .ok (.iload_n 1, 1) := by decide +kernel
theorem dX6_grudgeOn_7 : decode cX6_grudgeOn 7 = .ok (.iconst 1, 1) := by decide +kernel
theorem dX6_grudgeOn_8 : decode cX6_grudgeOn 8 = .ok (.invokevirtual 49, 3) := by decide +kernel
theorem dX6_grudgeOn_11 : decode cX6_grudgeOn 11 = .ok (.istore_n 3, 1) := by decide +kernel
theorem dX6_grudgeOn_12 : decode cX6_grudgeOn 12 = .ok (.aload_n 0, 1) := by decide +kernel
theorem dX6_grudgeOn_13 : decode cX6_grudgeOn 13 = .ok (.invokevirtual 126, 3) := by decide +kernel
theorem dX6_grudgeOn_16 : decode cX6_grudgeOn 16 = .ok (.iload_n 3, 1) := by decide +kernel
theorem dX6_grudgeOn_17 : decode cX6_grudgeOn 17 = .ok (.ireturn, 1) := by decide +kernel
theorem dX6_better_0 : decode cX6_better 0 = .ok (.aload_n 0, 1) := by decide +kernel
theorem dX6_better_1 : decode cX6_better 1 = .ok (.iload_n 1, 1) := by decide +kernel
theorem dX6_better_2 : decode cX6_better 2 = .ok (.invokevirtual 45, 3) := by decide +kernel
theorem dX6_better_5 : decode cX6_better 5 = .ok (.ifCond .eq 14, 3) := by decide +kernel
theorem dX6_better_8 : decode cX6_better 8 = .ok (.iload_n 2, 1) := by decide +kernel
theorem dX6_better_9 : decode cX6_better 9 = .ok (.i2l, 1) := by decide +kernel
theorem dX6_better_10 : decode cX6_better 10 = .ok (.iconst 1, 1) := by decide +kernel
theorem dX6_better_11 : decode cX6_better 11 = .ok (.bipush 60, 2) := by decide +kernel
theorem dX6_better_13 : decode cX6_better 13 = .ok (.invokestatic 41, 3) := by decide +kernel
theorem dX6_better_16 : decode cX6_better 16 = .ok (.ifCond .ne 10, 3) := by decide +kernel
theorem dX6_better_19 : decode cX6_better 19 = .ok (.aload_n 0, 1) := by decide +kernel
theorem dX6_better_20 : decode cX6_better 20 = .ok (.ldc 35, 2) := by decide +kernel
theorem dX6_better_22 : decode cX6_better 22 = .ok (.invokevirtual 37, 3) := by decide +kernel
theorem dX6_better_25 : decode cX6_better 25 = .ok (.ireturn, 1) := by decide +kernel
theorem dX6_better_26 : decode cX6_better 26 = .ok (.aload_n 0, 1) := by decide +kernel
theorem dX6_better_27 : decode cX6_better 27 = .ok (.invokevirtual 123, 3) := by decide +kernel
theorem dX6_better_30 : decode cX6_better 30 = .ok (.iconst 0, 1) := by decide +kernel
theorem dX6_better_31 : decode cX6_better 31 = .ok (.istore_n 3, 1) := by decide +kernel
theorem dX6_better_32 : decode cX6_better 32 = .ok (.bipush 100, 2) := by decide +kernel
theorem dX6_better_34 : decode cX6_better 34 = .ok (.istore 4, 2) := by decide +kernel
theorem dX6_better_36 : decode cX6_better 36 = .ok (.iconst (-1), 1) := by decide +kernel
theorem dX6_better_37 : decode cX6_better 37 = .ok (.istore 5, 2) := by decide +kernel
theorem dX6_better_39 : decode cX6_better 39 = .ok (.iload 5, 2) := by decide +kernel
theorem dX6_better_41 : decode cX6_better 41 = .ok (.aload_n 0, 1) := by decide +kernel
theorem dX6_better_42 : decode cX6_better 42 = .ok (.getfield 9, 3) := by decide +kernel
theorem dX6_better_45 : decode cX6_better 45 = .ok (.iconst 1, 1) := by decide +kernel
theorem dX6_better_46 : decode cX6_better 46 = .ok (.iaload, 1) := by decide +kernel
theorem dX6_better_47 : decode cX6_better 47 = .ok (.if_icmp .ge 57, 3) := by decide +kernel
theorem dX6_better_50 : decode cX6_better 50 = .ok (.aload_n 0, 1) := by decide +kernel
theorem dX6_better_51 : decode cX6_better 51 = .ok (.iload_n 1, 1) := by decide +kernel
theorem dX6_better_52 : decode cX6_better 52 = .ok (.iconst 2, 1) := by decide +kernel
theorem dX6_better_53 : decode cX6_better 53 = .ok (.iload 5, 2) := by decide +kernel
theorem dX6_better_55 : decode cX6_better 55 = .ok (.invokevirtual 63, 3) := by decide +kernel
theorem dX6_better_58 : decode cX6_better 58 = .ok (.aload_n 0, 1) := by decide +kernel
theorem dX6_better_59 : decode cX6_better 59 = .ok (.iload_n 1, 1) := by decide +kernel
theorem dX6_better_60 : decode cX6_better 60 = .ok (.iload_n 2, 1) := by decide +kernel
theorem dX6_better_61 : decode cX6_better 61 = .ok (.invokevirtual 135, 3) := by decide +kernel
theorem dX6_better_64 : decode cX6_better 64 = .ok (.istore 6, 2) := by decide +kernel
theorem dX6_better_66 : decode cX6_better 66 = .ok (.iload 6, 2) := by decide +kernel
theorem dX6_better_68 : decode cX6_better 68 = .ok (.iload 4, 2) := by decide +kernel
theorem dX6_better_70 : decode cX6_better 70 = .ok (.if_icmp .ge 10, 3) := by decide +kernel
theorem dX6_better_73 : decode cX6_better 73 = .ok (.iload 5, 2) := by decide +kernel
theorem dX6_better_75 : decode cX6_better 75 = .ok (.iconst 1, 1) := by decide +kernel
theorem dX6_better_76 : decode cX6_better 76 = .ok (.iadd, 1) := by decide +kernel
theorem dX6_better_77 : decode cX6_better 77 = .ok (.goto 4, 3) := by decide +kernel
theorem dX6_better_80 : decode cX6_better 80 = .ok (.iload_n 3, 1) := by decide +kernel
theorem dX6_better_81 : decode cX6_better 81 = .ok (.istore_n 3, 1) := by decide +kernel
theorem dX6_better_82 : decode cX6_better 82 = .ok (.iload 6, 2) := by decide +kernel
theorem dX6_better_84 : decode cX6_better 84 = .ok (.iload 4, 2) := by decide +kernel
theorem dX6_better_86 : decode cX6_better 86 = .ok (.if_icmp .ge 8, 3) := by decide +kernel
theorem dX6_better_89 : decode cX6_better 89 = .ok (.iload 6, 2) := by decide +kernel
theorem dX6_better_91 : decode cX6_better 91 = .ok (.goto 5, 3) := by decide +kernel
theorem dX6_better_94 : decode cX6_better 94 = .ok (.iload 4, 2) := by decide +kernel
theorem dX6_better_96 : decode cX6_better 96 = .ok (.istore 4, 2) := by decide +kernel
theorem dX6_better_98 : decode cX6_better 98 = .ok (.iinc 5 1, 3) := by decide +kernel
theorem dX6_better_101 : decode cX6_better 101 = .ok (.goto (-62), 3) := by decide +kernel
theorem dX6_better_104 : decode cX6_better 104 = .ok (.iload_n 3, 1) := by decide +kernel
theorem dX6_better_105 : decode cX6_better 105 = .ok (.ireturn, 1) := by decide +kernel
theorem dX6_most_0 : decode cX6_most 0 = .ok (.aload_n 0, 1) := by decide +kernel
theorem dX6_most_1 : decode cX6_most 1 = .ok (.iload_n 1, 1) := by decide +kernel
theorem dX6_most_2 : decode cX6_most 2 = .ok (.invokevirtual 45, 3) := by decide +kernel
theorem dX6_most_5 : decode cX6_most 5 = .ok (.ifCond .eq 14, 3) := by decide +kernel
theorem dX6_most_8 : decode cX6_most 8 = .ok (.iload_n 2, 1) := by decide +kernel
theorem dX6_most_9 : decode cX6_most 9 = .ok (.i2l, 1) := by decide +kernel
theorem dX6_most_10 : decode cX6_most 10 = .ok (.iconst 1, 1) := by decide +kernel
theorem dX6_most_11 : decode cX6_most 11 = .ok (.bipush 60, 2) := by decide +kernel
theorem dX6_most_13 : decode cX6_most 13 = .ok (.invokestatic 41, 3) := by decide +kernel
theorem dX6_most_16 : decode cX6_most 16 = .ok (.ifCond .ne 10, 3) := by decide +kernel
theorem dX6_most_19 : decode cX6_most 19 = .ok (.aload_n 0, 1) := by decide +kernel
theorem dX6_most_20 : decode cX6_most 20 = .ok (.ldc 35, 2) := by decide +kernel
theorem dX6_most_22 : decode cX6_most 22 = .ok (.invokevirtual 37, 3) := by decide +kernel
theorem dX6_most_25 : decode cX6_most 25 = .ok (.ireturn, 1) := by decide +kernel
theorem dX6_most_26 : decode cX6_most 26 = .ok (.aload_n 0, 1) := by decide +kernel
theorem dX6_most_27 : decode cX6_most 27 = .ok (.invokevirtual 123, 3) := by decide +kernel
theorem dX6_most_30 : decode cX6_most 30 = .ok (.iconst (-1), 1) := by decide +kernel
theorem dX6_most_31 : decode cX6_most 31 = .ok (.istore_n 3, 1) := by decide +kernel
theorem dX6_most_32 : decode cX6_most 32 = .ok (.bipush 99, 2) := by decide +kernel
theorem dX6_most_34 : decode cX6_most 34 = .ok (.istore 4, 2) := by decide +kernel
theorem dX6_most_36 : decode cX6_most 36 = .ok (.iload 4, 2) := by decide +kernel
theorem dX6_most_38 : decode cX6_most 38 = .ok (.ifCond .lt 37, 3) := by decide +kernel
theorem dX6_most_41 : decode cX6_most 41 = .ok (.iload_n 3, 1) := by decide +kernel
theorem dX6_most_42 : decode cX6_most 42 = .ok (.ifCond .ge 33, 3) := by decide +kernel
theorem dX6_most_45 : decode cX6_most 45 = .ok (.aload_n 0, 1) := by decide +kernel
theorem dX6_most_46 : decode cX6_most 46 = .ok (.iload_n 1, 1) := by decide +kernel
theorem dX6_most_47 : decode cX6_most 47 = .ok (.iconst 1, 1) := by decide +kernel
theorem dX6_most_48 : decode cX6_most 48 = .ok (.iload 4, 2) := by decide +kernel
theorem dX6_most_50 : decode cX6_most 50 = .ok (.invokevirtual 63, 3) := by decide +kernel
theorem dX6_most_53 : decode cX6_most 53 = .ok (.aload_n 0, 1) := by decide +kernel
theorem dX6_most_54 : decode cX6_most 54 = .ok (.iload_n 1, 1) := by decide +kernel
theorem dX6_most_55 : decode cX6_most 55 = .ok (.iload_n 2, 1) := by decide +kernel
theorem dX6_most_56 : decode cX6_most 56 = .ok (.invokevirtual 135, 3) := by decide +kernel
theorem dX6_most_59 : decode cX6_most 59 = .ok (.ifCond .ne 8, 3) := by decide +kernel
theorem dX6_most_62 : decode cX6_most 62 = .ok (.iload 4, 2) := by decide +kernel
theorem dX6_most_64 : decode cX6_most 64 = .ok (.goto 4, 3) := by decide +kernel
theorem dX6_most_67 : decode cX6_most 67 = .ok (.iconst (-1), 1) := by decide +kernel
theorem dX6_most_68 : decode cX6_most 68 = .ok (.istore_n 3, 1) := by decide +kernel
theorem dX6_most_69 : decode cX6_most 69 = .ok (.iinc 4 (-1), 3) := by decide +kernel
theorem dX6_most_72 : decode cX6_most 72 = .ok (.goto (-36), 3) := by decide +kernel
theorem dX6_most_75 : decode cX6_most 75 = .ok (.aload_n 0, 1) := by decide +kernel
theorem dX6_most_76 : decode cX6_most 76 = .ok (.iload_n 3, 1) := by decide +kernel
theorem dX6_most_77 : decode cX6_most 77 = .ok (.invokevirtual 132, 3) := by decide +kernel
theorem dX6_most_80 : decode cX6_most 80 = .ok (.ireturn, 1) := by decide +kernel
theorem dX6_allLooks_0 : decode cX6_allLooks 0 = .ok (.iconst 0, 1) := by decide +kernel
theorem dX6_allLooks_1 : decode cX6_allLooks 1 = .ok (.istore_n 2, 1) := by decide +kernel
theorem dX6_allLooks_2 : decode cX6_allLooks 2 = .ok (.iconst 0, 1) := by decide +kernel
theorem dX6_allLooks_3 : decode cX6_allLooks 3 = .ok (.istore_n 3, 1) := by decide +kernel
theorem dX6_allLooks_4 : decode cX6_allLooks 4 = .ok (.iload_n 3, 1) := by decide +kernel
theorem dX6_allLooks_5 : decode cX6_allLooks 5 = .ok (.aload_n 0, 1) := by decide +kernel
theorem dX6_allLooks_6 : decode cX6_allLooks 6 = .ok (.getfield 9, 3) := by decide +kernel
theorem dX6_allLooks_9 : decode cX6_allLooks 9 = .ok (.iconst 1, 1) := by decide +kernel
theorem dX6_allLooks_10 : decode cX6_allLooks 10 = .ok (.iaload, 1) := by decide +kernel
theorem dX6_allLooks_11 : decode cX6_allLooks 11 = .ok (.if_icmp .ge 27, 3) := by decide +kernel
theorem dX6_allLooks_14 : decode cX6_allLooks 14 = .ok (.iload_n 2, 1) := by decide +kernel
theorem dX6_allLooks_15 : decode cX6_allLooks 15 = .ok (.iload_n 3, 1) := by decide +kernel
theorem dX6_allLooks_16 : decode cX6_allLooks 16 = .ok (.iload_n 1, 1) := by decide +kernel
theorem dX6_allLooks_17 : decode cX6_allLooks 17 = .ok (.if_icmp .ne 7, 3) := by decide +kernel
theorem dX6_allLooks_20 : decode cX6_allLooks 20 = .ok (.iconst 0, 1) := by decide +kernel
theorem dX6_allLooks_21 : decode cX6_allLooks 21 = .ok (.goto 9, 3) := by decide +kernel
theorem dX6_allLooks_24 : decode cX6_allLooks 24 = .ok (.aload_n 0, 1) := by decide +kernel
theorem dX6_allLooks_25 : decode cX6_allLooks 25 = .ok (.iload_n 1, 1) := by decide +kernel
theorem dX6_allLooks_26 : decode cX6_allLooks 26 = .ok (.iload_n 3, 1) := by decide +kernel
theorem dX6_allLooks_27 : decode cX6_allLooks 27 = .ok (.invokevirtual 57, 3) := by decide +kernel
theorem dX6_allLooks_30 : decode cX6_allLooks 30 = .ok (.iadd, 1) := by decide +kernel
theorem dX6_allLooks_31 : decode cX6_allLooks 31 = .ok (.istore_n 2, 1) := by decide +kernel
theorem dX6_allLooks_32 : decode cX6_allLooks 32 = .ok (.iinc 3 1, 3) := by decide +kernel
theorem dX6_allLooks_35 : decode cX6_allLooks 35 = .ok (.goto (-31), 3) := by decide +kernel
theorem dX6_allLooks_38 : decode cX6_allLooks 38 = .ok (.iload_n 2, 1) := by decide +kernel
theorem dX6_allLooks_39 : decode cX6_allLooks 39 = .ok (.ireturn, 1) := by decide +kernel
theorem dX6_sharpest_0 : decode cX6_sharpest 0 = .ok (.iload_n 1, 1) := by decide +kernel
theorem dX6_sharpest_1 : decode cX6_sharpest 1 = .ok (.i2l, 1) := by decide +kernel
theorem dX6_sharpest_2 : decode cX6_sharpest 2 = .ok (.iconst 0, 1) := by decide +kernel
theorem dX6_sharpest_3 : decode cX6_sharpest 3 = .ok (.bipush 100, 2) := by decide +kernel
theorem dX6_sharpest_5 : decode cX6_sharpest 5 = .ok (.invokestatic 41, 3) := by decide +kernel
theorem dX6_sharpest_8 : decode cX6_sharpest 8 = .ok (.ifCond .ne 10, 3) := by decide +kernel
theorem dX6_sharpest_11 : decode cX6_sharpest 11 = .ok (.aload_n 0, 1) := by decide +kernel
theorem dX6_sharpest_12 : decode cX6_sharpest 12 = .ok (.ldc 35, 2) := by decide +kernel
theorem dX6_sharpest_14 : decode cX6_sharpest 14 = .ok (.invokevirtual 37, 3) := by decide +kernel
theorem dX6_sharpest_17 : decode cX6_sharpest 17 = .ok (.ireturn, 1) := by decide +kernel
theorem dX6_sharpest_18 : decode cX6_sharpest 18 = .ok (.aload_n 0, 1) := by decide +kernel
theorem dX6_sharpest_19 : decode cX6_sharpest 19 = .ok (.invokevirtual 123, 3) := by decide +kernel
theorem dX6_sharpest_22 : decode cX6_sharpest 22 = .ok (.aload_n 0, 1) := by decide +kernel
theorem dX6_sharpest_23 : decode cX6_sharpest 23 = .ok (.iload_n 1, 1) := by decide +kernel
theorem dX6_sharpest_24 : decode cX6_sharpest 24 = .ok (.invokevirtual 105, 3) := by decide +kernel
theorem dX6_sharpest_27 : decode cX6_sharpest 27 = .ok (.iconst (-1), 1) := by decide +kernel
theorem dX6_sharpest_28 : decode cX6_sharpest 28 = .ok (.istore_n 2, 1) := by decide +kernel
theorem dX6_sharpest_29 : decode cX6_sharpest 29 = .ok (.iconst (-1), 1) := by decide +kernel
theorem dX6_sharpest_30 : decode cX6_sharpest 30 = .ok (.istore_n 3, 1) := by decide +kernel
theorem dX6_sharpest_31 : decode cX6_sharpest 31 = .ok (.iconst 0, 1) := by decide +kernel
theorem dX6_sharpest_32 : decode cX6_sharpest 32 = .ok (.istore 4, 2) := by decide +kernel
theorem dX6_sharpest_34 : decode cX6_sharpest 34 = .ok (.iload 4, 2) := by decide +kernel
theorem dX6_sharpest_36 : decode cX6_sharpest 36 = .ok (.aload_n 0, 1) := by decide +kernel
theorem dX6_sharpest_37 : decode cX6_sharpest 37 = .ok (.getfield 9, 3) := by decide +kernel
theorem dX6_sharpest_40 : decode cX6_sharpest 40 = .ok (.iconst 1, 1) := by decide +kernel
theorem dX6_sharpest_41 : decode cX6_sharpest 41 = .ok (.iaload, 1) := by decide +kernel
theorem dX6_sharpest_42 : decode cX6_sharpest 42 = .ok (.if_icmp .ge 43, 3) := by decide +kernel
theorem dX6_sharpest_45 : decode cX6_sharpest 45 = .ok (.aload_n 0, 1) := by decide +kernel
theorem dX6_sharpest_46 : decode cX6_sharpest 46 = .ok (.iload 4, 2) := by decide +kernel
theorem dX6_sharpest_48 : decode cX6_sharpest 48 = .ok (.invokevirtual 138, 3) := by decide +kernel
theorem dX6_sharpest_51 : decode cX6_sharpest 51 = .ok (.istore 5, 2) := by decide +kernel
theorem dX6_sharpest_53 : decode cX6_sharpest 53 = .ok (.iload 5, 2) := by decide +kernel
theorem dX6_sharpest_55 : decode cX6_sharpest 55 = .ok (.iload_n 3, 1) := by decide +kernel
theorem dX6_sharpest_56 : decode cX6_sharpest 56 = .ok (.if_icmp .le 8, 3) := by decide +kernel
theorem dX6_sharpest_59 : decode cX6_sharpest 59 = .ok (.iload 4, 2) := by decide +kernel
theorem dX6_sharpest_61 : decode cX6_sharpest 61 = .ok (.goto 4, 3) := by decide +kernel
theorem dX6_sharpest_64 : decode cX6_sharpest 64 = .ok (.iload_n 2, 1) := by decide +kernel
theorem dX6_sharpest_65 : decode cX6_sharpest 65 = .ok (.istore_n 2, 1) := by decide +kernel
theorem dX6_sharpest_66 : decode cX6_sharpest 66 = .ok (.iload 5, 2) := by decide +kernel
theorem dX6_sharpest_68 : decode cX6_sharpest 68 = .ok (.iload_n 3, 1) := by decide +kernel
theorem dX6_sharpest_69 : decode cX6_sharpest 69 = .ok (.if_icmp .le 8, 3) := by decide +kernel
theorem dX6_sharpest_72 : decode cX6_sharpest 72 = .ok (.iload 5, 2) := by decide +kernel
theorem dX6_sharpest_74 : decode cX6_sharpest 74 = .ok (.goto 4, 3) := by decide +kernel
theorem dX6_sharpest_77 : decode cX6_sharpest 77 = .ok (.iload_n 3, 1) := by decide +kernel
theorem dX6_sharpest_78 : decode cX6_sharpest 78 = .ok (.istore_n 3, 1) := by decide +kernel
theorem dX6_sharpest_79 : decode cX6_sharpest 79 = .ok (.iinc 4 1, 3) := by decide +kernel
theorem dX6_sharpest_82 : decode cX6_sharpest 82 = .ok (.goto (-48), 3) := by decide +kernel
theorem dX6_sharpest_85 : decode cX6_sharpest 85 = .ok (.aload_n 0, 1) := by decide +kernel
theorem dX6_sharpest_86 : decode cX6_sharpest 86 = .ok (.invokevirtual 126, 3) := by decide +kernel
theorem dX6_sharpest_89 : decode cX6_sharpest 89 = .ok (.aload_n 0, 1) := by decide +kernel
theorem dX6_sharpest_90 : decode cX6_sharpest 90 = .ok (.iload_n 2, 1) := by decide +kernel
theorem dX6_sharpest_91 : decode cX6_sharpest 91 = .ok (.invokevirtual 132, 3) := by decide +kernel
theorem dX6_sharpest_94 : decode cX6_sharpest 94 = .ok (.ireturn, 1) := by decide +kernel
theorem dX6_areSeen_0 : decode cX6_areSeen 0 = .ok (.iconst 0, 1) := by decide +kernel
theorem dX6_areSeen_1 : decode cX6_areSeen 1 = .ok (.istore_n 2, 1) := by decide +kernel
theorem dX6_areSeen_2 : decode cX6_areSeen 2 = .ok (.iload_n 2, 1) := by decide +kernel
theorem dX6_areSeen_3 : decode cX6_areSeen 3 = .ok (.aload_n 0, 1) := by decide +kernel
theorem dX6_areSeen_4 : decode cX6_areSeen 4 = .ok (.getfield 9, 3) := by decide +kernel
theorem dX6_areSeen_7 : decode cX6_areSeen 7 = .ok (.iconst 1, 1) := by decide +kernel
theorem dX6_areSeen_8 : decode cX6_areSeen 8 = .ok (.iaload, 1) := by decide +kernel
theorem dX6_areSeen_9 : decode cX6_areSeen 9 = .ok (.if_icmp .ge 34, 3) := by decide +kernel
theorem dX6_areSeen_12 : decode cX6_areSeen 12 = .ok (.aload_n 0, 1) := by decide +kernel
theorem dX6_areSeen_13 : decode cX6_areSeen 13 = .ok (.iload_n 2, 1) := by decide +kernel
theorem dX6_areSeen_14 : decode cX6_areSeen 14 = .ok (.iconst 3, 1) := by decide +kernel
theorem dX6_areSeen_15 : decode cX6_areSeen 15 = .ok (.iload_n 1, 1) := by decide +kernel
theorem dX6_areSeen_16 : decode cX6_areSeen 16 = .ok (.iload_n 2, 1) := by decide +kernel
theorem dX6_areSeen_17 : decode cX6_areSeen 17 = .ok (.ishr, 1) := by decide +kernel
theorem dX6_areSeen_18 : decode cX6_areSeen 18 = .ok (.iconst 1, 1) := by decide +kernel
theorem dX6_areSeen_19 : decode cX6_areSeen 19 = .ok (.iand, 1) := by decide +kernel
theorem dX6_areSeen_20 : decode cX6_areSeen 20 = .ok (.iconst 1, 1) := by decide +kernel
theorem dX6_areSeen_21 : decode cX6_areSeen 21 = .ok (.if_icmp .ne 7, 3) := by decide +kernel
theorem dX6_areSeen_24 : decode cX6_areSeen 24 = .ok (.iconst 1, 1) := by decide +kernel
theorem dX6_areSeen_25 : decode cX6_areSeen 25 = .ok (.goto 9, 3) := by decide +kernel
theorem dX6_areSeen_28 : decode cX6_areSeen 28 = .ok (.aload_n 0, 1) := by decide +kernel
theorem dX6_areSeen_29 : decode cX6_areSeen 29 = .ok (.iload_n 2, 1) := by decide +kernel
theorem dX6_areSeen_30 : decode cX6_areSeen 30 = .ok (.iconst 3, 1) := by decide +kernel
theorem dX6_areSeen_31 : decode cX6_areSeen 31 = .ok (.invokevirtual 49, 3) := by decide +kernel
theorem dX6_areSeen_34 : decode cX6_areSeen 34 = .ok (.invokevirtual 63, 3) := by decide +kernel
theorem dX6_areSeen_37 : decode cX6_areSeen 37 = .ok (.iinc 2 1, 3) := by decide +kernel
theorem dX6_areSeen_40 : decode cX6_areSeen 40 = .ok (.goto (-38), 3) := by decide +kernel
theorem dX6_areSeen_43 : decode cX6_areSeen 43 = .ok (.aload_n 0, 1) := by decide +kernel
theorem dX6_areSeen_44 : decode cX6_areSeen 44 = .ok (.invokevirtual 115, 3) := by decide +kernel
theorem dX6_areSeen_47 : decode cX6_areSeen 47 = .ok (.iconst 1, 1) := by decide +kernel
theorem dX6_areSeen_48 : decode cX6_areSeen 48 = .ok (.aload_n 0, 1) := by decide +kernel
theorem dX6_areSeen_49 : decode cX6_areSeen 49 = .ok (.getfield 9, 3) := by decide +kernel
theorem dX6_areSeen_52 : decode cX6_areSeen 52 = .ok (.iconst 1, 1) := by decide +kernel
theorem dX6_areSeen_53 : decode cX6_areSeen 53 = .ok (.iaload, 1) := by decide +kernel
theorem dX6_areSeen_54 : decode cX6_areSeen 54 = .ok (.ishl, 1) := by decide +kernel
theorem dX6_areSeen_55 : decode cX6_areSeen 55 = .ok (.iconst 1, 1) := by decide +kernel
theorem dX6_areSeen_56 : decode cX6_areSeen 56 = .ok (.isub, 1) := by decide +kernel
theorem dX6_areSeen_57 : decode cX6_areSeen 57 = .ok (.if_icmp .ne 7, 3) := by decide +kernel
theorem dX6_areSeen_60 : decode cX6_areSeen 60 = .ok (.iconst 1, 1) := by decide +kernel
theorem dX6_areSeen_61 : decode cX6_areSeen 61 = .ok (.goto 4, 3) := by decide +kernel
theorem dX6_areSeen_64 : decode cX6_areSeen 64 = .ok (.iconst 0, 1) := by decide +kernel
theorem dX6_areSeen_65 : decode cX6_areSeen 65 = .ok (.istore_n 2, 1) := by decide +kernel
theorem dX6_areSeen_66 : decode cX6_areSeen 66 = .ok (.aload_n 0, 1) := by decide +kernel
theorem dX6_areSeen_67 : decode cX6_areSeen 67 = .ok (.invokevirtual 126, 3) := by decide +kernel
theorem dX6_areSeen_70 : decode cX6_areSeen 70 = .ok (.iload_n 2, 1) := by decide +kernel
theorem dX6_areSeen_71 : decode cX6_areSeen 71 = .ok (.ireturn, 1) := by decide +kernel
theorem dX6_push_0 : decode cX6_push 0 = .ok (.aload_n 0, 1) := by decide +kernel
theorem dX6_push_1 : decode cX6_push 1 = .ok (.invokevirtual 123, 3) := by decide +kernel
theorem dX6_push_4 : decode cX6_push 4 = .ok (.iconst (-1), 1) := by decide +kernel
theorem dX6_push_5 : decode cX6_push 5 = .ok (.istore_n 1, 1) := by decide +kernel
theorem dX6_push_6 : decode cX6_push 6 = .ok (.iconst 0, 1) := by decide +kernel
theorem dX6_push_7 : decode cX6_push 7 = .ok (.istore_n 2, 1) := by decide +kernel
theorem dX6_push_8 : decode cX6_push 8 = .ok (.iload_n 2, 1) := by decide +kernel
theorem dX6_push_9 : decode cX6_push 9 = .ok (.iconst 1, 1) := by decide +kernel
theorem dX6_push_10 : decode cX6_push 10 = .ok (.aload_n 0, 1) := by decide +kernel
theorem dX6_push_11 : decode cX6_push 11 = .ok (.getfield 9, 3) := by decide +kernel
theorem dX6_push_14 : decode cX6_push 14 = .ok (.iconst 1, 1) := by decide +kernel
theorem dX6_push_15 : decode cX6_push 15 = .ok (.iaload, 1) := by decide +kernel
theorem dX6_push_16 : decode cX6_push 16 = .ok (.ishl, 1) := by decide +kernel
theorem dX6_push_17 : decode cX6_push 17 = .ok (.if_icmp .ge 58, 3) := by decide +kernel
theorem dX6_push_20 : decode cX6_push 20 = .ok (.aload_n 0, 1) := by decide +kernel
theorem dX6_push_21 : decode cX6_push 21 = .ok (.getfield 9, 3) := by decide +kernel
theorem dX6_push_24 : decode cX6_push 24 = .ok (.iconst 1, 1) := by decide +kernel
theorem dX6_push_25 : decode cX6_push 25 = .ok (.iaload, 1) := by decide +kernel
theorem dX6_push_26 : decode cX6_push 26 = .ok (.iconst 1, 1) := by decide +kernel
theorem dX6_push_27 : decode cX6_push 27 = .ok (.if_icmp .le 48, 3) := by decide +kernel
theorem dX6_push_30 : decode cX6_push 30 = .ok (.iload_n 1, 1) := by decide +kernel
theorem dX6_push_31 : decode cX6_push 31 = .ok (.ifCond .lt 14, 3) := by decide +kernel
theorem dX6_push_34 : decode cX6_push 34 = .ok (.iload_n 2, 1) := by decide +kernel
theorem dX6_push_35 : decode cX6_push 35 = .ok (.invokestatic 141, 3) := by decide +kernel
theorem dX6_push_38 : decode cX6_push 38 = .ok (.iload_n 1, 1) := by decide +kernel
theorem dX6_push_39 : decode cX6_push 39 = .ok (.invokestatic 141, 3) := by decide +kernel
theorem dX6_push_42 : decode cX6_push 42 = .ok (.if_icmp .ge 7, 3) := by decide +kernel
theorem dX6_push_45 : decode cX6_push 45 = .ok (.iconst 1, 1) := by decide +kernel
theorem dX6_push_46 : decode cX6_push 46 = .ok (.goto 4, 3) := by decide +kernel
theorem dX6_push_49 : decode cX6_push 49 = .ok (.iconst 0, 1) := by decide +kernel
theorem dX6_push_50 : decode cX6_push 50 = .ok (.istore_n 3, 1) := by decide +kernel
theorem dX6_push_51 : decode cX6_push 51 = .ok (.iload_n 3, 1) := by decide +kernel
theorem dX6_push_52 : decode cX6_push 52 = .ok (.ifCond .eq 15, 3) := by decide +kernel
theorem dX6_push_55 : decode cX6_push 55 = .ok (.aload_n 0, 1) := by decide +kernel
theorem dX6_push_56 : decode cX6_push 56 = .ok (.iload_n 2, 1) := by decide +kernel
theorem dX6_push_57 : decode cX6_push 57 = .ok (.invokevirtual 144, 3) := by decide +kernel
theorem dX6_push_60 : decode cX6_push 60 = .ok (.ifCond .eq 7, 3) := by decide +kernel
theorem dX6_push_63 : decode cX6_push 63 = .ok (.iload_n 2, 1) := by decide +kernel
theorem dX6_push_64 : decode cX6_push 64 = .ok (.goto 4, 3) := by decide +kernel
theorem dX6_push_67 : decode cX6_push 67 = .ok (.iload_n 1, 1) := by decide +kernel
theorem dX6_push_68 : decode cX6_push 68 = .ok (.istore_n 1, 1) := by decide +kernel
theorem dX6_push_69 : decode cX6_push 69 = .ok (.iinc 2 1, 3) := by decide +kernel
theorem dX6_push_72 : decode cX6_push 72 = .ok (.goto (-64), 3) := by decide +kernel
theorem dX6_push_75 : decode cX6_push 75 = .ok (.aload_n 0, 1) := by decide +kernel
theorem dX6_push_76 : decode cX6_push 76 = .ok (.iload_n 1, 1) := by decide +kernel
theorem dX6_push_77 : decode cX6_push 77 = .ok (.invokevirtual 132, 3) := by decide +kernel
theorem dX6_push_80 : decode cX6_push 80 = .ok (.ireturn, 1) := by decide +kernel
theorem dX6_feed_0 : decode cX6_feed 0 = .ok (.iload_n 2, 1) := by decide +kernel
theorem dX6_feed_1 : decode cX6_feed 1 = .ok (.i2l, 1) := by decide +kernel
theorem dX6_feed_2 : decode cX6_feed 2 = .ok (.iconst 1, 1) := by decide +kernel
theorem dX6_feed_3 : decode cX6_feed 3 = .ok (.iconst 4, 1) := by decide +kernel
theorem dX6_feed_4 : decode cX6_feed 4 = .ok (.invokestatic 41, 3) := by decide +kernel
theorem dX6_feed_7 : decode cX6_feed 7 = .ok (.ifCond .ne 10, 3) := by decide +kernel
theorem dX6_feed_10 : decode cX6_feed 10 = .ok (.aload_n 0, 1) := by decide +kernel
theorem dX6_feed_11 : decode cX6_feed 11 = .ok (.ldc 35, 2) := by decide +kernel
theorem dX6_feed_13 : decode cX6_feed 13 = .ok (.invokevirtual 37, 3) := by decide +kernel
theorem dX6_feed_16 : decode cX6_feed 16 = .ok (.ireturn, 1) := by decide +kernel
theorem dX6_feed_17 : decode cX6_feed 17 = .ok (.aload_n 0, 1) := by decide +kernel
theorem dX6_feed_18 : decode cX6_feed 18 = .ok (.getfield 147, 3) := by decide +kernel
theorem dX6_feed_21 : decode cX6_feed 21 = .ok (.iload_n 2, 1) := by decide +kernel
theorem dX6_feed_22 : decode cX6_feed 22 = .ok (.iadd, 1) := by decide +kernel
theorem dX6_feed_23 : decode cX6_feed 23 = .ok (.bipush 120, 2) := by decide +kernel
theorem dX6_feed_25 : decode cX6_feed 25 = .ok (.if_icmp .le 10, 3) := by decide +kernel
theorem dX6_feed_28 : decode cX6_feed 28 = .ok (.aload_n 0, 1) := by decide +kernel
theorem dX6_feed_29 : decode cX6_feed 29 = .ok (.ldc 67, 2) := by decide +kernel
theorem dX6_feed_31 : decode cX6_feed 31 = .ok (.invokevirtual 37, 3) := by decide +kernel
theorem dX6_feed_34 : decode cX6_feed 34 = .ok (.ireturn, 1) := by decide +kernel
theorem dX6_feed_35 : decode cX6_feed 35 = .ok (.iload_n 2, 1) := by decide +kernel
theorem dX6_feed_36 : decode cX6_feed 36 = .ok (.iconst 1, 1) := by decide +kernel
theorem dX6_feed_37 : decode cX6_feed 37 = .ok (.isub, 1) := by decide +kernel
theorem dX6_feed_38 : decode cX6_feed 38 = .ok (.istore_n 3, 1) := by decide +kernel
theorem dX6_feed_39 : decode cX6_feed 39 = .ok (.iload_n 3, 1) := by decide +kernel
theorem dX6_feed_40 : decode cX6_feed 40 = .ok (.ifCond .lt 38, 3) := by decide +kernel
theorem dX6_feed_43 : decode cX6_feed 43 = .ok (.aload_n 0, 1) := by decide +kernel
theorem dX6_feed_44 : decode cX6_feed 44 = .ok (.getfield 22, 3) := by decide +kernel
theorem dX6_feed_47 : decode cX6_feed 47 = .ok (.aload_n 0, 1) := by decide +kernel
theorem dX6_feed_48 : decode cX6_feed 48 = .ok (.getfield 147, 3) := by decide +kernel
theorem dX6_feed_51 : decode cX6_feed 51 = .ok (.iload_n 1, 1) := by decide +kernel
theorem dX6_feed_52 : decode cX6_feed 52 = .ok (.bipush 8, 2) := by decide +kernel
theorem dX6_feed_54 : decode cX6_feed 54 = .ok (.iload_n 3, 1) := by decide +kernel
theorem dX6_feed_55 : decode cX6_feed 55 = .ok (.imul, 1) := by decide +kernel
theorem dX6_feed_56 : decode cX6_feed 56 = .ok (.ishr, 1) := by decide +kernel
theorem dX6_feed_57 : decode cX6_feed 57 = .ok (.sipush 255, 3) := by decide +kernel
theorem dX6_feed_60 : decode cX6_feed 60 = .ok (.iand, 1) := by decide +kernel
theorem dX6_feed_61 : decode cX6_feed 61 = .ok (.iastore, 1) := by decide +kernel
theorem dX6_feed_62 : decode cX6_feed 62 = .ok (.aload_n 0, 1) := by decide +kernel
theorem dX6_feed_63 : decode cX6_feed 63 = .ok (.dup, 1) := by decide +kernel
theorem dX6_feed_64 : decode cX6_feed 64 = .ok (.getfield 147, 3) := by decide +kernel
theorem dX6_feed_67 : decode cX6_feed 67 = .ok (.iconst 1, 1) := by decide +kernel
theorem dX6_feed_68 : decode cX6_feed 68 = .ok (.iadd, 1) := by decide +kernel
theorem dX6_feed_69 : decode cX6_feed 69 = .ok (.putfield 147, 3) := by decide +kernel
theorem dX6_feed_72 : decode cX6_feed 72 = .ok (.iinc 3 (-1), 3) := by decide +kernel
theorem dX6_feed_75 : decode cX6_feed 75 = .ok (.goto (-36), 3) := by decide +kernel
theorem dX6_feed_78 : decode cX6_feed 78 = .ok (.aload_n 0, 1) := by decide +kernel
theorem dX6_feed_79 : decode cX6_feed 79 = .ok (.getfield 147, 3) := by decide +kernel
theorem dX6_feed_82 : decode cX6_feed 82 = .ok (.ireturn, 1) := by decide +kernel
theorem dX6_wipe_0 : decode cX6_wipe 0 = .ok (.aload_n 0, 1) := by decide +kernel
theorem dX6_wipe_1 : decode cX6_wipe 1 = .ok (.getfield 147, 3) := by decide +kernel
theorem dX6_wipe_4 : decode cX6_wipe 4 = .ok (.istore_n 1, 1) := by decide +kernel
theorem dX6_wipe_5 : decode cX6_wipe 5 = .ok (.aload_n 0, 1) := by decide +kernel
theorem dX6_wipe_6 : decode cX6_wipe 6 = .ok (.iconst 0, 1) := by decide +kernel
theorem dX6_wipe_7 : decode cX6_wipe 7 = .ok (.putfield 147, 3) := by decide +kernel
theorem dX6_wipe_10 : decode cX6_wipe 10 = .ok (.iload_n 1, 1) := by decide +kernel
theorem dX6_wipe_11 : decode cX6_wipe 11 = .ok (.ireturn, 1) := by decide +kernel
theorem dX6_isByte_0 : decode cX6_isByte 0 = .ok (.iload_n 1, 1) := by decide +kernel
theorem dX6_isByte_1 : decode cX6_isByte 1 = .ok (.aload_n 0, 1) := by decide +kernel
theorem dX6_isByte_2 : decode cX6_isByte 2 = .ok (.getfield 147, 3) := by decide +kernel
theorem dX6_isByte_5 : decode cX6_isByte 5 = .ok (.if_icmp .ge 22, 3) := by decide +kernel
theorem dX6_isByte_8 : decode cX6_isByte 8 = .ok (.aload_n 0, 1) := by decide +kernel
theorem dX6_isByte_9 : decode cX6_isByte 9 = .ok (.getfield 22, 3) := by decide +kernel
theorem dX6_isByte_12 : decode cX6_isByte 12 = .ok (.iload_n 1, 1) := by decide +kernel
theorem dX6_isByte_13 : decode cX6_isByte 13 = .ok (.iaload, 1) := by decide +kernel
theorem dX6_isByte_14 : decode cX6_isByte 14 = .ok (.i2l, 1) := by decide +kernel
theorem dX6_isByte_15 : decode cX6_isByte 15 = .ok (.iload_n 2, 1) := by decide +kernel
theorem dX6_isByte_16 : decode cX6_isByte 16 = .ok (.iload_n 3, 1) := by decide +kernel
theorem dX6_isByte_17 : decode cX6_isByte 17 = .ok (.invokestatic 41, 3) := by decide +kernel
theorem dX6_isByte_20 : decode cX6_isByte 20 = .ok (.ifCond .eq 7, 3) := by decide +kernel
theorem dX6_isByte_23 : decode cX6_isByte 23 = .ok (.iconst 1, 1) := by decide +kernel
theorem dX6_isByte_24 : decode cX6_isByte 24 = .ok (.goto 4, 3) := by decide +kernel
theorem dX6_isByte_27 : decode cX6_isByte 27 = .ok (.iconst 0, 1) := by decide +kernel
theorem dX6_isByte_28 : decode cX6_isByte 28 = .ok (.ireturn, 1) := by decide +kernel
theorem dX6_isName_0 : decode cX6_isName 0 = .ok (.iload_n 2, 1) := by decide +kernel
theorem dX6_isName_1 : decode cX6_isName 1 = .ok (.bipush 7, 2) := by decide +kernel
theorem dX6_isName_3 : decode cX6_isName 3 = .ok (.if_icmp .gt 26, 3) := by decide +kernel
theorem dX6_isName_6 : decode cX6_isName 6 = .ok (.iload_n 2, 1) := by decide +kernel
theorem dX6_isName_7 : decode cX6_isName 7 = .ok (.bipush 7, 2) := by decide +kernel
theorem dX6_isName_9 : decode cX6_isName 9 = .ok (.if_icmp .eq 16, 3) := by decide +kernel
theorem dX6_isName_12 : decode cX6_isName 12 = .ok (.getstatic 151, 3) := by decide +kernel
theorem dX6_isName_15 : decode cX6_isName 15 = .ok (.bipush 7, 2) := by decide +kernel
theorem dX6_isName_17 : decode cX6_isName 17 = .ok (.iload_n 1, 1) := by decide +kernel
theorem dX6_isName_18 : decode cX6_isName 18 = .ok (.imul, 1) := by decide +kernel
theorem dX6_isName_19 : decode cX6_isName 19 = .ok (.iload_n 2, 1) := by decide +kernel
theorem dX6_isName_20 : decode cX6_isName 20 = .ok (.iadd, 1) := by decide +kernel
theorem dX6_isName_21 : decode cX6_isName 21 = .ok (.iaload, 1) := by decide +kernel
theorem dX6_isName_22 : decode cX6_isName 22 = .ok (.ifCond .ne 7, 3) := by decide +kernel
theorem dX6_isName_25 : decode cX6_isName 25 = .ok (.iconst 1, 1) := by decide +kernel
theorem dX6_isName_26 : decode cX6_isName 26 = .ok (.goto 4, 3) := by decide +kernel
theorem dX6_isName_29 : decode cX6_isName 29 = .ok (.iconst 0, 1) := by decide +kernel
theorem dX6_isName_30 : decode cX6_isName 30 = .ok (.istore_n 3, 1) := by decide +kernel
theorem dX6_isName_31 : decode cX6_isName 31 = .ok (.iconst 0, 1) := by decide +kernel
theorem dX6_isName_32 : decode cX6_isName 32 = .ok (.istore 4, 2) := by decide +kernel
theorem dX6_isName_34 : decode cX6_isName 34 = .ok (.iload 4, 2) := by decide +kernel
theorem dX6_isName_36 : decode cX6_isName 36 = .ok (.iload_n 2, 1) := by decide +kernel
theorem dX6_isName_37 : decode cX6_isName 37 = .ok (.if_icmp .ge 45, 3) := by decide +kernel
theorem dX6_isName_40 : decode cX6_isName 40 = .ok (.iload_n 3, 1) := by decide +kernel
theorem dX6_isName_41 : decode cX6_isName 41 = .ok (.ifCond .eq 41, 3) := by decide +kernel
theorem dX6_isName_44 : decode cX6_isName 44 = .ok (.getstatic 151, 3) := by decide +kernel
theorem dX6_isName_47 : decode cX6_isName 47 = .ok (.bipush 7, 2) := by decide +kernel
theorem dX6_isName_49 : decode cX6_isName 49 = .ok (.iload_n 1, 1) := by decide +kernel
theorem dX6_isName_50 : decode cX6_isName 50 = .ok (.imul, 1) := by decide +kernel
theorem dX6_isName_51 : decode cX6_isName 51 = .ok (.iload 4, 2) := by decide +kernel
theorem dX6_isName_53 : decode cX6_isName 53 = .ok (.iadd, 1) := by decide +kernel
theorem dX6_isName_54 : decode cX6_isName 54 = .ok (.iaload, 1) := by decide +kernel
theorem dX6_isName_55 : decode cX6_isName 55 = .ok (.aload_n 0, 1) := by decide +kernel
theorem dX6_isName_56 : decode cX6_isName 56 = .ok (.getfield 22, 3) := by decide +kernel
theorem dX6_isName_59 : decode cX6_isName 59 = .ok (.aload_n 0, 1) := by decide +kernel
theorem dX6_isName_60 : decode cX6_isName 60 = .ok (.getfield 154, 3) := by decide +kernel
theorem dX6_isName_63 : decode cX6_isName 63 = .ok (.iload 4, 2) := by decide +kernel
theorem dX6_isName_65 : decode cX6_isName 65 = .ok (.iadd, 1) := by decide +kernel
theorem dX6_isName_66 : decode cX6_isName 66 = .ok (.iaload, 1) := by decide +kernel
theorem dX6_isName_67 : decode cX6_isName 67 = .ok (.if_icmp .ne 7, 3) := by decide +kernel
theorem dX6_isName_70 : decode cX6_isName 70 = .ok (.iconst 1, 1) := by decide +kernel
theorem dX6_isName_71 : decode cX6_isName 71 = .ok (.goto 4, 3) := by decide +kernel
theorem dX6_isName_74 : decode cX6_isName 74 = .ok (.iconst 0, 1) := by decide +kernel
theorem dX6_isName_75 : decode cX6_isName 75 = .ok (.istore_n 3, 1) := by decide +kernel
theorem dX6_isName_76 : decode cX6_isName 76 = .ok (.iinc 4 1, 3) := by decide +kernel
theorem dX6_isName_79 : decode cX6_isName 79 = .ok (.goto (-45), 3) := by decide +kernel
theorem dX6_isName_82 : decode cX6_isName 82 = .ok (.iload_n 3, 1) := by decide +kernel
theorem dX6_isName_83 : decode cX6_isName 83 = .ok (.ireturn, 1) := by decide +kernel
theorem dX6_wordHere_0 : decode cX6_wordHere 0 = .ok (.iconst 0, 1) := by decide +kernel
theorem dX6_wordHere_1 : decode cX6_wordHere 1 = .ok (.istore_n 1, 1) := by decide +kernel
theorem dX6_wordHere_2 : decode cX6_wordHere 2 = .ok (.iload_n 1, 1) := by decide +kernel
theorem dX6_wordHere_3 : decode cX6_wordHere 3 = .ok (.bipush 11, 2) := by decide +kernel
theorem dX6_wordHere_5 : decode cX6_wordHere 5 = .ok (.if_icmp .ge 26, 3) := by decide +kernel
theorem dX6_wordHere_8 : decode cX6_wordHere 8 = .ok (.aload_n 0, 1) := by decide +kernel
theorem dX6_wordHere_9 : decode cX6_wordHere 9 = .ok (.iload_n 1, 1) := by decide +kernel
theorem dX6_wordHere_10 : decode cX6_wordHere 10 = .ok (.aload_n 0, 1) := by decide +kernel
theorem dX6_wordHere_11 : decode cX6_wordHere 11 = .ok (.getfield 157, 3) := by decide +kernel
theorem dX6_wordHere_14 : decode cX6_wordHere 14 = .ok (.aload_n 0, 1) := by decide +kernel
theorem dX6_wordHere_15 : decode cX6_wordHere 15 = .ok (.getfield 154, 3) := by decide +kernel
theorem dX6_wordHere_18 : decode cX6_wordHere 18 = .ok (.isub, 1) := by decide +kernel
theorem dX6_wordHere_19 : decode cX6_wordHere 19 = .ok (.invokevirtual 160, 3) := by decide +kernel
theorem dX6_wordHere_22 : decode cX6_wordHere 22 = .ok (.ifCond .ne 9, 3) := by decide +kernel
theorem dX6_wordHere_25 : decode cX6_wordHere 25 = .ok (.iinc 1 1, 3) := by decide +kernel
theorem dX6_wordHere_28 : decode cX6_wordHere 28 = .ok (.goto (-26), 3) := by decide +kernel
theorem dX6_wordHere_31 : decode cX6_wordHere 31 = .ok (.iload_n 1, 1) := by decide +kernel
theorem dX6_wordHere_32 : decode cX6_wordHere 32 = .ok (.bipush 11, 2) := by decide +kernel
theorem dX6_wordHere_34 : decode cX6_wordHere 34 = .ok (.if_icmp .ge 7, 3) := by decide +kernel
theorem dX6_wordHere_37 : decode cX6_wordHere 37 = .ok (.iload_n 1, 1) := by decide +kernel
theorem dX6_wordHere_38 : decode cX6_wordHere 38 = .ok (.goto 5, 3) := by decide +kernel
theorem dX6_wordHere_41 : decode cX6_wordHere 41 = .ok (.bipush 23, 2) := by decide +kernel
theorem dX6_wordHere_43 : decode cX6_wordHere 43 = .ok (.ireturn, 1) := by decide +kernel
theorem dX6_reads_0 : decode cX6_reads 0 = .ok (.aload_n 0, 1) := by decide +kernel
theorem dX6_reads_1 : decode cX6_reads 1 = .ok (.aload_n 0, 1) := by decide +kernel
theorem dX6_reads_2 : decode cX6_reads 2 = .ok (.getfield 157, 3) := by decide +kernel
theorem dX6_reads_5 : decode cX6_reads 5 = .ok (.bipush 32, 2) := by decide +kernel
theorem dX6_reads_7 : decode cX6_reads 7 = .ok (.bipush 32, 2) := by decide +kernel
theorem dX6_reads_9 : decode cX6_reads 9 = .ok (.invokevirtual 163, 3) := by decide +kernel
theorem dX6_reads_12 : decode cX6_reads 12 = .ok (.ifCond .eq 16, 3) := by decide +kernel
theorem dX6_reads_15 : decode cX6_reads 15 = .ok (.aload_n 0, 1) := by decide +kernel
theorem dX6_reads_16 : decode cX6_reads 16 = .ok (.dup, 1) := by decide +kernel
theorem dX6_reads_17 : decode cX6_reads 17 = .ok (.getfield 157, 3) := by decide +kernel
theorem dX6_reads_20 : decode cX6_reads 20 = .ok (.iconst 1, 1) := by decide +kernel
theorem dX6_reads_21 : decode cX6_reads 21 = .ok (.iadd, 1) := by decide +kernel
theorem dX6_reads_22 : decode cX6_reads 22 = .ok (.putfield 157, 3) := by decide +kernel
theorem dX6_reads_25 : decode cX6_reads 25 = .ok (.goto (-25), 3) := by decide +kernel
theorem dX6_reads_28 : decode cX6_reads 28 = .ok (.aload_n 0, 1) := by decide +kernel
theorem dX6_reads_29 : decode cX6_reads 29 = .ok (.aload_n 0, 1) := by decide +kernel
theorem dX6_reads_30 : decode cX6_reads 30 = .ok (.getfield 157, 3) := by decide +kernel
theorem dX6_reads_33 : decode cX6_reads 33 = .ok (.putfield 154, 3) := by decide +kernel
theorem dX6_reads_36 : decode cX6_reads 36 = .ok (.aload_n 0, 1) := by decide +kernel
theorem dX6_reads_37 : decode cX6_reads 37 = .ok (.iconst 0, 1) := by decide +kernel
theorem dX6_reads_38 : decode cX6_reads 38 = .ok (.putfield 167, 3) := by decide +kernel
theorem dX6_reads_41 : decode cX6_reads 41 = .ok (.aload_n 0, 1) := by decide +kernel
theorem dX6_reads_42 : decode cX6_reads 42 = .ok (.getfield 157, 3) := by decide +kernel
theorem dX6_reads_45 : decode cX6_reads 45 = .ok (.aload_n 0, 1) := by decide +kernel
theorem dX6_reads_46 : decode cX6_reads 46 = .ok (.getfield 147, 3) := by decide +kernel
theorem dX6_reads_49 : decode cX6_reads 49 = .ok (.if_icmp .ne 12, 3) := by decide +kernel
theorem dX6_reads_52 : decode cX6_reads 52 = .ok (.aload_n 0, 1) := by decide +kernel
theorem dX6_reads_53 : decode cX6_reads 53 = .ok (.bipush 22, 2) := by decide +kernel
theorem dX6_reads_55 : decode cX6_reads 55 = .ok (.putfield 170, 3) := by decide +kernel
theorem dX6_reads_58 : decode cX6_reads 58 = .ok (.goto 186, 3) := by decide +kernel
theorem dX6_reads_61 : decode cX6_reads 61 = .ok (.aload_n 0, 1) := by decide +kernel
theorem dX6_reads_62 : decode cX6_reads 62 = .ok (.aload_n 0, 1) := by decide +kernel
theorem dX6_reads_63 : decode cX6_reads 63 = .ok (.getfield 157, 3) := by decide +kernel
theorem dX6_reads_66 : decode cX6_reads 66 = .ok (.bipush 97, 2) := by decide +kernel
theorem dX6_reads_68 : decode cX6_reads 68 = .ok (.bipush 122, 2) := by decide +kernel
theorem dX6_reads_70 : decode cX6_reads 70 = .ok (.invokevirtual 163, 3) := by decide +kernel
theorem dX6_reads_73 : decode cX6_reads 73 = .ok (.ifCond .eq 42, 3) := by decide +kernel
theorem dX6_reads_76 : decode cX6_reads 76 = .ok (.aload_n 0, 1) := by decide +kernel
theorem dX6_reads_77 : decode cX6_reads 77 = .ok (.aload_n 0, 1) := by decide +kernel
theorem dX6_reads_78 : decode cX6_reads 78 = .ok (.getfield 157, 3) := by decide +kernel
theorem dX6_reads_81 : decode cX6_reads 81 = .ok (.bipush 97, 2) := by decide +kernel
theorem dX6_reads_83 : decode cX6_reads 83 = .ok (.bipush 122, 2) := by decide +kernel
theorem dX6_reads_85 : decode cX6_reads 85 = .ok (.invokevirtual 163, 3) := by decide +kernel
theorem dX6_reads_88 : decode cX6_reads 88 = .ok (.ifCond .eq 16, 3) := by decide +kernel
theorem dX6_reads_91 : decode cX6_reads 91 = .ok (.aload_n 0, 1) := by decide +kernel
theorem dX6_reads_92 : decode cX6_reads 92 = .ok (.dup, 1) := by decide +kernel
theorem dX6_reads_93 : decode cX6_reads 93 = .ok (.getfield 157, 3) := by decide +kernel
theorem dX6_reads_96 : decode cX6_reads 96 = .ok (.iconst 1, 1) := by decide +kernel
theorem dX6_reads_97 : decode cX6_reads 97 = .ok (.iadd, 1) := by decide +kernel
theorem dX6_reads_98 : decode cX6_reads 98 = .ok (.putfield 157, 3) := by decide +kernel
theorem dX6_reads_101 : decode cX6_reads 101 = .ok (.goto (-25), 3) := by decide +kernel
theorem dX6_reads_104 : decode cX6_reads 104 = .ok (.aload_n 0, 1) := by decide +kernel
theorem dX6_reads_105 : decode cX6_reads 105 = .ok (.aload_n 0, 1) := by decide +kernel
theorem dX6_reads_106 : decode cX6_reads 106 = .ok (.invokevirtual 173, 3) := by decide +kernel
theorem dX6_reads_109 : decode cX6_reads 109 = .ok (.putfield 170, 3) := by decide +kernel
theorem dX6_reads_112 : decode cX6_reads 112 = .ok (.goto 132, 3) := by decide +kernel
theorem dX6_reads_115 : decode cX6_reads 115 = .ok (.aload_n 0, 1) := by decide +kernel
theorem dX6_reads_116 : decode cX6_reads 116 = .ok (.aload_n 0, 1) := by decide +kernel
theorem dX6_reads_117 : decode cX6_reads 117 = .ok (.getfield 157, 3) := by decide +kernel
theorem dX6_reads_120 : decode cX6_reads 120 = .ok (.bipush 48, 2) := by decide +kernel
theorem dX6_reads_122 : decode cX6_reads 122 = .ok (.bipush 57, 2) := by decide +kernel
theorem dX6_reads_124 : decode cX6_reads 124 = .ok (.invokevirtual 163, 3) := by decide +kernel
theorem dX6_reads_127 : decode cX6_reads 127 = .ok (.ifCond .eq 81, 3) := by decide +kernel
theorem dX6_reads_130 : decode cX6_reads 130 = .ok (.aload_n 0, 1) := by decide +kernel
theorem dX6_reads_131 : decode cX6_reads 131 = .ok (.aload_n 0, 1) := by decide +kernel
theorem dX6_reads_132 : decode cX6_reads 132 = .ok (.getfield 157, 3) := by decide +kernel
theorem dX6_reads_135 : decode cX6_reads 135 = .ok (.bipush 48, 2) := by decide +kernel
theorem dX6_reads_137 : decode cX6_reads 137 = .ok (.bipush 57, 2) := by decide +kernel
theorem dX6_reads_139 : decode cX6_reads 139 = .ok (.invokevirtual 163, 3) := by decide +kernel
theorem dX6_reads_142 : decode cX6_reads 142 = .ok (.ifCond .eq 57, 3) := by decide +kernel
theorem dX6_reads_145 : decode cX6_reads 145 = .ok (.aload_n 0, 1) := by decide +kernel
theorem dX6_reads_146 : decode cX6_reads 146 = .ok (.aload_n 0, 1) := by decide +kernel
theorem dX6_reads_147 : decode cX6_reads 147 = .ok (.getfield 167, 3) := by decide +kernel
theorem dX6_reads_150 : decode cX6_reads 150 = .ok (.sipush 999, 3) := by decide +kernel
theorem dX6_reads_153 : decode cX6_reads 153 = .ok (.if_icmp .le 10, 3) := by decide +kernel
theorem dX6_reads_156 : decode cX6_reads 156 = .ok (.aload_n 0, 1) := by decide +kernel
theorem dX6_reads_157 : decode cX6_reads 157 = .ok (.getfield 167, 3) := by decide +kernel
theorem dX6_reads_160 : decode cX6_reads 160 = .ok (.goto 23, 3) := by decide +kernel
theorem dX6_reads_163 : decode cX6_reads 163 = .ok (.bipush 10, 2) := by decide +kernel
theorem dX6_reads_165 : decode cX6_reads 165 = .ok (.aload_n 0, 1) := by decide +kernel
theorem dX6_reads_166 : decode cX6_reads 166 = .ok (.getfield 167, 3) := by decide +kernel
theorem dX6_reads_169 : decode cX6_reads 169 = .ok (.imul, 1) := by decide +kernel
theorem dX6_reads_170 : decode cX6_reads 170 = .ok (.aload_n 0, 1) := by decide +kernel
theorem dX6_reads_171 : decode cX6_reads 171 = .ok (.getfield 22, 3) := by decide +kernel
theorem dX6_reads_174 : decode cX6_reads 174 = .ok (.aload_n 0, 1) := by decide +kernel
theorem dX6_reads_175 : decode cX6_reads 175 = .ok (.getfield 157, 3) := by decide +kernel
theorem dX6_reads_178 : decode cX6_reads 178 = .ok (.iaload, 1) := by decide +kernel
theorem dX6_reads_179 : decode cX6_reads 179 = .ok (.iadd, 1) := by decide +kernel
theorem dX6_reads_180 : decode cX6_reads 180 = .ok (.bipush 48, 2) := by decide +kernel
theorem dX6_reads_182 : decode cX6_reads 182 = .ok (.isub, 1) := by decide +kernel
theorem dX6_reads_183 : decode cX6_reads 183 = .ok (.putfield 167, 3) := by decide +kernel
theorem dX6_reads_186 : decode cX6_reads 186 = .ok (.aload_n 0, 1) := by decide +kernel
theorem dX6_reads_187 : decode cX6_reads 187 = .ok (.dup, 1) := by decide +kernel
theorem dX6_reads_188 : decode cX6_reads 188 = .ok (.getfield 157, 3) := by decide +kernel
theorem dX6_reads_191 : decode cX6_reads 191 = .ok (.iconst 1, 1) := by decide +kernel
theorem dX6_reads_192 : decode cX6_reads 192 = .ok (.iadd, 1) := by decide +kernel
theorem dX6_reads_193 : decode cX6_reads 193 = .ok (.putfield 157, 3) := by decide +kernel
theorem dX6_reads_196 : decode cX6_reads 196 = .ok (.goto (-66), 3) := by decide +kernel
theorem dX6_reads_199 : decode cX6_reads 199 = .ok (.aload_n 0, 1) := by decide +kernel
theorem dX6_reads_200 : decode cX6_reads 200 = .ok (.bipush 20, 2) := by decide +kernel
theorem dX6_reads_202 : decode cX6_reads 202 = .ok (.putfield 170, 3) := by decide +kernel
theorem dX6_reads_205 : decode cX6_reads 205 = .ok (.goto 39, 3) := by decide +kernel
theorem dX6_reads_208 : decode cX6_reads 208 = .ok (.aload_n 0, 1) := by decide +kernel
theorem dX6_reads_209 : decode cX6_reads 209 = .ok (.aload_n 0, 1) := by decide +kernel
theorem dX6_reads_210 : decode cX6_reads 210 = .ok (.aload_n 0, 1) := by decide +kernel
theorem dX6_reads_211 : decode cX6_reads 211 = .ok (.getfield 157, 3) := by decide +kernel
theorem dX6_reads_214 : decode cX6_reads 214 = .ok (.bipush 59, 2) := by decide +kernel
theorem dX6_reads_216 : decode cX6_reads 216 = .ok (.bipush 59, 2) := by decide +kernel
theorem dX6_reads_218 : decode cX6_reads 218 = .ok (.invokevirtual 163, 3) := by decide +kernel
theorem dX6_reads_221 : decode cX6_reads 221 = .ok (.ifCond .eq 8, 3) := by decide +kernel
theorem dX6_reads_224 : decode cX6_reads 224 = .ok (.bipush 21, 2) := by decide +kernel
theorem dX6_reads_226 : decode cX6_reads 226 = .ok (.goto 5, 3) := by decide +kernel
theorem dX6_reads_229 : decode cX6_reads 229 = .ok (.bipush 23, 2) := by decide +kernel
theorem dX6_reads_231 : decode cX6_reads 231 = .ok (.putfield 170, 3) := by decide +kernel
theorem dX6_reads_234 : decode cX6_reads 234 = .ok (.aload_n 0, 1) := by decide +kernel
theorem dX6_reads_235 : decode cX6_reads 235 = .ok (.dup, 1) := by decide +kernel
theorem dX6_reads_236 : decode cX6_reads 236 = .ok (.getfield 157, 3) := by decide +kernel
theorem dX6_reads_239 : decode cX6_reads 239 = .ok (.iconst 1, 1) := by decide +kernel
theorem dX6_reads_240 : decode cX6_reads 240 = .ok (.iadd, 1) := by decide +kernel
theorem dX6_reads_241 : decode cX6_reads 241 = .ok (.putfield 157, 3) := by decide +kernel
theorem dX6_reads_244 : decode cX6_reads 244 = .ok (.return_, 1) := by decide +kernel
theorem dX6_passes_0 : decode cX6_passes 0 = .ok (.aload_n 0, 1) := by decide +kernel
theorem dX6_passes_1 : decode cX6_passes 1 = .ok (.getfield 176, 3) := by decide +kernel
theorem dX6_passes_4 : decode cX6_passes 4 = .ok (.ifCond .ne 11, 3) := by decide +kernel
theorem dX6_passes_7 : decode cX6_passes 7 = .ok (.aload_n 0, 1) := by decide +kernel
theorem dX6_passes_8 : decode cX6_passes 8 = .ok (.getfield 170, 3) := by decide +kernel
theorem dX6_passes_11 : decode cX6_passes 11 = .ok (.iload_n 1, 1) := by decide +kernel
theorem dX6_passes_12 : decode cX6_passes 12 = .ok (.if_icmp .eq 5, 3) := by decide +kernel
theorem dX6_passes_15 : decode cX6_passes 15 = .ok (.iconst 0, 1) := by decide +kernel
theorem dX6_passes_16 : decode cX6_passes 16 = .ok (.ireturn, 1) := by decide +kernel
theorem dX6_passes_17 : decode cX6_passes 17 = .ok (.aload_n 0, 1) := by decide +kernel
theorem dX6_passes_18 : decode cX6_passes 18 = .ok (.invokevirtual 180, 3) := by decide +kernel
theorem dX6_passes_21 : decode cX6_passes 21 = .ok (.iconst 1, 1) := by decide +kernel
theorem dX6_passes_22 : decode cX6_passes 22 = .ok (.ireturn, 1) := by decide +kernel
theorem dX6_number_0 : decode cX6_number 0 = .ok (.aload_n 0, 1) := by decide +kernel
theorem dX6_number_1 : decode cX6_number 1 = .ok (.getfield 167, 3) := by decide +kernel
theorem dX6_number_4 : decode cX6_number 4 = .ok (.istore_n 3, 1) := by decide +kernel
theorem dX6_number_5 : decode cX6_number 5 = .ok (.aload_n 0, 1) := by decide +kernel
theorem dX6_number_6 : decode cX6_number 6 = .ok (.aload_n 0, 1) := by decide +kernel
theorem dX6_number_7 : decode cX6_number 7 = .ok (.getfield 176, 3) := by decide +kernel
theorem dX6_number_10 : decode cX6_number 10 = .ok (.ifCond .ne 22, 3) := by decide +kernel
theorem dX6_number_13 : decode cX6_number 13 = .ok (.aload_n 0, 1) := by decide +kernel
theorem dX6_number_14 : decode cX6_number 14 = .ok (.getfield 170, 3) := by decide +kernel
theorem dX6_number_17 : decode cX6_number 17 = .ok (.bipush 20, 2) := by decide +kernel
theorem dX6_number_19 : decode cX6_number 19 = .ok (.if_icmp .ne 13, 3) := by decide +kernel
theorem dX6_number_22 : decode cX6_number 22 = .ok (.iload_n 3, 1) := by decide +kernel
theorem dX6_number_23 : decode cX6_number 23 = .ok (.i2l, 1) := by decide +kernel
theorem dX6_number_24 : decode cX6_number 24 = .ok (.iload_n 1, 1) := by decide +kernel
theorem dX6_number_25 : decode cX6_number 25 = .ok (.iload_n 2, 1) := by decide +kernel
theorem dX6_number_26 : decode cX6_number 26 = .ok (.invokestatic 41, 3) := by decide +kernel
theorem dX6_number_29 : decode cX6_number 29 = .ok (.ifCond .ne 7, 3) := by decide +kernel
theorem dX6_number_32 : decode cX6_number 32 = .ok (.iconst 1, 1) := by decide +kernel
theorem dX6_number_33 : decode cX6_number 33 = .ok (.goto 4, 3) := by decide +kernel
theorem dX6_number_36 : decode cX6_number 36 = .ok (.iconst 0, 1) := by decide +kernel
theorem dX6_number_37 : decode cX6_number 37 = .ok (.putfield 176, 3) := by decide +kernel
theorem dX6_number_40 : decode cX6_number 40 = .ok (.aload_n 0, 1) := by decide +kernel
theorem dX6_number_41 : decode cX6_number 41 = .ok (.getfield 176, 3) := by decide +kernel
theorem dX6_number_44 : decode cX6_number 44 = .ok (.ifCond .ne 7, 3) := by decide +kernel
theorem dX6_number_47 : decode cX6_number 47 = .ok (.aload_n 0, 1) := by decide +kernel
theorem dX6_number_48 : decode cX6_number 48 = .ok (.invokevirtual 180, 3) := by decide +kernel
theorem dX6_number_51 : decode cX6_number 51 = .ok (.iload_n 3, 1) := by decide +kernel
theorem dX6_number_52 : decode cX6_number 52 = .ok (.ireturn, 1) := by decide +kernel
theorem dX6_perhaps_0 : decode cX6_perhaps 0 = .ok (.aload_n 0, 1) := by decide +kernel
theorem dX6_perhaps_1 : decode cX6_perhaps 1 = .ok (.iload_n 1, 1) := by decide +kernel
theorem dX6_perhaps_2 : decode cX6_perhaps 2 = .ok (.invokevirtual 183, 3) := by decide +kernel
theorem dX6_perhaps_5 : decode cX6_perhaps 5 = .ok (.ifCond .eq 12, 3) := by decide +kernel
theorem dX6_perhaps_8 : decode cX6_perhaps 8 = .ok (.aload_n 0, 1) := by decide +kernel
theorem dX6_perhaps_9 : decode cX6_perhaps 9 = .ok (.iload_n 2, 1) := by decide +kernel
theorem dX6_perhaps_10 : decode cX6_perhaps 10 = .ok (.iload_n 3, 1) := by decide +kernel
theorem dX6_perhaps_11 : decode cX6_perhaps 11 = .ok (.invokevirtual 186, 3) := by decide +kernel
theorem dX6_perhaps_14 : decode cX6_perhaps 14 = .ok (.goto 5, 3) := by decide +kernel
theorem dX6_perhaps_17 : decode cX6_perhaps 17 = .ok (.iload 4, 2) := by decide +kernel
theorem dX6_perhaps_19 : decode cX6_perhaps 19 = .ok (.ireturn, 1) := by decide +kernel
theorem dX6_personItem_0 : decode cX6_personItem 0 = .ok (.aload_n 0, 1) := by decide +kernel
theorem dX6_personItem_1 : decode cX6_personItem 1 = .ok (.getfield 170, 3) := by decide +kernel
theorem dX6_personItem_4 : decode cX6_personItem 4 = .ok (.istore_n 1, 1) := by decide +kernel
theorem dX6_personItem_5 : decode cX6_personItem 5 = .ok (.aload_n 0, 1) := by decide +kernel
theorem dX6_personItem_6 : decode cX6_personItem 6 = .ok (.aload_n 0, 1) := by decide +kernel
theorem dX6_personItem_7 : decode cX6_personItem 7 = .ok (.getfield 9, 3) := by decide +kernel
theorem dX6_personItem_10 : decode cX6_personItem 10 = .ok (.iconst 1, 1) := by decide +kernel
theorem dX6_personItem_11 : decode cX6_personItem 11 = .ok (.iaload, 1) := by decide +kernel
theorem dX6_personItem_12 : decode cX6_personItem 12 = .ok (.bipush 8, 2) := by decide +kernel
theorem dX6_personItem_14 : decode cX6_personItem 14 = .ok (.if_icmp .ne 7, 3) := by decide +kernel
theorem dX6_personItem_17 : decode cX6_personItem 17 = .ok (.iconst 1, 1) := by decide +kernel
theorem dX6_personItem_18 : decode cX6_personItem 18 = .ok (.goto 4, 3) := by decide +kernel
theorem dX6_personItem_21 : decode cX6_personItem 21 = .ok (.iconst 0, 1) := by decide +kernel
theorem dX6_personItem_22 : decode cX6_personItem 22 = .ok (.putfield 176, 3) := by decide +kernel
theorem dX6_personItem_25 : decode cX6_personItem 25 = .ok (.aload_n 0, 1) := by decide +kernel
theorem dX6_personItem_26 : decode cX6_personItem 26 = .ok (.getfield 176, 3) := by decide +kernel
theorem dX6_personItem_29 : decode cX6_personItem 29 = .ok (.ifCond .eq 4, 3) := by decide +kernel
theorem dX6_personItem_32 : decode cX6_personItem 32 = .ok (.return_, 1) := by decide +kernel
theorem dX6_personItem_33 : decode cX6_personItem 33 = .ok (.aload_n 0, 1) := by decide +kernel
theorem dX6_personItem_34 : decode cX6_personItem 34 = .ok (.invokevirtual 180, 3) := by decide +kernel
theorem dX6_personItem_37 : decode cX6_personItem 37 = .ok (.aload_n 0, 1) := by decide +kernel
theorem dX6_personItem_38 : decode cX6_personItem 38 = .ok (.bipush 6, 2) := by decide +kernel
theorem dX6_personItem_40 : decode cX6_personItem 40 = .ok (.iconst 0, 1) := by decide +kernel
theorem dX6_personItem_41 : decode cX6_personItem 41 = .ok (.bipush 99, 2) := by decide +kernel
theorem dX6_personItem_43 : decode cX6_personItem 43 = .ok (.bipush 20, 2) := by decide +kernel
theorem dX6_personItem_45 : decode cX6_personItem 45 = .ok (.invokevirtual 189, 3) := by decide +kernel
theorem dX6_personItem_48 : decode cX6_personItem 48 = .ok (.istore_n 2, 1) := by decide +kernel
theorem dX6_personItem_49 : decode cX6_personItem 49 = .ok (.aload_n 0, 1) := by decide +kernel
theorem dX6_personItem_50 : decode cX6_personItem 50 = .ok (.bipush 7, 2) := by decide +kernel
theorem dX6_personItem_52 : decode cX6_personItem 52 = .ok (.iconst 0, 1) := by decide +kernel
theorem dX6_personItem_53 : decode cX6_personItem 53 = .ok (.aload_n 0, 1) := by decide +kernel
theorem dX6_personItem_54 : decode cX6_personItem 54 = .ok (.getfield 9, 3) := by decide +kernel
theorem dX6_personItem_57 : decode cX6_personItem 57 = .ok (.iconst 1, 1) := by decide +kernel
theorem dX6_personItem_58 : decode cX6_personItem 58 = .ok (.iaload, 1) := by decide +kernel
theorem dX6_personItem_59 : decode cX6_personItem 59 = .ok (.iconst (-1), 1) := by decide +kernel
theorem dX6_personItem_60 : decode cX6_personItem 60 = .ok (.invokevirtual 189, 3) := by decide +kernel
theorem dX6_personItem_63 : decode cX6_personItem 63 = .ok (.istore_n 3, 1) := by decide +kernel
theorem dX6_personItem_64 : decode cX6_personItem 64 = .ok (.aload_n 0, 1) := by decide +kernel
theorem dX6_personItem_65 : decode cX6_personItem 65 = .ok (.getfield 176, 3) := by decide +kernel
theorem dX6_personItem_68 : decode cX6_personItem 68 = .ok (.ifCond .ne 12, 3) := by decide +kernel
theorem dX6_personItem_71 : decode cX6_personItem 71 = .ok (.aload_n 0, 1) := by decide +kernel
theorem dX6_personItem_72 : decode cX6_personItem 72 = .ok (.iload_n 1, 1) := by decide +kernel
theorem dX6_personItem_73 : decode cX6_personItem 73 = .ok (.iload_n 2, 1) := by decide +kernel
theorem dX6_personItem_74 : decode cX6_personItem 74 = .ok (.iload_n 3, 1) := by decide +kernel
theorem dX6_personItem_75 : decode cX6_personItem 75 = .ok (.invokevirtual 68, 3) := by decide +kernel
theorem dX6_personItem_78 : decode cX6_personItem 78 = .ok (.istore 4, 2) := by decide +kernel
theorem dX6_personItem_80 : decode cX6_personItem 80 = .ok (.return_, 1) := by decide +kernel
theorem dX6_grindItem_0 : decode cX6_grindItem 0 = .ok (.aload_n 0, 1) := by decide +kernel
theorem dX6_grindItem_1 : decode cX6_grindItem 1 = .ok (.getfield 170, 3) := by decide +kernel
theorem dX6_grindItem_4 : decode cX6_grindItem 4 = .ok (.bipush 20, 2) := by decide +kernel
theorem dX6_grindItem_6 : decode cX6_grindItem 6 = .ok (.if_icmp .ne 30, 3) := by decide +kernel
theorem dX6_grindItem_9 : decode cX6_grindItem 9 = .ok (.aload_n 0, 1) := by decide +kernel
theorem dX6_grindItem_10 : decode cX6_grindItem 10 = .ok (.aload_n 0, 1) := by decide +kernel
theorem dX6_grindItem_11 : decode cX6_grindItem 11 = .ok (.getfield 167, 3) := by decide +kernel
theorem dX6_grindItem_14 : decode cX6_grindItem 14 = .ok (.invokevirtual 45, 3) := by decide +kernel
theorem dX6_grindItem_17 : decode cX6_grindItem 17 = .ok (.ifCond .eq 19, 3) := by decide +kernel
theorem dX6_grindItem_20 : decode cX6_grindItem 20 = .ok (.aload_n 0, 1) := by decide +kernel
theorem dX6_grindItem_21 : decode cX6_grindItem 21 = .ok (.aload_n 0, 1) := by decide +kernel
theorem dX6_grindItem_22 : decode cX6_grindItem 22 = .ok (.getfield 167, 3) := by decide +kernel
theorem dX6_grindItem_25 : decode cX6_grindItem 25 = .ok (.iconst 2, 1) := by decide +kernel
theorem dX6_grindItem_26 : decode cX6_grindItem 26 = .ok (.invokevirtual 49, 3) := by decide +kernel
theorem dX6_grindItem_29 : decode cX6_grindItem 29 = .ok (.ifCond .lt 7, 3) := by decide +kernel
theorem dX6_grindItem_32 : decode cX6_grindItem 32 = .ok (.iconst 1, 1) := by decide +kernel
theorem dX6_grindItem_33 : decode cX6_grindItem 33 = .ok (.goto 4, 3) := by decide +kernel
theorem dX6_grindItem_36 : decode cX6_grindItem 36 = .ok (.iconst 0, 1) := by decide +kernel
theorem dX6_grindItem_37 : decode cX6_grindItem 37 = .ok (.istore_n 1, 1) := by decide +kernel
theorem dX6_grindItem_38 : decode cX6_grindItem 38 = .ok (.aload_n 0, 1) := by decide +kernel
theorem dX6_grindItem_39 : decode cX6_grindItem 39 = .ok (.iload_n 1, 1) := by decide +kernel
theorem dX6_grindItem_40 : decode cX6_grindItem 40 = .ok (.ifCond .ne 7, 3) := by decide +kernel
theorem dX6_grindItem_43 : decode cX6_grindItem 43 = .ok (.iconst 1, 1) := by decide +kernel
theorem dX6_grindItem_44 : decode cX6_grindItem 44 = .ok (.goto 4, 3) := by decide +kernel
theorem dX6_grindItem_47 : decode cX6_grindItem 47 = .ok (.iconst 0, 1) := by decide +kernel
theorem dX6_grindItem_48 : decode cX6_grindItem 48 = .ok (.putfield 176, 3) := by decide +kernel
theorem dX6_grindItem_51 : decode cX6_grindItem 51 = .ok (.iload_n 1, 1) := by decide +kernel
theorem dX6_grindItem_52 : decode cX6_grindItem 52 = .ok (.ifCond .eq 16, 3) := by decide +kernel
theorem dX6_grindItem_55 : decode cX6_grindItem 55 = .ok (.aload_n 0, 1) := by decide +kernel
theorem dX6_grindItem_56 : decode cX6_grindItem 56 = .ok (.aload_n 0, 1) := by decide +kernel
theorem dX6_grindItem_57 : decode cX6_grindItem 57 = .ok (.getfield 167, 3) := by decide +kernel
theorem dX6_grindItem_60 : decode cX6_grindItem 60 = .ok (.invokevirtual 89, 3) := by decide +kernel
theorem dX6_grindItem_63 : decode cX6_grindItem 63 = .ok (.istore_n 2, 1) := by decide +kernel
theorem dX6_grindItem_64 : decode cX6_grindItem 64 = .ok (.aload_n 0, 1) := by decide +kernel
theorem dX6_grindItem_65 : decode cX6_grindItem 65 = .ok (.invokevirtual 180, 3) := by decide +kernel
theorem dX6_grindItem_68 : decode cX6_grindItem 68 = .ok (.return_, 1) := by decide +kernel
theorem dX6_item_0 : decode cX6_item 0 = .ok (.aload_n 0, 1) := by decide +kernel
theorem dX6_item_1 : decode cX6_item 1 = .ok (.getfield 170, 3) := by decide +kernel
theorem dX6_item_4 : decode cX6_item 4 = .ok (.iconst 5, 1) := by decide +kernel
theorem dX6_item_5 : decode cX6_item 5 = .ok (.if_icmp .gt 10, 3) := by decide +kernel
theorem dX6_item_8 : decode cX6_item 8 = .ok (.aload_n 0, 1) := by decide +kernel
theorem dX6_item_9 : decode cX6_item 9 = .ok (.invokevirtual 193, 3) := by decide +kernel
theorem dX6_item_12 : decode cX6_item 12 = .ok (.goto 92, 3) := by decide +kernel
theorem dX6_item_15 : decode cX6_item 15 = .ok (.aload_n 0, 1) := by decide +kernel
theorem dX6_item_16 : decode cX6_item 16 = .ok (.bipush 8, 2) := by decide +kernel
theorem dX6_item_18 : decode cX6_item 18 = .ok (.invokevirtual 183, 3) := by decide +kernel
theorem dX6_item_21 : decode cX6_item 21 = .ok (.ifCond .eq 10, 3) := by decide +kernel
theorem dX6_item_24 : decode cX6_item 24 = .ok (.aload_n 0, 1) := by decide +kernel
theorem dX6_item_25 : decode cX6_item 25 = .ok (.invokevirtual 196, 3) := by decide +kernel
theorem dX6_item_28 : decode cX6_item 28 = .ok (.goto 76, 3) := by decide +kernel
theorem dX6_item_31 : decode cX6_item 31 = .ok (.aload_n 0, 1) := by decide +kernel
theorem dX6_item_32 : decode cX6_item 32 = .ok (.getfield 170, 3) := by decide +kernel
theorem dX6_item_35 : decode cX6_item 35 = .ok (.bipush 9, 2) := by decide +kernel
theorem dX6_item_37 : decode cX6_item 37 = .ok (.if_icmp .eq 12, 3) := by decide +kernel
theorem dX6_item_40 : decode cX6_item 40 = .ok (.aload_n 0, 1) := by decide +kernel
theorem dX6_item_41 : decode cX6_item 41 = .ok (.getfield 170, 3) := by decide +kernel
theorem dX6_item_44 : decode cX6_item 44 = .ok (.bipush 10, 2) := by decide +kernel
theorem dX6_item_46 : decode cX6_item 46 = .ok (.if_icmp .ne 53, 3) := by decide +kernel
theorem dX6_item_49 : decode cX6_item 49 = .ok (.aload_n 0, 1) := by decide +kernel
theorem dX6_item_50 : decode cX6_item 50 = .ok (.getfield 170, 3) := by decide +kernel
theorem dX6_item_53 : decode cX6_item 53 = .ok (.bipush 9, 2) := by decide +kernel
theorem dX6_item_55 : decode cX6_item 55 = .ok (.if_icmp .ne 7, 3) := by decide +kernel
theorem dX6_item_58 : decode cX6_item 58 = .ok (.iconst 1, 1) := by decide +kernel
theorem dX6_item_59 : decode cX6_item 59 = .ok (.goto 4, 3) := by decide +kernel
theorem dX6_item_62 : decode cX6_item 62 = .ok (.iconst 0, 1) := by decide +kernel
theorem dX6_item_63 : decode cX6_item 63 = .ok (.istore_n 1, 1) := by decide +kernel
theorem dX6_item_64 : decode cX6_item 64 = .ok (.aload_n 0, 1) := by decide +kernel
theorem dX6_item_65 : decode cX6_item 65 = .ok (.invokevirtual 180, 3) := by decide +kernel
theorem dX6_item_68 : decode cX6_item 68 = .ok (.aload_n 0, 1) := by decide +kernel
theorem dX6_item_69 : decode cX6_item 69 = .ok (.iconst 0, 1) := by decide +kernel
theorem dX6_item_70 : decode cX6_item 70 = .ok (.aload_n 0, 1) := by decide +kernel
theorem dX6_item_71 : decode cX6_item 71 = .ok (.getfield 9, 3) := by decide +kernel
theorem dX6_item_74 : decode cX6_item 74 = .ok (.iconst 1, 1) := by decide +kernel
theorem dX6_item_75 : decode cX6_item 75 = .ok (.iaload, 1) := by decide +kernel
theorem dX6_item_76 : decode cX6_item 76 = .ok (.iconst 1, 1) := by decide +kernel
theorem dX6_item_77 : decode cX6_item 77 = .ok (.isub, 1) := by decide +kernel
theorem dX6_item_78 : decode cX6_item 78 = .ok (.invokevirtual 186, 3) := by decide +kernel
theorem dX6_item_81 : decode cX6_item 81 = .ok (.istore_n 2, 1) := by decide +kernel
theorem dX6_item_82 : decode cX6_item 82 = .ok (.aload_n 0, 1) := by decide +kernel
theorem dX6_item_83 : decode cX6_item 83 = .ok (.getfield 176, 3) := by decide +kernel
theorem dX6_item_86 : decode cX6_item 86 = .ok (.ifCond .ne 10, 3) := by decide +kernel
theorem dX6_item_89 : decode cX6_item 89 = .ok (.aload_n 0, 1) := by decide +kernel
theorem dX6_item_90 : decode cX6_item 90 = .ok (.iload_n 2, 1) := by decide +kernel
theorem dX6_item_91 : decode cX6_item 91 = .ok (.iconst 3, 1) := by decide +kernel
theorem dX6_item_92 : decode cX6_item 92 = .ok (.iload_n 1, 1) := by decide +kernel
theorem dX6_item_93 : decode cX6_item 93 = .ok (.invokevirtual 63, 3) := by decide +kernel
theorem dX6_item_96 : decode cX6_item 96 = .ok (.goto 8, 3) := by decide +kernel
theorem dX6_item_99 : decode cX6_item 99 = .ok (.aload_n 0, 1) := by decide +kernel
theorem dX6_item_100 : decode cX6_item 100 = .ok (.iconst 1, 1) := by decide +kernel
theorem dX6_item_101 : decode cX6_item 101 = .ok (.putfield 176, 3) := by decide +kernel
theorem dX6_item_104 : decode cX6_item 104 = .ok (.return_, 1) := by decide +kernel
theorem dX6_quay_0 : decode cX6_quay 0 = .ok (.aload_n 0, 1) := by decide +kernel
theorem dX6_quay_1 : decode cX6_quay 1 = .ok (.invokevirtual 123, 3) := by decide +kernel
theorem dX6_quay_4 : decode cX6_quay 4 = .ok (.aload_n 0, 1) := by decide +kernel
theorem dX6_quay_5 : decode cX6_quay 5 = .ok (.iconst 0, 1) := by decide +kernel
theorem dX6_quay_6 : decode cX6_quay 6 = .ok (.putfield 157, 3) := by decide +kernel
theorem dX6_quay_9 : decode cX6_quay 9 = .ok (.aload_n 0, 1) := by decide +kernel
theorem dX6_quay_10 : decode cX6_quay 10 = .ok (.iconst 0, 1) := by decide +kernel
theorem dX6_quay_11 : decode cX6_quay 11 = .ok (.putfield 176, 3) := by decide +kernel
theorem dX6_quay_14 : decode cX6_quay 14 = .ok (.aload_n 0, 1) := by decide +kernel
theorem dX6_quay_15 : decode cX6_quay 15 = .ok (.invokevirtual 180, 3) := by decide +kernel
theorem dX6_quay_18 : decode cX6_quay 18 = .ok (.aload_n 0, 1) := by decide +kernel
theorem dX6_quay_19 : decode cX6_quay 19 = .ok (.invokevirtual 199, 3) := by decide +kernel
theorem dX6_quay_22 : decode cX6_quay 22 = .ok (.iconst 1, 1) := by decide +kernel
theorem dX6_quay_23 : decode cX6_quay 23 = .ok (.istore_n 1, 1) := by decide +kernel
theorem dX6_quay_24 : decode cX6_quay 24 = .ok (.aload_n 0, 1) := by decide +kernel
theorem dX6_quay_25 : decode cX6_quay 25 = .ok (.bipush 21, 2) := by decide +kernel
theorem dX6_quay_27 : decode cX6_quay 27 = .ok (.invokevirtual 183, 3) := by decide +kernel
theorem dX6_quay_30 : decode cX6_quay 30 = .ok (.ifCond .eq 13, 3) := by decide +kernel
theorem dX6_quay_33 : decode cX6_quay 33 = .ok (.aload_n 0, 1) := by decide +kernel
theorem dX6_quay_34 : decode cX6_quay 34 = .ok (.invokevirtual 199, 3) := by decide +kernel
theorem dX6_quay_37 : decode cX6_quay 37 = .ok (.iinc 1 1, 3) := by decide +kernel
theorem dX6_quay_40 : decode cX6_quay 40 = .ok (.goto (-16), 3) := by decide +kernel
theorem dX6_quay_43 : decode cX6_quay 43 = .ok (.aload_n 0, 1) := by decide +kernel
theorem dX6_quay_44 : decode cX6_quay 44 = .ok (.aload_n 0, 1) := by decide +kernel
theorem dX6_quay_45 : decode cX6_quay 45 = .ok (.getfield 176, 3) := by decide +kernel
theorem dX6_quay_48 : decode cX6_quay 48 = .ok (.ifCond .ne 12, 3) := by decide +kernel
theorem dX6_quay_51 : decode cX6_quay 51 = .ok (.aload_n 0, 1) := by decide +kernel
theorem dX6_quay_52 : decode cX6_quay 52 = .ok (.getfield 170, 3) := by decide +kernel
theorem dX6_quay_55 : decode cX6_quay 55 = .ok (.bipush 22, 2) := by decide +kernel
theorem dX6_quay_57 : decode cX6_quay 57 = .ok (.if_icmp .eq 7, 3) := by decide +kernel
theorem dX6_quay_60 : decode cX6_quay 60 = .ok (.iconst 1, 1) := by decide +kernel
theorem dX6_quay_61 : decode cX6_quay 61 = .ok (.goto 4, 3) := by decide +kernel
theorem dX6_quay_64 : decode cX6_quay 64 = .ok (.iconst 0, 1) := by decide +kernel
theorem dX6_quay_65 : decode cX6_quay 65 = .ok (.putfield 176, 3) := by decide +kernel
theorem dX6_quay_68 : decode cX6_quay 68 = .ok (.aload_n 0, 1) := by decide +kernel
theorem dX6_quay_69 : decode cX6_quay 69 = .ok (.iconst 0, 1) := by decide +kernel
theorem dX6_quay_70 : decode cX6_quay 70 = .ok (.putfield 147, 3) := by decide +kernel
theorem dX6_quay_73 : decode cX6_quay 73 = .ok (.aload_n 0, 1) := by decide +kernel
theorem dX6_quay_74 : decode cX6_quay 74 = .ok (.getfield 176, 3) := by decide +kernel
theorem dX6_quay_77 : decode cX6_quay 77 = .ok (.ifCond .ne 5, 3) := by decide +kernel
theorem dX6_quay_80 : decode cX6_quay 80 = .ok (.iload_n 1, 1) := by decide +kernel
theorem dX6_quay_81 : decode cX6_quay 81 = .ok (.ireturn, 1) := by decide +kernel
theorem dX6_quay_82 : decode cX6_quay 82 = .ok (.aload_n 0, 1) := by decide +kernel
theorem dX6_quay_83 : decode cX6_quay 83 = .ok (.invokevirtual 126, 3) := by decide +kernel
theorem dX6_quay_86 : decode cX6_quay 86 = .ok (.iconst (-1), 1) := by decide +kernel
theorem dX6_quay_87 : decode cX6_quay 87 = .ok (.aload_n 0, 1) := by decide +kernel
theorem dX6_quay_88 : decode cX6_quay 88 = .ok (.getfield 154, 3) := by decide +kernel
theorem dX6_quay_91 : decode cX6_quay 91 = .ok (.isub, 1) := by decide +kernel
theorem dX6_quay_92 : decode cX6_quay 92 = .ok (.ireturn, 1) := by decide +kernel
theorem dX6_isSheet_0 : decode cX6_isSheet 0 = .ok (.iload_n 0, 1) := by decide +kernel
theorem dX6_isSheet_1 : decode cX6_isSheet 1 = .ok (.i2l, 1) := by decide +kernel
theorem dX6_isSheet_2 : decode cX6_isSheet 2 = .ok (.iconst 0, 1) := by decide +kernel
theorem dX6_isSheet_3 : decode cX6_isSheet 3 = .ok (.iconst 3, 1) := by decide +kernel
theorem dX6_isSheet_4 : decode cX6_isSheet 4 = .ok (.invokestatic 41, 3) := by decide +kernel
theorem dX6_isSheet_7 : decode cX6_isSheet 7 = .ok (.ireturn, 1) := by decide +kernel
theorem dX6_sheet_0 : decode cX6_sheet 0 = .ok (.iload_n 1, 1) := by decide +kernel
theorem dX6_sheet_1 : decode cX6_sheet 1 = .ok (.invokestatic 202, 3) := by decide +kernel
theorem dX6_sheet_4 : decode cX6_sheet 4 = .ok (.ifCond .eq 25, 3) := by decide +kernel
theorem dX6_sheet_7 : decode cX6_sheet 7 = .ok (.iload_n 2, 1) := by decide +kernel
theorem dX6_sheet_8 : decode cX6_sheet 8 = .ok (.ifCond .eq 28, 3) := by decide +kernel
theorem dX6_sheet_11 : decode cX6_sheet 11 = .ok (.iload_n 2, 1) := by decide +kernel
theorem dX6_sheet_12 : decode cX6_sheet 12 = .ok (.bipush 8, 2) := by decide +kernel
theorem dX6_sheet_14 : decode cX6_sheet 14 = .ok (.if_icmp .eq 22, 3) := by decide +kernel
theorem dX6_sheet_17 : decode cX6_sheet 17 = .ok (.iload_n 2, 1) := by decide +kernel
theorem dX6_sheet_18 : decode cX6_sheet 18 = .ok (.bipush 16, 2) := by decide +kernel
theorem dX6_sheet_20 : decode cX6_sheet 20 = .ok (.if_icmp .eq 16, 3) := by decide +kernel
theorem dX6_sheet_23 : decode cX6_sheet 23 = .ok (.iload_n 2, 1) := by decide +kernel
theorem dX6_sheet_24 : decode cX6_sheet 24 = .ok (.bipush 64, 2) := by decide +kernel
theorem dX6_sheet_26 : decode cX6_sheet 26 = .ok (.if_icmp .eq 10, 3) := by decide +kernel
theorem dX6_sheet_29 : decode cX6_sheet 29 = .ok (.aload_n 0, 1) := by decide +kernel
theorem dX6_sheet_30 : decode cX6_sheet 30 = .ok (.ldc 35, 2) := by decide +kernel
theorem dX6_sheet_32 : decode cX6_sheet 32 = .ok (.invokevirtual 37, 3) := by decide +kernel
theorem dX6_sheet_35 : decode cX6_sheet 35 = .ok (.ireturn, 1) := by decide +kernel
theorem dX6_sheet_36 : decode cX6_sheet 36 = .ok (.iload_n 3, 1) := by decide +kernel
theorem dX6_sheet_37 : decode cX6_sheet 37 = .ok (.ifCond .ge 10, 3) := by decide +kernel
theorem dX6_sheet_40 : decode cX6_sheet 40 = .ok (.aload_n 0, 1) := by decide +kernel
theorem dX6_sheet_41 : decode cX6_sheet 41 = .ok (.ldc 205, 2) := by decide +kernel
theorem dX6_sheet_43 : decode cX6_sheet 43 = .ok (.invokevirtual 37, 3) := by decide +kernel
theorem dX6_sheet_46 : decode cX6_sheet 46 = .ok (.ireturn, 1) := by decide +kernel
theorem dX6_sheet_47 : decode cX6_sheet 47 = .ok (.iload_n 3, 1) := by decide +kernel
theorem dX6_sheet_48 : decode cX6_sheet 48 = .ok (.bipush 40, 2) := by decide +kernel
theorem dX6_sheet_50 : decode cX6_sheet 50 = .ok (.if_icmp .le 10, 3) := by decide +kernel
theorem dX6_sheet_53 : decode cX6_sheet 53 = .ok (.aload_n 0, 1) := by decide +kernel
theorem dX6_sheet_54 : decode cX6_sheet 54 = .ok (.ldc 35, 2) := by decide +kernel
theorem dX6_sheet_56 : decode cX6_sheet 56 = .ok (.invokevirtual 37, 3) := by decide +kernel
theorem dX6_sheet_59 : decode cX6_sheet 59 = .ok (.ireturn, 1) := by decide +kernel
theorem dX6_sheet_60 : decode cX6_sheet 60 = .ok (.aload_n 0, 1) := by decide +kernel
theorem dX6_sheet_61 : decode cX6_sheet 61 = .ok (.getfield 25, 3) := by decide +kernel
theorem dX6_sheet_64 : decode cX6_sheet 64 = .ok (.iload_n 1, 1) := by decide +kernel
theorem dX6_sheet_65 : decode cX6_sheet 65 = .ok (.iload_n 2, 1) := by decide +kernel
theorem dX6_sheet_66 : decode cX6_sheet 66 = .ok (.iastore, 1) := by decide +kernel
theorem dX6_sheet_67 : decode cX6_sheet 67 = .ok (.aload_n 0, 1) := by decide +kernel
theorem dX6_sheet_68 : decode cX6_sheet 68 = .ok (.getfield 28, 3) := by decide +kernel
theorem dX6_sheet_71 : decode cX6_sheet 71 = .ok (.iload_n 1, 1) := by decide +kernel
theorem dX6_sheet_72 : decode cX6_sheet 72 = .ok (.iload_n 2, 1) := by decide +kernel
theorem dX6_sheet_73 : decode cX6_sheet 73 = .ok (.ifCond .ne 7, 3) := by decide +kernel
theorem dX6_sheet_76 : decode cX6_sheet 76 = .ok (.iconst 0, 1) := by decide +kernel
theorem dX6_sheet_77 : decode cX6_sheet 77 = .ok (.goto 4, 3) := by decide +kernel
theorem dX6_sheet_80 : decode cX6_sheet 80 = .ok (.iload_n 3, 1) := by decide +kernel
theorem dX6_sheet_81 : decode cX6_sheet 81 = .ok (.iastore, 1) := by decide +kernel
theorem dX6_sheet_82 : decode cX6_sheet 82 = .ok (.iconst 0, 1) := by decide +kernel
theorem dX6_sheet_83 : decode cX6_sheet 83 = .ok (.istore 4, 2) := by decide +kernel
theorem dX6_sheet_85 : decode cX6_sheet 85 = .ok (.iload 4, 2) := by decide +kernel
theorem dX6_sheet_87 : decode cX6_sheet 87 = .ok (.bipush 40, 2) := by decide +kernel
theorem dX6_sheet_89 : decode cX6_sheet 89 = .ok (.if_icmp .ge 22, 3) := by decide +kernel
theorem dX6_sheet_92 : decode cX6_sheet 92 = .ok (.aload_n 0, 1) := by decide +kernel
theorem dX6_sheet_93 : decode cX6_sheet 93 = .ok (.getfield 31, 3) := by decide +kernel
theorem dX6_sheet_96 : decode cX6_sheet 96 = .ok (.bipush 40, 2) := by decide +kernel
theorem dX6_sheet_98 : decode cX6_sheet 98 = .ok (.iload_n 1, 1) := by decide +kernel
theorem dX6_sheet_99 : decode cX6_sheet 99 = .ok (.imul, 1) := by decide +kernel
theorem dX6_sheet_100 : decode cX6_sheet 100 = .ok (.iload 4, 2) := by decide +kernel
theorem dX6_sheet_102 : decode cX6_sheet 102 = .ok (.iadd, 1) := by decide +kernel
theorem dX6_sheet_103 : decode cX6_sheet 103 = .ok (.lconst 0, 1) := by decide +kernel
theorem dX6_sheet_104 : decode cX6_sheet 104 = .ok (.lastore, 1) := by decide +kernel
theorem dX6_sheet_105 : decode cX6_sheet 105 = .ok (.iinc 4 1, 3) := by decide +kernel
theorem dX6_sheet_108 : decode cX6_sheet 108 = .ok (.goto (-23), 3) := by decide +kernel
theorem dX6_sheet_111 : decode cX6_sheet 111 = .ok (.aload_n 0, 1) := by decide +kernel
theorem dX6_sheet_112 : decode cX6_sheet 112 = .ok (.getfield 28, 3) := by decide +kernel
theorem dX6_sheet_115 : decode cX6_sheet 115 = .ok (.iload_n 1, 1) := by decide +kernel
theorem dX6_sheet_116 : decode cX6_sheet 116 = .ok (.iaload, 1) := by decide +kernel
theorem dX6_sheet_117 : decode cX6_sheet 117 = .ok (.ireturn, 1) := by decide +kernel
theorem dX6_notThere_0 : decode cX6_notThere 0 = .ok (.iload_n 1, 1) := by decide +kernel
theorem dX6_notThere_1 : decode cX6_notThere 1 = .ok (.invokestatic 202, 3) := by decide +kernel
theorem dX6_notThere_4 : decode cX6_notThere 4 = .ok (.ifCond .ne 8, 3) := by decide +kernel
theorem dX6_notThere_7 : decode cX6_notThere 7 = .ok (.ldc 35, 2) := by decide +kernel
theorem dX6_notThere_9 : decode cX6_notThere 9 = .ok (.goto 18, 3) := by decide +kernel
theorem dX6_notThere_12 : decode cX6_notThere 12 = .ok (.aload_n 0, 1) := by decide +kernel
theorem dX6_notThere_13 : decode cX6_notThere 13 = .ok (.getfield 25, 3) := by decide +kernel
theorem dX6_notThere_16 : decode cX6_notThere 16 = .ok (.iload_n 1, 1) := by decide +kernel
theorem dX6_notThere_17 : decode cX6_notThere 17 = .ok (.iaload, 1) := by decide +kernel
theorem dX6_notThere_18 : decode cX6_notThere 18 = .ok (.ifCond .ne 8, 3) := by decide +kernel
theorem dX6_notThere_21 : decode cX6_notThere 21 = .ok (.ldc 206, 2) := by decide +kernel
theorem dX6_notThere_23 : decode cX6_notThere 23 = .ok (.goto 4, 3) := by decide +kernel
theorem dX6_notThere_26 : decode cX6_notThere 26 = .ok (.iconst 0, 1) := by decide +kernel
theorem dX6_notThere_27 : decode cX6_notThere 27 = .ok (.ireturn, 1) := by decide +kernel
theorem dX6_cutTo_0 : decode cX6_cutTo 0 = .ok (.iload_n 0, 1) := by decide +kernel
theorem dX6_cutTo_1 : decode cX6_cutTo 1 = .ok (.bipush 8, 2) := by decide +kernel
theorem dX6_cutTo_3 : decode cX6_cutTo 3 = .ok (.if_icmp .ne 10, 3) := by decide +kernel
theorem dX6_cutTo_6 : decode cX6_cutTo 6 = .ok (.lload_n 1, 1) := by decide +kernel
theorem dX6_cutTo_7 : decode cX6_cutTo 7 = .ok (.l2i, 1) := by decide +kernel
theorem dX6_cutTo_8 : decode cX6_cutTo 8 = .ok (.i2b, 1) := by decide +kernel
theorem dX6_cutTo_9 : decode cX6_cutTo 9 = .ok (.i2l, 1) := by decide +kernel
theorem dX6_cutTo_10 : decode cX6_cutTo 10 = .ok (.goto 17, 3) := by decide +kernel
theorem dX6_cutTo_13 : decode cX6_cutTo 13 = .ok (.iload_n 0, 1) := by decide +kernel
theorem dX6_cutTo_14 : decode cX6_cutTo 14 = .ok (.bipush 16, 2) := by decide +kernel
theorem dX6_cutTo_16 : decode cX6_cutTo 16 = .ok (.if_icmp .ne 10, 3) := by decide +kernel
theorem dX6_cutTo_19 : decode cX6_cutTo 19 = .ok (.lload_n 1, 1) := by decide +kernel
theorem dX6_cutTo_20 : decode cX6_cutTo 20 = .ok (.l2i, 1) := by decide +kernel
theorem dX6_cutTo_21 : decode cX6_cutTo 21 = .ok (.i2s, 1) := by decide +kernel
theorem dX6_cutTo_22 : decode cX6_cutTo 22 = .ok (.i2l, 1) := by decide +kernel
theorem dX6_cutTo_23 : decode cX6_cutTo 23 = .ok (.goto 4, 3) := by decide +kernel
theorem dX6_cutTo_26 : decode cX6_cutTo 26 = .ok (.lload_n 1, 1) := by decide +kernel
theorem dX6_cutTo_27 : decode cX6_cutTo 27 = .ok (.lreturn, 1) := by decide +kernel
theorem dX6_write_0 : decode cX6_write 0 = .ok (.aload_n 0, 1) := by decide +kernel
theorem dX6_write_1 : decode cX6_write 1 = .ok (.iload_n 1, 1) := by decide +kernel
theorem dX6_write_2 : decode cX6_write 2 = .ok (.invokevirtual 207, 3) := by decide +kernel
theorem dX6_write_5 : decode cX6_write 5 = .ok (.istore 5, 2) := by decide +kernel
theorem dX6_write_7 : decode cX6_write 7 = .ok (.iload 5, 2) := by decide +kernel
theorem dX6_write_9 : decode cX6_write 9 = .ok (.ifCond .ne 24, 3) := by decide +kernel
theorem dX6_write_12 : decode cX6_write 12 = .ok (.iload_n 2, 1) := by decide +kernel
theorem dX6_write_13 : decode cX6_write 13 = .ok (.i2l, 1) := by decide +kernel
theorem dX6_write_14 : decode cX6_write 14 = .ok (.iconst 0, 1) := by decide +kernel
theorem dX6_write_15 : decode cX6_write 15 = .ok (.aload_n 0, 1) := by decide +kernel
theorem dX6_write_16 : decode cX6_write 16 = .ok (.getfield 28, 3) := by decide +kernel
theorem dX6_write_19 : decode cX6_write 19 = .ok (.iload_n 1, 1) := by decide +kernel
theorem dX6_write_20 : decode cX6_write 20 = .ok (.iaload, 1) := by decide +kernel
theorem dX6_write_21 : decode cX6_write 21 = .ok (.iconst 1, 1) := by decide +kernel
theorem dX6_write_22 : decode cX6_write 22 = .ok (.isub, 1) := by decide +kernel
theorem dX6_write_23 : decode cX6_write 23 = .ok (.invokestatic 41, 3) := by decide +kernel
theorem dX6_write_26 : decode cX6_write 26 = .ok (.ifCond .ne 7, 3) := by decide +kernel
theorem dX6_write_29 : decode cX6_write 29 = .ok (.ldc 35, 2) := by decide +kernel
theorem dX6_write_31 : decode cX6_write 31 = .ok (.istore 5, 2) := by decide +kernel
theorem dX6_write_33 : decode cX6_write 33 = .ok (.iload 5, 2) := by decide +kernel
theorem dX6_write_35 : decode cX6_write 35 = .ok (.ifCond .eq 11, 3) := by decide +kernel
theorem dX6_write_38 : decode cX6_write 38 = .ok (.aload_n 0, 1) := by decide +kernel
theorem dX6_write_39 : decode cX6_write 39 = .ok (.iload 5, 2) := by decide +kernel
theorem dX6_write_41 : decode cX6_write 41 = .ok (.invokevirtual 37, 3) := by decide +kernel
theorem dX6_write_44 : decode cX6_write 44 = .ok (.i2l, 1) := by decide +kernel
theorem dX6_write_45 : decode cX6_write 45 = .ok (.lreturn, 1) := by decide +kernel
theorem dX6_write_46 : decode cX6_write 46 = .ok (.aload_n 0, 1) := by decide +kernel
theorem dX6_write_47 : decode cX6_write 47 = .ok (.getfield 31, 3) := by decide +kernel
theorem dX6_write_50 : decode cX6_write 50 = .ok (.bipush 40, 2) := by decide +kernel
theorem dX6_write_52 : decode cX6_write 52 = .ok (.iload_n 1, 1) := by decide +kernel
theorem dX6_write_53 : decode cX6_write 53 = .ok (.imul, 1) := by decide +kernel
theorem dX6_write_54 : decode cX6_write 54 = .ok (.iload_n 2, 1) := by decide +kernel
theorem dX6_write_55 : decode cX6_write 55 = .ok (.iadd, 1) := by decide +kernel
theorem dX6_write_56 : decode cX6_write 56 = .ok (.laload, 1) := by decide +kernel
theorem dX6_write_57 : decode cX6_write 57 = .ok (.lstore 6, 2) := by decide +kernel
theorem dX6_write_59 : decode cX6_write 59 = .ok (.aload_n 0, 1) := by decide +kernel
theorem dX6_write_60 : decode cX6_write 60 = .ok (.getfield 31, 3) := by decide +kernel
theorem dX6_write_63 : decode cX6_write 63 = .ok (.bipush 40, 2) := by decide +kernel
theorem dX6_write_65 : decode cX6_write 65 = .ok (.iload_n 1, 1) := by decide +kernel
theorem dX6_write_66 : decode cX6_write 66 = .ok (.imul, 1) := by decide +kernel
theorem dX6_write_67 : decode cX6_write 67 = .ok (.iload_n 2, 1) := by decide +kernel
theorem dX6_write_68 : decode cX6_write 68 = .ok (.iadd, 1) := by decide +kernel
theorem dX6_write_69 : decode cX6_write 69 = .ok (.aload_n 0, 1) := by decide +kernel
theorem dX6_write_70 : decode cX6_write 70 = .ok (.getfield 25, 3) := by decide +kernel
theorem dX6_write_73 : decode cX6_write 73 = .ok (.iload_n 1, 1) := by decide +kernel
theorem dX6_write_74 : decode cX6_write 74 = .ok (.iaload, 1) := by decide +kernel
theorem dX6_write_75 : decode cX6_write 75 = .ok (.lload_n 3, 1) := by decide +kernel
theorem dX6_write_76 : decode cX6_write 76 = .ok (.invokestatic 210, 3) := by decide +kernel
theorem dX6_write_79 : decode cX6_write 79 = .ok (.lastore, 1) := by decide +kernel
theorem dX6_write_80 : decode cX6_write 80 = .ok (.lload 6, 2) := by decide +kernel
theorem dX6_write_82 : decode cX6_write 82 = .ok (.lreturn, 1) := by decide +kernel
theorem dX6_notCopied_0 : decode cX6_notCopied 0 = .ok (.iload_n 1, 1) := by decide +kernel
theorem dX6_notCopied_1 : decode cX6_notCopied 1 = .ok (.invokestatic 202, 3) := by decide +kernel
theorem dX6_notCopied_4 : decode cX6_notCopied 4 = .ok (.ifCond .eq 10, 3) := by decide +kernel
theorem dX6_notCopied_7 : decode cX6_notCopied 7 = .ok (.iload_n 3, 1) := by decide +kernel
theorem dX6_notCopied_8 : decode cX6_notCopied 8 = .ok (.invokestatic 202, 3) := by decide +kernel
theorem dX6_notCopied_11 : decode cX6_notCopied 11 = .ok (.ifCond .ne 6, 3) := by decide +kernel
theorem dX6_notCopied_14 : decode cX6_notCopied 14 = .ok (.ldc 35, 2) := by decide +kernel
theorem dX6_notCopied_16 : decode cX6_notCopied 16 = .ok (.ireturn, 1) := by decide +kernel
theorem dX6_notCopied_17 : decode cX6_notCopied 17 = .ok (.aload_n 0, 1) := by decide +kernel
theorem dX6_notCopied_18 : decode cX6_notCopied 18 = .ok (.getfield 25, 3) := by decide +kernel
theorem dX6_notCopied_21 : decode cX6_notCopied 21 = .ok (.iload_n 1, 1) := by decide +kernel
theorem dX6_notCopied_22 : decode cX6_notCopied 22 = .ok (.iaload, 1) := by decide +kernel
theorem dX6_notCopied_23 : decode cX6_notCopied 23 = .ok (.ifCond .eq 12, 3) := by decide +kernel
theorem dX6_notCopied_26 : decode cX6_notCopied 26 = .ok (.aload_n 0, 1) := by decide +kernel
theorem dX6_notCopied_27 : decode cX6_notCopied 27 = .ok (.getfield 25, 3) := by decide +kernel
theorem dX6_notCopied_30 : decode cX6_notCopied 30 = .ok (.iload_n 3, 1) := by decide +kernel
theorem dX6_notCopied_31 : decode cX6_notCopied 31 = .ok (.iaload, 1) := by decide +kernel
theorem dX6_notCopied_32 : decode cX6_notCopied 32 = .ok (.ifCond .ne 6, 3) := by decide +kernel
theorem dX6_notCopied_35 : decode cX6_notCopied 35 = .ok (.ldc 206, 2) := by decide +kernel
theorem dX6_notCopied_37 : decode cX6_notCopied 37 = .ok (.ireturn, 1) := by decide +kernel
theorem dX6_notCopied_38 : decode cX6_notCopied 38 = .ok (.aload_n 0, 1) := by decide +kernel
theorem dX6_notCopied_39 : decode cX6_notCopied 39 = .ok (.getfield 25, 3) := by decide +kernel
theorem dX6_notCopied_42 : decode cX6_notCopied 42 = .ok (.iload_n 1, 1) := by decide +kernel
theorem dX6_notCopied_43 : decode cX6_notCopied 43 = .ok (.iaload, 1) := by decide +kernel
theorem dX6_notCopied_44 : decode cX6_notCopied 44 = .ok (.aload_n 0, 1) := by decide +kernel
theorem dX6_notCopied_45 : decode cX6_notCopied 45 = .ok (.getfield 25, 3) := by decide +kernel
theorem dX6_notCopied_48 : decode cX6_notCopied 48 = .ok (.iload_n 3, 1) := by decide +kernel
theorem dX6_notCopied_49 : decode cX6_notCopied 49 = .ok (.iaload, 1) := by decide +kernel
theorem dX6_notCopied_50 : decode cX6_notCopied 50 = .ok (.if_icmp .eq 6, 3) := by decide +kernel
theorem dX6_notCopied_53 : decode cX6_notCopied 53 = .ok (.ldc 87, 2) := by decide +kernel
theorem dX6_notCopied_55 : decode cX6_notCopied 55 = .ok (.ireturn, 1) := by decide +kernel
theorem dX6_notCopied_56 : decode cX6_notCopied 56 = .ok (.iload 5, 2) := by decide +kernel
theorem dX6_notCopied_58 : decode cX6_notCopied 58 = .ok (.ifCond .lt 43, 3) := by decide +kernel
theorem dX6_notCopied_61 : decode cX6_notCopied 61 = .ok (.iload_n 2, 1) := by decide +kernel
theorem dX6_notCopied_62 : decode cX6_notCopied 62 = .ok (.ifCond .lt 39, 3) := by decide +kernel
theorem dX6_notCopied_65 : decode cX6_notCopied 65 = .ok (.iload 4, 2) := by decide +kernel
theorem dX6_notCopied_67 : decode cX6_notCopied 67 = .ok (.ifCond .lt 34, 3) := by decide +kernel
theorem dX6_notCopied_70 : decode cX6_notCopied 70 = .ok (.iload 5, 2) := by decide +kernel
theorem dX6_notCopied_72 : decode cX6_notCopied 72 = .ok (.aload_n 0, 1) := by decide +kernel
theorem dX6_notCopied_73 : decode cX6_notCopied 73 = .ok (.getfield 28, 3) := by decide +kernel
theorem dX6_notCopied_76 : decode cX6_notCopied 76 = .ok (.iload_n 1, 1) := by decide +kernel
theorem dX6_notCopied_77 : decode cX6_notCopied 77 = .ok (.iaload, 1) := by decide +kernel
theorem dX6_notCopied_78 : decode cX6_notCopied 78 = .ok (.iload_n 2, 1) := by decide +kernel
theorem dX6_notCopied_79 : decode cX6_notCopied 79 = .ok (.isub, 1) := by decide +kernel
theorem dX6_notCopied_80 : decode cX6_notCopied 80 = .ok (.if_icmp .gt 21, 3) := by decide +kernel
theorem dX6_notCopied_83 : decode cX6_notCopied 83 = .ok (.iload 5, 2) := by decide +kernel
theorem dX6_notCopied_85 : decode cX6_notCopied 85 = .ok (.aload_n 0, 1) := by decide +kernel
theorem dX6_notCopied_86 : decode cX6_notCopied 86 = .ok (.getfield 28, 3) := by decide +kernel
theorem dX6_notCopied_89 : decode cX6_notCopied 89 = .ok (.iload_n 3, 1) := by decide +kernel
theorem dX6_notCopied_90 : decode cX6_notCopied 90 = .ok (.iaload, 1) := by decide +kernel
theorem dX6_notCopied_91 : decode cX6_notCopied 91 = .ok (.iload 4, 2) := by decide +kernel
theorem dX6_notCopied_93 : decode cX6_notCopied 93 = .ok (.isub, 1) := by decide +kernel
theorem dX6_notCopied_94 : decode cX6_notCopied 94 = .ok (.if_icmp .gt 7, 3) := by decide +kernel
theorem dX6_notCopied_97 : decode cX6_notCopied 97 = .ok (.iconst 1, 1) := by decide +kernel
theorem dX6_notCopied_98 : decode cX6_notCopied 98 = .ok (.goto 4, 3) := by decide +kernel
theorem dX6_notCopied_101 : decode cX6_notCopied 101 = .ok (.iconst 0, 1) := by decide +kernel
theorem dX6_notCopied_102 : decode cX6_notCopied 102 = .ok (.istore 6, 2) := by decide +kernel
theorem dX6_notCopied_104 : decode cX6_notCopied 104 = .ok (.iload 6, 2) := by decide +kernel
theorem dX6_notCopied_106 : decode cX6_notCopied 106 = .ok (.ifCond .eq 7, 3) := by decide +kernel
theorem dX6_notCopied_109 : decode cX6_notCopied 109 = .ok (.iconst 0, 1) := by decide +kernel
theorem dX6_notCopied_110 : decode cX6_notCopied 110 = .ok (.goto 5, 3) := by decide +kernel
theorem dX6_notCopied_113 : decode cX6_notCopied 113 = .ok (.ldc 35, 2) := by decide +kernel
theorem dX6_notCopied_115 : decode cX6_notCopied 115 = .ok (.ireturn, 1) := by decide +kernel
theorem dX6_copy_0 : decode cX6_copy 0 = .ok (.aload_n 0, 1) := by decide +kernel
theorem dX6_copy_1 : decode cX6_copy 1 = .ok (.iload_n 1, 1) := by decide +kernel
theorem dX6_copy_2 : decode cX6_copy 2 = .ok (.iload_n 2, 1) := by decide +kernel
theorem dX6_copy_3 : decode cX6_copy 3 = .ok (.iload_n 3, 1) := by decide +kernel
theorem dX6_copy_4 : decode cX6_copy 4 = .ok (.iload 4, 2) := by decide +kernel
theorem dX6_copy_6 : decode cX6_copy 6 = .ok (.iload 5, 2) := by decide +kernel
theorem dX6_copy_8 : decode cX6_copy 8 = .ok (.invokevirtual 214, 3) := by decide +kernel
theorem dX6_copy_11 : decode cX6_copy 11 = .ok (.istore 6, 2) := by decide +kernel
theorem dX6_copy_13 : decode cX6_copy 13 = .ok (.iload 6, 2) := by decide +kernel
theorem dX6_copy_15 : decode cX6_copy 15 = .ok (.ifCond .eq 10, 3) := by decide +kernel
theorem dX6_copy_18 : decode cX6_copy 18 = .ok (.aload_n 0, 1) := by decide +kernel
theorem dX6_copy_19 : decode cX6_copy 19 = .ok (.iload 6, 2) := by decide +kernel
theorem dX6_copy_21 : decode cX6_copy 21 = .ok (.invokevirtual 37, 3) := by decide +kernel
theorem dX6_copy_24 : decode cX6_copy 24 = .ok (.ireturn, 1) := by decide +kernel
theorem dX6_copy_25 : decode cX6_copy 25 = .ok (.iconst 0, 1) := by decide +kernel
theorem dX6_copy_26 : decode cX6_copy 26 = .ok (.istore 7, 2) := by decide +kernel
theorem dX6_copy_28 : decode cX6_copy 28 = .ok (.iload 7, 2) := by decide +kernel
theorem dX6_copy_30 : decode cX6_copy 30 = .ok (.iload 5, 2) := by decide +kernel
theorem dX6_copy_32 : decode cX6_copy 32 = .ok (.if_icmp .ge 58, 3) := by decide +kernel
theorem dX6_copy_35 : decode cX6_copy 35 = .ok (.iload_n 2, 1) := by decide +kernel
theorem dX6_copy_36 : decode cX6_copy 36 = .ok (.iload 4, 2) := by decide +kernel
theorem dX6_copy_38 : decode cX6_copy 38 = .ok (.if_icmp .ge 13, 3) := by decide +kernel
theorem dX6_copy_41 : decode cX6_copy 41 = .ok (.iload 5, 2) := by decide +kernel
theorem dX6_copy_43 : decode cX6_copy 43 = .ok (.iconst 1, 1) := by decide +kernel
theorem dX6_copy_44 : decode cX6_copy 44 = .ok (.isub, 1) := by decide +kernel
theorem dX6_copy_45 : decode cX6_copy 45 = .ok (.iload 7, 2) := by decide +kernel
theorem dX6_copy_47 : decode cX6_copy 47 = .ok (.isub, 1) := by decide +kernel
theorem dX6_copy_48 : decode cX6_copy 48 = .ok (.goto 5, 3) := by decide +kernel
theorem dX6_copy_51 : decode cX6_copy 51 = .ok (.iload 7, 2) := by decide +kernel
theorem dX6_copy_53 : decode cX6_copy 53 = .ok (.istore 8, 2) := by decide +kernel
theorem dX6_copy_55 : decode cX6_copy 55 = .ok (.aload_n 0, 1) := by decide +kernel
theorem dX6_copy_56 : decode cX6_copy 56 = .ok (.getfield 31, 3) := by decide +kernel
theorem dX6_copy_59 : decode cX6_copy 59 = .ok (.bipush 40, 2) := by decide +kernel
theorem dX6_copy_61 : decode cX6_copy 61 = .ok (.iload_n 3, 1) := by decide +kernel
theorem dX6_copy_62 : decode cX6_copy 62 = .ok (.imul, 1) := by decide +kernel
theorem dX6_copy_63 : decode cX6_copy 63 = .ok (.iload 4, 2) := by decide +kernel
theorem dX6_copy_65 : decode cX6_copy 65 = .ok (.iadd, 1) := by decide +kernel
theorem dX6_copy_66 : decode cX6_copy 66 = .ok (.iload 8, 2) := by decide +kernel
theorem dX6_copy_68 : decode cX6_copy 68 = .ok (.iadd, 1) := by decide +kernel
theorem dX6_copy_69 : decode cX6_copy 69 = .ok (.aload_n 0, 1) := by decide +kernel
theorem dX6_copy_70 : decode cX6_copy 70 = .ok (.getfield 31, 3) := by decide +kernel
theorem dX6_copy_73 : decode cX6_copy 73 = .ok (.bipush 40, 2) := by decide +kernel
theorem dX6_copy_75 : decode cX6_copy 75 = .ok (.iload_n 1, 1) := by decide +kernel
theorem dX6_copy_76 : decode cX6_copy 76 = .ok (.imul, 1) := by decide +kernel
theorem dX6_copy_77 : decode cX6_copy 77 = .ok (.iload_n 2, 1) := by decide +kernel
theorem dX6_copy_78 : decode cX6_copy 78 = .ok (.iadd, 1) := by decide +kernel
theorem dX6_copy_79 : decode cX6_copy 79 = .ok (.iload 8, 2) := by decide +kernel
theorem dX6_copy_81 : decode cX6_copy 81 = .ok (.iadd, 1) := by decide +kernel
theorem dX6_copy_82 : decode cX6_copy 82 = .ok (.laload, 1) := by decide +kernel
theorem dX6_copy_83 : decode cX6_copy 83 = .ok (.lastore, 1) := by decide +kernel
theorem dX6_copy_84 : decode cX6_copy 84 = .ok (.iinc 7 1, 3) := by decide +kernel
theorem dX6_copy_87 : decode cX6_copy 87 = .ok (.goto (-59), 3) := by decide +kernel
theorem dX6_copy_90 : decode cX6_copy 90 = .ok (.iload 5, 2) := by decide +kernel
theorem dX6_copy_92 : decode cX6_copy 92 = .ok (.ireturn, 1) := by decide +kernel
theorem dX6_lays_0 : decode cX6_lays 0 = .ok (.aload_n 0, 1) := by decide +kernel
theorem dX6_lays_1 : decode cX6_lays 1 = .ok (.iload_n 1, 1) := by decide +kernel
theorem dX6_lays_2 : decode cX6_lays 2 = .ok (.invokevirtual 207, 3) := by decide +kernel
theorem dX6_lays_5 : decode cX6_lays 5 = .ok (.istore_n 2, 1) := by decide +kernel
theorem dX6_lays_6 : decode cX6_lays 6 = .ok (.iload_n 2, 1) := by decide +kernel
theorem dX6_lays_7 : decode cX6_lays 7 = .ok (.ifCond .eq 9, 3) := by decide +kernel
theorem dX6_lays_10 : decode cX6_lays 10 = .ok (.aload_n 0, 1) := by decide +kernel
theorem dX6_lays_11 : decode cX6_lays 11 = .ok (.iload_n 2, 1) := by decide +kernel
theorem dX6_lays_12 : decode cX6_lays 12 = .ok (.invokevirtual 37, 3) := by decide +kernel
theorem dX6_lays_15 : decode cX6_lays 15 = .ok (.ireturn, 1) := by decide +kernel
theorem dX6_lays_16 : decode cX6_lays 16 = .ok (.iconst 0, 1) := by decide +kernel
theorem dX6_lays_17 : decode cX6_lays 17 = .ok (.istore_n 3, 1) := by decide +kernel
theorem dX6_lays_18 : decode cX6_lays 18 = .ok (.iconst 0, 1) := by decide +kernel
theorem dX6_lays_19 : decode cX6_lays 19 = .ok (.istore 4, 2) := by decide +kernel
theorem dX6_lays_21 : decode cX6_lays 21 = .ok (.iload 4, 2) := by decide +kernel
theorem dX6_lays_23 : decode cX6_lays 23 = .ok (.aload_n 0, 1) := by decide +kernel
theorem dX6_lays_24 : decode cX6_lays 24 = .ok (.getfield 28, 3) := by decide +kernel
theorem dX6_lays_27 : decode cX6_lays 27 = .ok (.iload_n 1, 1) := by decide +kernel
theorem dX6_lays_28 : decode cX6_lays 28 = .ok (.iaload, 1) := by decide +kernel
theorem dX6_lays_29 : decode cX6_lays 29 = .ok (.if_icmp .ge 64, 3) := by decide +kernel
theorem dX6_lays_32 : decode cX6_lays 32 = .ok (.iload 4, 2) := by decide +kernel
theorem dX6_lays_34 : decode cX6_lays 34 = .ok (.aload_n 0, 1) := by decide +kernel
theorem dX6_lays_35 : decode cX6_lays 35 = .ok (.getfield 9, 3) := by decide +kernel
theorem dX6_lays_38 : decode cX6_lays 38 = .ok (.iconst 1, 1) := by decide +kernel
theorem dX6_lays_39 : decode cX6_lays 39 = .ok (.iaload, 1) := by decide +kernel
theorem dX6_lays_40 : decode cX6_lays 40 = .ok (.if_icmp .ge 53, 3) := by decide +kernel
theorem dX6_lays_43 : decode cX6_lays 43 = .ok (.aload_n 0, 1) := by decide +kernel
theorem dX6_lays_44 : decode cX6_lays 44 = .ok (.getfield 31, 3) := by decide +kernel
theorem dX6_lays_47 : decode cX6_lays 47 = .ok (.bipush 40, 2) := by decide +kernel
theorem dX6_lays_49 : decode cX6_lays 49 = .ok (.iload_n 1, 1) := by decide +kernel
theorem dX6_lays_50 : decode cX6_lays 50 = .ok (.imul, 1) := by decide +kernel
theorem dX6_lays_51 : decode cX6_lays 51 = .ok (.iload 4, 2) := by decide +kernel
theorem dX6_lays_53 : decode cX6_lays 53 = .ok (.iadd, 1) := by decide +kernel
theorem dX6_lays_54 : decode cX6_lays 54 = .ok (.laload, 1) := by decide +kernel
theorem dX6_lays_55 : decode cX6_lays 55 = .ok (.iconst 0, 1) := by decide +kernel
theorem dX6_lays_56 : decode cX6_lays 56 = .ok (.bipush 99, 2) := by decide +kernel
theorem dX6_lays_58 : decode cX6_lays 58 = .ok (.invokestatic 41, 3) := by decide +kernel
theorem dX6_lays_61 : decode cX6_lays 61 = .ok (.ifCond .eq 26, 3) := by decide +kernel
theorem dX6_lays_64 : decode cX6_lays 64 = .ok (.aload_n 0, 1) := by decide +kernel
theorem dX6_lays_65 : decode cX6_lays 65 = .ok (.iload 4, 2) := by decide +kernel
theorem dX6_lays_67 : decode cX6_lays 67 = .ok (.iconst 1, 1) := by decide +kernel
theorem dX6_lays_68 : decode cX6_lays 68 = .ok (.aload_n 0, 1) := by decide +kernel
theorem dX6_lays_69 : decode cX6_lays 69 = .ok (.getfield 31, 3) := by decide +kernel
theorem dX6_lays_72 : decode cX6_lays 72 = .ok (.bipush 40, 2) := by decide +kernel
theorem dX6_lays_74 : decode cX6_lays 74 = .ok (.iload_n 1, 1) := by decide +kernel
theorem dX6_lays_75 : decode cX6_lays 75 = .ok (.imul, 1) := by decide +kernel
theorem dX6_lays_76 : decode cX6_lays 76 = .ok (.iload 4, 2) := by decide +kernel
theorem dX6_lays_78 : decode cX6_lays 78 = .ok (.iadd, 1) := by decide +kernel
theorem dX6_lays_79 : decode cX6_lays 79 = .ok (.laload, 1) := by decide +kernel
theorem dX6_lays_80 : decode cX6_lays 80 = .ok (.l2i, 1) := by decide +kernel
theorem dX6_lays_81 : decode cX6_lays 81 = .ok (.invokevirtual 63, 3) := by decide +kernel
theorem dX6_lays_84 : decode cX6_lays 84 = .ok (.iinc 3 1, 3) := by decide +kernel
theorem dX6_lays_87 : decode cX6_lays 87 = .ok (.iinc 4 1, 3) := by decide +kernel
theorem dX6_lays_90 : decode cX6_lays 90 = .ok (.goto (-69), 3) := by decide +kernel
theorem dX6_lays_93 : decode cX6_lays 93 = .ok (.iload_n 3, 1) := by decide +kernel
theorem dX6_lays_94 : decode cX6_lays 94 = .ok (.ireturn, 1) := by decide +kernel
theorem dX6_notAsked_0 : decode cX6_notAsked 0 = .ok (.aload_n 0, 1) := by decide +kernel
theorem dX6_notAsked_1 : decode cX6_notAsked 1 = .ok (.iload_n 1, 1) := by decide +kernel
theorem dX6_notAsked_2 : decode cX6_notAsked 2 = .ok (.invokevirtual 207, 3) := by decide +kernel
theorem dX6_notAsked_5 : decode cX6_notAsked 5 = .ok (.istore_n 3, 1) := by decide +kernel
theorem dX6_notAsked_6 : decode cX6_notAsked 6 = .ok (.iload_n 3, 1) := by decide +kernel
theorem dX6_notAsked_7 : decode cX6_notAsked 7 = .ok (.ifCond .ne 16, 3) := by decide +kernel
theorem dX6_notAsked_10 : decode cX6_notAsked 10 = .ok (.aload_n 0, 1) := by decide +kernel
theorem dX6_notAsked_11 : decode cX6_notAsked 11 = .ok (.iload_n 2, 1) := by decide +kernel
theorem dX6_notAsked_12 : decode cX6_notAsked 12 = .ok (.invokevirtual 45, 3) := by decide +kernel
theorem dX6_notAsked_15 : decode cX6_notAsked 15 = .ok (.ifCond .ne 8, 3) := by decide +kernel
theorem dX6_notAsked_18 : decode cX6_notAsked 18 = .ok (.ldc 35, 2) := by decide +kernel
theorem dX6_notAsked_20 : decode cX6_notAsked 20 = .ok (.goto 4, 3) := by decide +kernel
theorem dX6_notAsked_23 : decode cX6_notAsked 23 = .ok (.iload_n 3, 1) := by decide +kernel
theorem dX6_notAsked_24 : decode cX6_notAsked 24 = .ok (.ireturn, 1) := by decide +kernel
theorem dX6_book_0 : decode cX6_book 0 = .ok (.aload_n 0, 1) := by decide +kernel
theorem dX6_book_1 : decode cX6_book 1 = .ok (.iload_n 1, 1) := by decide +kernel
theorem dX6_book_2 : decode cX6_book 2 = .ok (.iload_n 2, 1) := by decide +kernel
theorem dX6_book_3 : decode cX6_book 3 = .ok (.invokevirtual 218, 3) := by decide +kernel
theorem dX6_book_6 : decode cX6_book 6 = .ok (.istore_n 3, 1) := by decide +kernel
theorem dX6_book_7 : decode cX6_book 7 = .ok (.iload_n 3, 1) := by decide +kernel
theorem dX6_book_8 : decode cX6_book 8 = .ok (.ifCond .eq 9, 3) := by decide +kernel
theorem dX6_book_11 : decode cX6_book 11 = .ok (.aload_n 0, 1) := by decide +kernel
theorem dX6_book_12 : decode cX6_book 12 = .ok (.iload_n 3, 1) := by decide +kernel
theorem dX6_book_13 : decode cX6_book 13 = .ok (.invokevirtual 37, 3) := by decide +kernel
theorem dX6_book_16 : decode cX6_book 16 = .ok (.ireturn, 1) := by decide +kernel
theorem dX6_book_17 : decode cX6_book 17 = .ok (.aload_n 0, 1) := by decide +kernel
theorem dX6_book_18 : decode cX6_book 18 = .ok (.invokevirtual 123, 3) := by decide +kernel
theorem dX6_book_21 : decode cX6_book 21 = .ok (.iconst 0, 1) := by decide +kernel
theorem dX6_book_22 : decode cX6_book 22 = .ok (.istore 4, 2) := by decide +kernel
theorem dX6_book_24 : decode cX6_book 24 = .ok (.iload 4, 2) := by decide +kernel
theorem dX6_book_26 : decode cX6_book 26 = .ok (.aload_n 0, 1) := by decide +kernel
theorem dX6_book_27 : decode cX6_book 27 = .ok (.getfield 28, 3) := by decide +kernel
theorem dX6_book_30 : decode cX6_book 30 = .ok (.iload_n 1, 1) := by decide +kernel
theorem dX6_book_31 : decode cX6_book 31 = .ok (.iaload, 1) := by decide +kernel
theorem dX6_book_32 : decode cX6_book 32 = .ok (.if_icmp .ge 41, 3) := by decide +kernel
theorem dX6_book_35 : decode cX6_book 35 = .ok (.aload_n 0, 1) := by decide +kernel
theorem dX6_book_36 : decode cX6_book 36 = .ok (.getfield 31, 3) := by decide +kernel
theorem dX6_book_39 : decode cX6_book 39 = .ok (.bipush 40, 2) := by decide +kernel
theorem dX6_book_41 : decode cX6_book 41 = .ok (.iload_n 1, 1) := by decide +kernel
theorem dX6_book_42 : decode cX6_book 42 = .ok (.imul, 1) := by decide +kernel
theorem dX6_book_43 : decode cX6_book 43 = .ok (.iload 4, 2) := by decide +kernel
theorem dX6_book_45 : decode cX6_book 45 = .ok (.iadd, 1) := by decide +kernel
theorem dX6_book_46 : decode cX6_book 46 = .ok (.aload_n 0, 1) := by decide +kernel
theorem dX6_book_47 : decode cX6_book 47 = .ok (.getfield 25, 3) := by decide +kernel
theorem dX6_book_50 : decode cX6_book 50 = .ok (.iload_n 1, 1) := by decide +kernel
theorem dX6_book_51 : decode cX6_book 51 = .ok (.iaload, 1) := by decide +kernel
theorem dX6_book_52 : decode cX6_book 52 = .ok (.aload_n 0, 1) := by decide +kernel
theorem dX6_book_53 : decode cX6_book 53 = .ok (.iload_n 2, 1) := by decide +kernel
theorem dX6_book_54 : decode cX6_book 54 = .ok (.iconst 1, 1) := by decide +kernel
theorem dX6_book_55 : decode cX6_book 55 = .ok (.invokevirtual 49, 3) := by decide +kernel
theorem dX6_book_58 : decode cX6_book 58 = .ok (.i2l, 1) := by decide +kernel
theorem dX6_book_59 : decode cX6_book 59 = .ok (.invokestatic 210, 3) := by decide +kernel
theorem dX6_book_62 : decode cX6_book 62 = .ok (.lastore, 1) := by decide +kernel
theorem dX6_book_63 : decode cX6_book 63 = .ok (.aload_n 0, 1) := by decide +kernel
theorem dX6_book_64 : decode cX6_book 64 = .ok (.invokevirtual 102, 3) := by decide +kernel
theorem dX6_book_67 : decode cX6_book 67 = .ok (.iinc 4 1, 3) := by decide +kernel
theorem dX6_book_70 : decode cX6_book 70 = .ok (.goto (-46), 3) := by decide +kernel
theorem dX6_book_73 : decode cX6_book 73 = .ok (.aload_n 0, 1) := by decide +kernel
theorem dX6_book_74 : decode cX6_book 74 = .ok (.invokevirtual 126, 3) := by decide +kernel
theorem dX6_book_77 : decode cX6_book 77 = .ok (.aload_n 0, 1) := by decide +kernel
theorem dX6_book_78 : decode cX6_book 78 = .ok (.getfield 28, 3) := by decide +kernel
theorem dX6_book_81 : decode cX6_book 81 = .ok (.iload_n 1, 1) := by decide +kernel
theorem dX6_book_82 : decode cX6_book 82 = .ok (.iaload, 1) := by decide +kernel
theorem dX6_book_83 : decode cX6_book 83 = .ok (.ireturn, 1) := by decide +kernel
theorem dX6_isBook_0 : decode cX6_isBook 0 = .ok (.iconst 1, 1) := by decide +kernel
theorem dX6_isBook_1 : decode cX6_isBook 1 = .ok (.istore_n 3, 1) := by decide +kernel
theorem dX6_isBook_2 : decode cX6_isBook 2 = .ok (.iconst 0, 1) := by decide +kernel
theorem dX6_isBook_3 : decode cX6_isBook 3 = .ok (.istore 4, 2) := by decide +kernel
theorem dX6_isBook_5 : decode cX6_isBook 5 = .ok (.iload 4, 2) := by decide +kernel
theorem dX6_isBook_7 : decode cX6_isBook 7 = .ok (.aload_n 0, 1) := by decide +kernel
theorem dX6_isBook_8 : decode cX6_isBook 8 = .ok (.getfield 28, 3) := by decide +kernel
theorem dX6_isBook_11 : decode cX6_isBook 11 = .ok (.iload_n 1, 1) := by decide +kernel
theorem dX6_isBook_12 : decode cX6_isBook 12 = .ok (.iaload, 1) := by decide +kernel
theorem dX6_isBook_13 : decode cX6_isBook 13 = .ok (.if_icmp .ge 46, 3) := by decide +kernel
theorem dX6_isBook_16 : decode cX6_isBook 16 = .ok (.iload_n 3, 1) := by decide +kernel
theorem dX6_isBook_17 : decode cX6_isBook 17 = .ok (.ifCond .eq 42, 3) := by decide +kernel
theorem dX6_isBook_20 : decode cX6_isBook 20 = .ok (.aload_n 0, 1) := by decide +kernel
theorem dX6_isBook_21 : decode cX6_isBook 21 = .ok (.getfield 31, 3) := by decide +kernel
theorem dX6_isBook_24 : decode cX6_isBook 24 = .ok (.bipush 40, 2) := by decide +kernel
theorem dX6_isBook_26 : decode cX6_isBook 26 = .ok (.iload_n 1, 1) := by decide +kernel
theorem dX6_isBook_27 : decode cX6_isBook 27 = .ok (.imul, 1) := by decide +kernel
theorem dX6_isBook_28 : decode cX6_isBook 28 = .ok (.iload 4, 2) := by decide +kernel
theorem dX6_isBook_30 : decode cX6_isBook 30 = .ok (.iadd, 1) := by decide +kernel
theorem dX6_isBook_31 : decode cX6_isBook 31 = .ok (.laload, 1) := by decide +kernel
theorem dX6_isBook_32 : decode cX6_isBook 32 = .ok (.aload_n 0, 1) := by decide +kernel
theorem dX6_isBook_33 : decode cX6_isBook 33 = .ok (.iload_n 2, 1) := by decide +kernel
theorem dX6_isBook_34 : decode cX6_isBook 34 = .ok (.iconst 1, 1) := by decide +kernel
theorem dX6_isBook_35 : decode cX6_isBook 35 = .ok (.invokevirtual 49, 3) := by decide +kernel
theorem dX6_isBook_38 : decode cX6_isBook 38 = .ok (.i2l, 1) := by decide +kernel
theorem dX6_isBook_39 : decode cX6_isBook 39 = .ok (.lcmp, 1) := by decide +kernel
theorem dX6_isBook_40 : decode cX6_isBook 40 = .ok (.ifCond .ne 7, 3) := by decide +kernel
theorem dX6_isBook_43 : decode cX6_isBook 43 = .ok (.iconst 1, 1) := by decide +kernel
theorem dX6_isBook_44 : decode cX6_isBook 44 = .ok (.goto 4, 3) := by decide +kernel
theorem dX6_isBook_47 : decode cX6_isBook 47 = .ok (.iconst 0, 1) := by decide +kernel
theorem dX6_isBook_48 : decode cX6_isBook 48 = .ok (.istore_n 3, 1) := by decide +kernel
theorem dX6_isBook_49 : decode cX6_isBook 49 = .ok (.aload_n 0, 1) := by decide +kernel
theorem dX6_isBook_50 : decode cX6_isBook 50 = .ok (.invokevirtual 102, 3) := by decide +kernel
theorem dX6_isBook_53 : decode cX6_isBook 53 = .ok (.iinc 4 1, 3) := by decide +kernel
theorem dX6_isBook_56 : decode cX6_isBook 56 = .ok (.goto (-51), 3) := by decide +kernel
theorem dX6_isBook_59 : decode cX6_isBook 59 = .ok (.aload_n 0, 1) := by decide +kernel
theorem dX6_isBook_60 : decode cX6_isBook 60 = .ok (.invokevirtual 126, 3) := by decide +kernel
theorem dX6_isBook_63 : decode cX6_isBook 63 = .ok (.iload_n 3, 1) := by decide +kernel
theorem dX6_isBook_64 : decode cX6_isBook 64 = .ok (.ireturn, 1) := by decide +kernel
theorem dX6_read_0 : decode cX6_read 0 = .ok (.aload_n 0, 1) := by decide +kernel
theorem dX6_read_1 : decode cX6_read 1 = .ok (.iload_n 1, 1) := by decide +kernel
theorem dX6_read_2 : decode cX6_read 2 = .ok (.iload_n 2, 1) := by decide +kernel
theorem dX6_read_3 : decode cX6_read 3 = .ok (.invokevirtual 218, 3) := by decide +kernel
theorem dX6_read_6 : decode cX6_read 6 = .ok (.istore_n 3, 1) := by decide +kernel
theorem dX6_read_7 : decode cX6_read 7 = .ok (.iload_n 3, 1) := by decide +kernel
theorem dX6_read_8 : decode cX6_read 8 = .ok (.ifCond .eq 9, 3) := by decide +kernel
theorem dX6_read_11 : decode cX6_read 11 = .ok (.aload_n 0, 1) := by decide +kernel
theorem dX6_read_12 : decode cX6_read 12 = .ok (.iload_n 3, 1) := by decide +kernel
theorem dX6_read_13 : decode cX6_read 13 = .ok (.invokevirtual 37, 3) := by decide +kernel
theorem dX6_read_16 : decode cX6_read 16 = .ok (.ireturn, 1) := by decide +kernel
theorem dX6_read_17 : decode cX6_read 17 = .ok (.aload_n 0, 1) := by decide +kernel
theorem dX6_read_18 : decode cX6_read 18 = .ok (.invokevirtual 123, 3) := by decide +kernel
theorem dX6_read_21 : decode cX6_read 21 = .ok (.iconst 0, 1) := by decide +kernel
theorem dX6_read_22 : decode cX6_read 22 = .ok (.istore 4, 2) := by decide +kernel
theorem dX6_read_24 : decode cX6_read 24 = .ok (.iconst 0, 1) := by decide +kernel
theorem dX6_read_25 : decode cX6_read 25 = .ok (.istore 5, 2) := by decide +kernel
theorem dX6_read_27 : decode cX6_read 27 = .ok (.iload 5, 2) := by decide +kernel
theorem dX6_read_29 : decode cX6_read 29 = .ok (.sipush 600, 3) := by decide +kernel
theorem dX6_read_32 : decode cX6_read 32 = .ok (.if_icmp .ge 50, 3) := by decide +kernel
theorem dX6_read_35 : decode cX6_read 35 = .ok (.aload_n 0, 1) := by decide +kernel
theorem dX6_read_36 : decode cX6_read 36 = .ok (.iload_n 2, 1) := by decide +kernel
theorem dX6_read_37 : decode cX6_read 37 = .ok (.iconst 0, 1) := by decide +kernel
theorem dX6_read_38 : decode cX6_read 38 = .ok (.iload 5, 2) := by decide +kernel
theorem dX6_read_40 : decode cX6_read 40 = .ok (.bipush 100, 2) := by decide +kernel
theorem dX6_read_42 : decode cX6_read 42 = .ok (.idiv, 1) := by decide +kernel
theorem dX6_read_43 : decode cX6_read 43 = .ok (.invokevirtual 63, 3) := by decide +kernel
theorem dX6_read_46 : decode cX6_read 46 = .ok (.aload_n 0, 1) := by decide +kernel
theorem dX6_read_47 : decode cX6_read 47 = .ok (.iload_n 2, 1) := by decide +kernel
theorem dX6_read_48 : decode cX6_read 48 = .ok (.iconst 5, 1) := by decide +kernel
theorem dX6_read_49 : decode cX6_read 49 = .ok (.iload 5, 2) := by decide +kernel
theorem dX6_read_51 : decode cX6_read 51 = .ok (.bipush 100, 2) := by decide +kernel
theorem dX6_read_53 : decode cX6_read 53 = .ok (.irem, 1) := by decide +kernel
theorem dX6_read_54 : decode cX6_read 54 = .ok (.invokevirtual 63, 3) := by decide +kernel
theorem dX6_read_57 : decode cX6_read 57 = .ok (.iload 4, 2) := by decide +kernel
theorem dX6_read_59 : decode cX6_read 59 = .ok (.aload_n 0, 1) := by decide +kernel
theorem dX6_read_60 : decode cX6_read 60 = .ok (.iload_n 1, 1) := by decide +kernel
theorem dX6_read_61 : decode cX6_read 61 = .ok (.iload_n 2, 1) := by decide +kernel
theorem dX6_read_62 : decode cX6_read 62 = .ok (.invokevirtual 221, 3) := by decide +kernel
theorem dX6_read_65 : decode cX6_read 65 = .ok (.ifCond .eq 7, 3) := by decide +kernel
theorem dX6_read_68 : decode cX6_read 68 = .ok (.iconst 1, 1) := by decide +kernel
theorem dX6_read_69 : decode cX6_read 69 = .ok (.goto 4, 3) := by decide +kernel
theorem dX6_read_72 : decode cX6_read 72 = .ok (.iconst 0, 1) := by decide +kernel
theorem dX6_read_73 : decode cX6_read 73 = .ok (.iadd, 1) := by decide +kernel
theorem dX6_read_74 : decode cX6_read 74 = .ok (.istore 4, 2) := by decide +kernel
theorem dX6_read_76 : decode cX6_read 76 = .ok (.iinc 5 1, 3) := by decide +kernel
theorem dX6_read_79 : decode cX6_read 79 = .ok (.goto (-52), 3) := by decide +kernel
theorem dX6_read_82 : decode cX6_read 82 = .ok (.iload 4, 2) := by decide +kernel
theorem dX6_read_84 : decode cX6_read 84 = .ok (.ireturn, 1) := by decide +kernel
theorem dX6_image_0 : decode cX6_image 0 = .ok (.aload_n 0, 1) := by decide +kernel
theorem dX6_image_1 : decode cX6_image 1 = .ok (.getfield 9, 3) := by decide +kernel
theorem dX6_image_4 : decode cX6_image 4 = .ok (.aload_n 0, 1) := by decide +kernel
theorem dX6_image_5 : decode cX6_image 5 = .ok (.getfield 13, 3) := by decide +kernel
theorem dX6_image_8 : decode cX6_image 8 = .ok (.invokestatic 119, 3) := by decide +kernel
theorem dX6_image_11 : decode cX6_image 11 = .ok (.aload_n 0, 1) := by decide +kernel
theorem dX6_image_12 : decode cX6_image 12 = .ok (.iconst 1, 1) := by decide +kernel
theorem dX6_image_13 : decode cX6_image 13 = .ok (.putfield 224, 3) := by decide +kernel
theorem dX6_image_16 : decode cX6_image 16 = .ok (.iconst 1, 1) := by decide +kernel
theorem dX6_image_17 : decode cX6_image 17 = .ok (.ireturn, 1) := by decide +kernel
theorem dX6_undo_0 : decode cX6_undo 0 = .ok (.aload_n 0, 1) := by decide +kernel
theorem dX6_undo_1 : decode cX6_undo 1 = .ok (.getfield 224, 3) := by decide +kernel
theorem dX6_undo_4 : decode cX6_undo 4 = .ok (.ifCond .ne 10, 3) := by decide +kernel
theorem dX6_undo_7 : decode cX6_undo 7 = .ok (.aload_n 0, 1) := by decide +kernel
theorem dX6_undo_8 : decode cX6_undo 8 = .ok (.ldc 36, 2) := by decide +kernel
theorem dX6_undo_10 : decode cX6_undo 10 = .ok (.invokevirtual 37, 3) := by decide +kernel
theorem dX6_undo_13 : decode cX6_undo 13 = .ok (.ireturn, 1) := by decide +kernel
theorem dX6_undo_14 : decode cX6_undo 14 = .ok (.aload_n 0, 1) := by decide +kernel
theorem dX6_undo_15 : decode cX6_undo 15 = .ok (.getfield 13, 3) := by decide +kernel
theorem dX6_undo_18 : decode cX6_undo 18 = .ok (.aload_n 0, 1) := by decide +kernel
theorem dX6_undo_19 : decode cX6_undo 19 = .ok (.getfield 9, 3) := by decide +kernel
theorem dX6_undo_22 : decode cX6_undo 22 = .ok (.invokestatic 119, 3) := by decide +kernel
theorem dX6_undo_25 : decode cX6_undo 25 = .ok (.aload_n 0, 1) := by decide +kernel
theorem dX6_undo_26 : decode cX6_undo 26 = .ok (.getfield 9, 3) := by decide +kernel
theorem dX6_undo_29 : decode cX6_undo 29 = .ok (.iconst 1, 1) := by decide +kernel
theorem dX6_undo_30 : decode cX6_undo 30 = .ok (.iaload, 1) := by decide +kernel
theorem dX6_undo_31 : decode cX6_undo 31 = .ok (.ireturn, 1) := by decide +kernel
theorem dX6_tear_0 : decode cX6_tear 0 = .ok (.aload_n 0, 1) := by decide +kernel
theorem dX6_tear_1 : decode cX6_tear 1 = .ok (.getfield 224, 3) := by decide +kernel
theorem dX6_tear_4 : decode cX6_tear 4 = .ok (.ifCond .eq 7, 3) := by decide +kernel
theorem dX6_tear_7 : decode cX6_tear 7 = .ok (.iconst 1, 1) := by decide +kernel
theorem dX6_tear_8 : decode cX6_tear 8 = .ok (.goto 4, 3) := by decide +kernel
theorem dX6_tear_11 : decode cX6_tear 11 = .ok (.iconst 0, 1) := by decide +kernel
theorem dX6_tear_12 : decode cX6_tear 12 = .ok (.istore_n 1, 1) := by decide +kernel
theorem dX6_tear_13 : decode cX6_tear 13 = .ok (.aload_n 0, 1) := by decide +kernel
theorem dX6_tear_14 : decode cX6_tear 14 = .ok (.iconst 0, 1) := by decide +kernel
theorem dX6_tear_15 : decode cX6_tear 15 = .ok (.putfield 224, 3) := by decide +kernel
theorem dX6_tear_18 : decode cX6_tear 18 = .ok (.iload_n 1, 1) := by decide +kernel
theorem dX6_tear_19 : decode cX6_tear 19 = .ok (.ireturn, 1) := by decide +kernel
theorem dX6_count_0 : decode cX6_count 0 = .ok (.iload_n 1, 1) := by decide +kernel
theorem dX6_count_1 : decode cX6_count 1 = .ok (.tableswitch 60 0 3 #[31, 38, 43, 53], 31) := by decide +kernel
theorem dX6_count_32 : decode cX6_count 32 = .ok (.aload_n 0, 1) := by decide +kernel
theorem dX6_count_33 : decode cX6_count 33 = .ok (.getfield 9, 3) := by decide +kernel
theorem dX6_count_36 : decode cX6_count 36 = .ok (.iconst 1, 1) := by decide +kernel
theorem dX6_count_37 : decode cX6_count 37 = .ok (.iaload, 1) := by decide +kernel
theorem dX6_count_38 : decode cX6_count 38 = .ok (.ireturn, 1) := by decide +kernel
theorem dX6_count_39 : decode cX6_count 39 = .ok (.aload_n 0, 1) := by decide +kernel
theorem dX6_count_40 : decode cX6_count 40 = .ok (.getfield 147, 3) := by decide +kernel
theorem dX6_count_43 : decode cX6_count 43 = .ok (.ireturn, 1) := by decide +kernel
theorem dX6_count_44 : decode cX6_count 44 = .ok (.aload_n 0, 1) := by decide +kernel
theorem dX6_count_45 : decode cX6_count 45 = .ok (.iconst 4, 1) := by decide +kernel
theorem dX6_count_46 : decode cX6_count 46 = .ok (.iconst (-1), 1) := by decide +kernel
theorem dX6_count_47 : decode cX6_count 47 = .ok (.invokevirtual 112, 3) := by decide +kernel
theorem dX6_count_50 : decode cX6_count 50 = .ok (.invokestatic 141, 3) := by decide +kernel
theorem dX6_count_53 : decode cX6_count 53 = .ok (.ireturn, 1) := by decide +kernel
theorem dX6_count_54 : decode cX6_count 54 = .ok (.aload_n 0, 1) := by decide +kernel
theorem dX6_count_55 : decode cX6_count 55 = .ok (.bipush 6, 2) := by decide +kernel
theorem dX6_count_57 : decode cX6_count 57 = .ok (.invokevirtual 109, 3) := by decide +kernel
theorem dX6_count_60 : decode cX6_count 60 = .ok (.ireturn, 1) := by decide +kernel
theorem dX6_count_61 : decode cX6_count 61 = .ok (.aload_n 0, 1) := by decide +kernel
theorem dX6_count_62 : decode cX6_count 62 = .ok (.ldc 35, 2) := by decide +kernel
theorem dX6_count_64 : decode cX6_count 64 = .ok (.invokevirtual 37, 3) := by decide +kernel
theorem dX6_count_67 : decode cX6_count 67 = .ok (.ireturn, 1) := by decide +kernel
theorem dX6_status_0 : decode cX6_status 0 = .ok (.iload_n 1, 1) := by decide +kernel
theorem dX6_status_1 : decode cX6_status 1 = .ok (.i2l, 1) := by decide +kernel
theorem dX6_status_2 : decode cX6_status 2 = .ok (.iconst (-1), 1) := by decide +kernel
theorem dX6_status_3 : decode cX6_status 3 = .ok (.bipush 6, 2) := by decide +kernel
theorem dX6_status_5 : decode cX6_status 5 = .ok (.invokestatic 41, 3) := by decide +kernel
theorem dX6_status_8 : decode cX6_status 8 = .ok (.ifCond .ne 10, 3) := by decide +kernel
theorem dX6_status_11 : decode cX6_status 11 = .ok (.aload_n 0, 1) := by decide +kernel
theorem dX6_status_12 : decode cX6_status 12 = .ok (.ldc 35, 2) := by decide +kernel
theorem dX6_status_14 : decode cX6_status 14 = .ok (.invokevirtual 37, 3) := by decide +kernel
theorem dX6_status_17 : decode cX6_status 17 = .ok (.ireturn, 1) := by decide +kernel
theorem dX6_status_18 : decode cX6_status 18 = .ok (.iconst 0, 1) := by decide +kernel
theorem dX6_status_19 : decode cX6_status 19 = .ok (.istore_n 2, 1) := by decide +kernel
theorem dX6_status_20 : decode cX6_status 20 = .ok (.iconst 0, 1) := by decide +kernel
theorem dX6_status_21 : decode cX6_status 21 = .ok (.istore_n 3, 1) := by decide +kernel
theorem dX6_status_22 : decode cX6_status 22 = .ok (.iload_n 3, 1) := by decide +kernel
theorem dX6_status_23 : decode cX6_status 23 = .ok (.bipush 7, 2) := by decide +kernel
theorem dX6_status_25 : decode cX6_status 25 = .ok (.if_icmp .ge 31, 3) := by decide +kernel
theorem dX6_status_28 : decode cX6_status 28 = .ok (.iload_n 2, 1) := by decide +kernel
theorem dX6_status_29 : decode cX6_status 29 = .ok (.iload_n 1, 1) := by decide +kernel
theorem dX6_status_30 : decode cX6_status 30 = .ok (.ifCond .lt 8, 3) := by decide +kernel
theorem dX6_status_33 : decode cX6_status 33 = .ok (.iload_n 1, 1) := by decide +kernel
theorem dX6_status_34 : decode cX6_status 34 = .ok (.iload_n 3, 1) := by decide +kernel
theorem dX6_status_35 : decode cX6_status 35 = .ok (.if_icmp .ne 12, 3) := by decide +kernel
theorem dX6_status_38 : decode cX6_status 38 = .ok (.aload_n 0, 1) := by decide +kernel
theorem dX6_status_39 : decode cX6_status 39 = .ok (.getfield 19, 3) := by decide +kernel
theorem dX6_status_42 : decode cX6_status 42 = .ok (.iload_n 3, 1) := by decide +kernel
theorem dX6_status_43 : decode cX6_status 43 = .ok (.iaload, 1) := by decide +kernel
theorem dX6_status_44 : decode cX6_status 44 = .ok (.goto 4, 3) := by decide +kernel
theorem dX6_status_47 : decode cX6_status 47 = .ok (.iconst 0, 1) := by decide +kernel
theorem dX6_status_48 : decode cX6_status 48 = .ok (.iadd, 1) := by decide +kernel
theorem dX6_status_49 : decode cX6_status 49 = .ok (.istore_n 2, 1) := by decide +kernel
theorem dX6_status_50 : decode cX6_status 50 = .ok (.iinc 3 1, 3) := by decide +kernel
theorem dX6_status_53 : decode cX6_status 53 = .ok (.goto (-31), 3) := by decide +kernel
theorem dX6_status_56 : decode cX6_status 56 = .ok (.iload_n 2, 1) := by decide +kernel
theorem dX6_status_57 : decode cX6_status 57 = .ok (.ireturn, 1) := by decide +kernel
theorem dJ6_bitCount_0f7a4_0 : decode cJ6_bitCount_0f7a4 0 = .ok (.iload_n 0, 1) := by decide +kernel
theorem dJ6_bitCount_0f7a4_1 : decode cJ6_bitCount_0f7a4 1 = .ok (.iload_n 0, 1) := by decide +kernel
theorem dJ6_bitCount_0f7a4_2 : decode cJ6_bitCount_0f7a4 2 = .ok (.iconst 1, 1) := by decide +kernel
theorem dJ6_bitCount_0f7a4_3 : decode cJ6_bitCount_0f7a4 3 = .ok (.iushr, 1) := by decide +kernel
theorem dJ6_bitCount_0f7a4_4 : decode cJ6_bitCount_0f7a4 4 = .ok (.ldc_w 265, 3) := by decide +kernel
theorem dJ6_bitCount_0f7a4_7 : decode cJ6_bitCount_0f7a4 7 = .ok (.iand, 1) := by decide +kernel
theorem dJ6_bitCount_0f7a4_8 : decode cJ6_bitCount_0f7a4 8 = .ok (.isub, 1) := by decide +kernel
theorem dJ6_bitCount_0f7a4_9 : decode cJ6_bitCount_0f7a4 9 = .ok (.istore_n 0, 1) := by decide +kernel
theorem dJ6_bitCount_0f7a4_10 : decode cJ6_bitCount_0f7a4 10 = .ok (.iload_n 0, 1) := by decide +kernel
theorem dJ6_bitCount_0f7a4_11 : decode cJ6_bitCount_0f7a4 11 = .ok (.ldc_w 266, 3) := by decide +kernel
theorem dJ6_bitCount_0f7a4_14 : decode cJ6_bitCount_0f7a4 14 = .ok (.iand, 1) := by decide +kernel
theorem dJ6_bitCount_0f7a4_15 : decode cJ6_bitCount_0f7a4 15 = .ok (.iload_n 0, 1) := by decide +kernel
theorem dJ6_bitCount_0f7a4_16 : decode cJ6_bitCount_0f7a4 16 = .ok (.iconst 2, 1) := by decide +kernel
theorem dJ6_bitCount_0f7a4_17 : decode cJ6_bitCount_0f7a4 17 = .ok (.iushr, 1) := by decide +kernel
theorem dJ6_bitCount_0f7a4_18 : decode cJ6_bitCount_0f7a4 18 = .ok (.ldc_w 266, 3) := by decide +kernel
theorem dJ6_bitCount_0f7a4_21 : decode cJ6_bitCount_0f7a4 21 = .ok (.iand, 1) := by decide +kernel
theorem dJ6_bitCount_0f7a4_22 : decode cJ6_bitCount_0f7a4 22 = .ok (.iadd, 1) := by decide +kernel
theorem dJ6_bitCount_0f7a4_23 : decode cJ6_bitCount_0f7a4 23 = .ok (.istore_n 0, 1) := by decide +kernel
theorem dJ6_bitCount_0f7a4_24 : decode cJ6_bitCount_0f7a4 24 = .ok (.iload_n 0, 1) := by decide +kernel
theorem dJ6_bitCount_0f7a4_25 : decode cJ6_bitCount_0f7a4 25 = .ok (.iload_n 0, 1) := by decide +kernel
theorem dJ6_bitCount_0f7a4_26 : decode cJ6_bitCount_0f7a4 26 = .ok (.iconst 4, 1) := by decide +kernel
theorem dJ6_bitCount_0f7a4_27 : decode cJ6_bitCount_0f7a4 27 = .ok (.iushr, 1) := by decide +kernel
theorem dJ6_bitCount_0f7a4_28 : decode cJ6_bitCount_0f7a4 28 = .ok (.iadd, 1) := by decide +kernel
theorem dJ6_bitCount_0f7a4_29 : decode cJ6_bitCount_0f7a4 29 = .ok (.ldc_w 267, 3) := by decide +kernel
theorem dJ6_bitCount_0f7a4_32 : decode cJ6_bitCount_0f7a4 32 = .ok (.iand, 1) := by decide +kernel
theorem dJ6_bitCount_0f7a4_33 : decode cJ6_bitCount_0f7a4 33 = .ok (.istore_n 0, 1) := by decide +kernel
theorem dJ6_bitCount_0f7a4_34 : decode cJ6_bitCount_0f7a4 34 = .ok (.iload_n 0, 1) := by decide +kernel
theorem dJ6_bitCount_0f7a4_35 : decode cJ6_bitCount_0f7a4 35 = .ok (.iload_n 0, 1) := by decide +kernel
theorem dJ6_bitCount_0f7a4_36 : decode cJ6_bitCount_0f7a4 36 = .ok (.bipush 8, 2) := by decide +kernel
theorem dJ6_bitCount_0f7a4_38 : decode cJ6_bitCount_0f7a4 38 = .ok (.iushr, 1) := by decide +kernel
theorem dJ6_bitCount_0f7a4_39 : decode cJ6_bitCount_0f7a4 39 = .ok (.iadd, 1) := by decide +kernel
theorem dJ6_bitCount_0f7a4_40 : decode cJ6_bitCount_0f7a4 40 = .ok (.istore_n 0, 1) := by decide +kernel
theorem dJ6_bitCount_0f7a4_41 : decode cJ6_bitCount_0f7a4 41 = .ok (.iload_n 0, 1) := by decide +kernel
theorem dJ6_bitCount_0f7a4_42 : decode cJ6_bitCount_0f7a4 42 = .ok (.iload_n 0, 1) := by decide +kernel
theorem dJ6_bitCount_0f7a4_43 : decode cJ6_bitCount_0f7a4 43 = .ok (.bipush 16, 2) := by decide +kernel
theorem dJ6_bitCount_0f7a4_45 : decode cJ6_bitCount_0f7a4 45 = .ok (.iushr, 1) := by decide +kernel
theorem dJ6_bitCount_0f7a4_46 : decode cJ6_bitCount_0f7a4 46 = .ok (.iadd, 1) := by decide +kernel
theorem dJ6_bitCount_0f7a4_47 : decode cJ6_bitCount_0f7a4 47 = .ok (.istore_n 0, 1) := by decide +kernel
theorem dJ6_bitCount_0f7a4_48 : decode cJ6_bitCount_0f7a4 48 = .ok (.iload_n 0, 1) := by decide +kernel
theorem dJ6_bitCount_0f7a4_49 : decode cJ6_bitCount_0f7a4 49 = .ok (.bipush 63, 2) := by decide +kernel
theorem dJ6_bitCount_0f7a4_51 : decode cJ6_bitCount_0f7a4 51 = .ok (.iand, 1) := by decide +kernel
theorem dJ6_bitCount_0f7a4_52 : decode cJ6_bitCount_0f7a4 52 = .ok (.ireturn, 1) := by decide +kernel
theorem dJ9_max_7cf53_0 : decode cJ9_max_7cf53 0 = .ok (.iload_n 0, 1) := by decide +kernel
theorem dJ9_max_7cf53_1 : decode cJ9_max_7cf53 1 = .ok (.iload_n 1, 1) := by decide +kernel
theorem dJ9_max_7cf53_2 : decode cJ9_max_7cf53 2 = .ok (.if_icmp .lt 7, 3) := by decide +kernel
theorem dJ9_max_7cf53_5 : decode cJ9_max_7cf53 5 = .ok (.iload_n 0, 1) := by decide +kernel
theorem dJ9_max_7cf53_6 : decode cJ9_max_7cf53 6 = .ok (.goto 4, 3) := by decide +kernel
theorem dJ9_max_7cf53_9 : decode cJ9_max_7cf53 9 = .ok (.iload_n 1, 1) := by decide +kernel
theorem dJ9_max_7cf53_10 : decode cJ9_max_7cf53 10 = .ok (.ireturn, 1) := by decide +kernel
theorem dJ9_min_7cf53_0 : decode cJ9_min_7cf53 0 = .ok (.iload_n 0, 1) := by decide +kernel
theorem dJ9_min_7cf53_1 : decode cJ9_min_7cf53 1 = .ok (.iload_n 1, 1) := by decide +kernel
theorem dJ9_min_7cf53_2 : decode cJ9_min_7cf53 2 = .ok (.if_icmp .gt 7, 3) := by decide +kernel
theorem dJ9_min_7cf53_5 : decode cJ9_min_7cf53 5 = .ok (.iload_n 0, 1) := by decide +kernel
theorem dJ9_min_7cf53_6 : decode cJ9_min_7cf53 6 = .ok (.goto 4, 3) := by decide +kernel
theorem dJ9_min_7cf53_9 : decode cJ9_min_7cf53 9 = .ok (.iload_n 1, 1) := by decide +kernel
theorem dJ9_min_7cf53_10 : decode cJ9_min_7cf53 10 = .ok (.ireturn, 1) := by decide +kernel
theorem dJ0_length_8abf5_0 : decode cJ0_length_8abf5 0 = .ok (.aload_n 0, 1) := by decide +kernel
theorem dJ0_length_8abf5_1 : decode cJ0_length_8abf5 1 = .ok (.getfield 9, 3) := by decide +kernel
theorem dJ0_length_8abf5_4 : decode cJ0_length_8abf5 4 = .ok (.arraylength, 1) := by decide +kernel
theorem dJ0_length_8abf5_5 : decode cJ0_length_8abf5 5 = .ok (.aload_n 0, 1) := by decide +kernel
theorem dJ0_length_8abf5_6 : decode cJ0_length_8abf5 6 = .ok (.invokevirtual 335, 3) := by decide +kernel
theorem dJ0_length_8abf5_9 : decode cJ0_length_8abf5 9 = .ok (.ishr, 1) := by decide +kernel
theorem dJ0_length_8abf5_10 : decode cJ0_length_8abf5 10 = .ok (.ireturn, 1) := by decide +kernel
theorem dJ0_charAt_5068e_0 : decode cJ0_charAt_5068e 0 = .ok (.aload_n 0, 1) := by decide +kernel
theorem dJ0_charAt_5068e_1 : decode cJ0_charAt_5068e 1 = .ok (.invokevirtual 492, 3) := by decide +kernel
theorem dJ0_charAt_5068e_4 : decode cJ0_charAt_5068e 4 = .ok (.ifCond .eq 12, 3) := by decide +kernel
theorem dJ0_charAt_5068e_7 : decode cJ0_charAt_5068e 7 = .ok (.aload_n 0, 1) := by decide +kernel
theorem dJ0_charAt_5068e_8 : decode cJ0_charAt_5068e 8 = .ok (.getfield 9, 3) := by decide +kernel
theorem dJ0_charAt_5068e_11 : decode cJ0_charAt_5068e 11 = .ok (.iload_n 1, 1) := by decide +kernel
theorem dJ0_charAt_5068e_12 : decode cJ0_charAt_5068e 12 = .ok (.invokestatic 495, 3) := by decide +kernel
theorem dJ0_charAt_5068e_15 : decode cJ0_charAt_5068e 15 = .ok (.ireturn, 1) := by decide +kernel
theorem dJ0_charAt_5068e_16 : decode cJ0_charAt_5068e 16 = .ok (.aload_n 0, 1) := by decide +kernel
theorem dJ0_charAt_5068e_17 : decode cJ0_charAt_5068e 17 = .ok (.getfield 9, 3) := by decide +kernel
theorem dJ0_charAt_5068e_20 : decode cJ0_charAt_5068e 20 = .ok (.iload_n 1, 1) := by decide +kernel
theorem dJ0_charAt_5068e_21 : decode cJ0_charAt_5068e 21 = .ok (.invokestatic 498, 3) := by decide +kernel
theorem dJ0_charAt_5068e_24 : decode cJ0_charAt_5068e 24 = .ok (.ireturn, 1) := by decide +kernel
theorem dJ0_coder_7d493_0 : decode cJ0_coder_7d493 0 = .ok (.getstatic 38, 3) := by decide +kernel
theorem dJ0_coder_7d493_3 : decode cJ0_coder_7d493 3 = .ok (.ifCond .eq 10, 3) := by decide +kernel
theorem dJ0_coder_7d493_6 : decode cJ0_coder_7d493 6 = .ok (.aload_n 0, 1) := by decide +kernel
theorem dJ0_coder_7d493_7 : decode cJ0_coder_7d493 7 = .ok (.getfield 15, 3) := by decide +kernel
theorem dJ0_coder_7d493_10 : decode cJ0_coder_7d493 10 = .ok (.goto 4, 3) := by decide +kernel
theorem dJ0_coder_7d493_13 : decode cJ0_coder_7d493 13 = .ok (.iconst 1, 1) := by decide +kernel
theorem dJ0_coder_7d493_14 : decode cJ0_coder_7d493 14 = .ok (.ireturn, 1) := by decide +kernel
theorem dJ0_isLatin1_aae02_0 : decode cJ0_isLatin1_aae02 0 = .ok (.getstatic 38, 3) := by decide +kernel
theorem dJ0_isLatin1_aae02_3 : decode cJ0_isLatin1_aae02 3 = .ok (.ifCond .eq 14, 3) := by decide +kernel
theorem dJ0_isLatin1_aae02_6 : decode cJ0_isLatin1_aae02 6 = .ok (.aload_n 0, 1) := by decide +kernel
theorem dJ0_isLatin1_aae02_7 : decode cJ0_isLatin1_aae02 7 = .ok (.getfield 15, 3) := by decide +kernel
theorem dJ0_isLatin1_aae02_10 : decode cJ0_isLatin1_aae02 10 = .ok (.ifCond .ne 7, 3) := by decide +kernel
theorem dJ0_isLatin1_aae02_13 : decode cJ0_isLatin1_aae02 13 = .ok (.iconst 1, 1) := by decide +kernel
theorem dJ0_isLatin1_aae02_14 : decode cJ0_isLatin1_aae02 14 = .ok (.goto 4, 3) := by decide +kernel
theorem dJ0_isLatin1_aae02_17 : decode cJ0_isLatin1_aae02 17 = .ok (.iconst 0, 1) := by decide +kernel
theorem dJ0_isLatin1_aae02_18 : decode cJ0_isLatin1_aae02 18 = .ok (.ireturn, 1) := by decide +kernel
theorem dJ0_checkIndex_df160_0 : decode cJ0_checkIndex_df160 0 = .ok (.iload_n 0, 1) := by decide +kernel
theorem dJ0_checkIndex_df160_1 : decode cJ0_checkIndex_df160 1 = .ok (.iload_n 1, 1) := by decide +kernel
theorem dJ0_checkIndex_df160_2 : decode cJ0_checkIndex_df160 2 = .ok (.getstatic 1053, 3) := by decide +kernel
theorem dJ0_checkIndex_df160_5 : decode cJ0_checkIndex_df160 5 = .ok (.invokestatic 1059, 3) := by decide +kernel
theorem dJ0_checkIndex_df160_8 : decode cJ0_checkIndex_df160 8 = .ok (.pop, 1) := by decide +kernel
theorem dJ0_checkIndex_df160_9 : decode cJ0_checkIndex_df160 9 = .ok (.return_, 1) := by decide +kernel
theorem dJ1_charAt_3b067_0 : decode cJ1_charAt_3b067 0 = .ok (.iload_n 1, 1) := by decide +kernel
theorem dJ1_charAt_3b067_1 : decode cJ1_charAt_3b067 1 = .ok (.aload_n 0, 1) := by decide +kernel
theorem dJ1_charAt_3b067_2 : decode cJ1_charAt_3b067 2 = .ok (.arraylength, 1) := by decide +kernel
theorem dJ1_charAt_3b067_3 : decode cJ1_charAt_3b067 3 = .ok (.invokestatic 9, 3) := by decide +kernel
theorem dJ1_charAt_3b067_6 : decode cJ1_charAt_3b067 6 = .ok (.aload_n 0, 1) := by decide +kernel
theorem dJ1_charAt_3b067_7 : decode cJ1_charAt_3b067 7 = .ok (.iload_n 1, 1) := by decide +kernel
theorem dJ1_charAt_3b067_8 : decode cJ1_charAt_3b067 8 = .ok (.baload, 1) := by decide +kernel
theorem dJ1_charAt_3b067_9 : decode cJ1_charAt_3b067 9 = .ok (.sipush 255, 3) := by decide +kernel
theorem dJ1_charAt_3b067_12 : decode cJ1_charAt_3b067 12 = .ok (.iand, 1) := by decide +kernel
theorem dJ1_charAt_3b067_13 : decode cJ1_charAt_3b067 13 = .ok (.i2c, 1) := by decide +kernel
theorem dJ1_charAt_3b067_14 : decode cJ1_charAt_3b067 14 = .ok (.ireturn, 1) := by decide +kernel
theorem dJ2_getChar_3b067_0 : decode cJ2_getChar_3b067 0 = .ok (.getstatic 44, 3) := by decide +kernel
theorem dJ2_getChar_3b067_3 : decode cJ2_getChar_3b067 3 = .ok (.ifCond .ne 25, 3) := by decide +kernel
theorem dJ2_getChar_3b067_6 : decode cJ2_getChar_3b067 6 = .ok (.iload_n 1, 1) := by decide +kernel
theorem dJ2_getChar_3b067_7 : decode cJ2_getChar_3b067 7 = .ok (.ifCond .lt 11, 3) := by decide +kernel
theorem dJ2_getChar_3b067_10 : decode cJ2_getChar_3b067 10 = .ok (.iload_n 1, 1) := by decide +kernel
theorem dJ2_getChar_3b067_11 : decode cJ2_getChar_3b067 11 = .ok (.aload_n 0, 1) := by decide +kernel
theorem dJ2_getChar_3b067_12 : decode cJ2_getChar_3b067 12 = .ok (.invokestatic 48, 3) := by decide +kernel
theorem dJ2_getChar_3b067_15 : decode cJ2_getChar_3b067 15 = .ok (.if_icmp .lt 13, 3) := by decide +kernel
theorem dJ2_getChar_3b067_18 : decode cJ2_getChar_3b067 18 = .ok (.new 52, 3) := by decide +kernel
theorem dJ2_getChar_3b067_21 : decode cJ2_getChar_3b067 21 = .ok (.dup, 1) := by decide +kernel
theorem dJ2_getChar_3b067_22 : decode cJ2_getChar_3b067 22 = .ok (.ldc 54, 2) := by decide +kernel
theorem dJ2_getChar_3b067_24 : decode cJ2_getChar_3b067 24 = .ok (.invokespecial 56, 3) := by decide +kernel
theorem dJ2_getChar_3b067_27 : decode cJ2_getChar_3b067 27 = .ok (.athrow, 1) := by decide +kernel
theorem dJ2_getChar_3b067_28 : decode cJ2_getChar_3b067 28 = .ok (.iload_n 1, 1) := by decide +kernel
theorem dJ2_getChar_3b067_29 : decode cJ2_getChar_3b067 29 = .ok (.iconst 1, 1) := by decide +kernel
theorem dJ2_getChar_3b067_30 : decode cJ2_getChar_3b067 30 = .ok (.ishl, 1) := by decide +kernel
theorem dJ2_getChar_3b067_31 : decode cJ2_getChar_3b067 31 = .ok (.istore_n 1, 1) := by decide +kernel
theorem dJ2_getChar_3b067_32 : decode cJ2_getChar_3b067 32 = .ok (.aload_n 0, 1) := by decide +kernel
theorem dJ2_getChar_3b067_33 : decode cJ2_getChar_3b067 33 = .ok (.iload_n 1, 1) := by decide +kernel
theorem dJ2_getChar_3b067_34 : decode cJ2_getChar_3b067 34 = .ok (.iinc 1 1, 3) := by decide +kernel
theorem dJ2_getChar_3b067_37 : decode cJ2_getChar_3b067 37 = .ok (.baload, 1) := by decide +kernel
theorem dJ2_getChar_3b067_38 : decode cJ2_getChar_3b067 38 = .ok (.sipush 255, 3) := by decide +kernel
theorem dJ2_getChar_3b067_41 : decode cJ2_getChar_3b067 41 = .ok (.iand, 1) := by decide +kernel
theorem dJ2_getChar_3b067_42 : decode cJ2_getChar_3b067 42 = .ok (.getstatic 59, 3) := by decide +kernel
theorem dJ2_getChar_3b067_45 : decode cJ2_getChar_3b067 45 = .ok (.ishl, 1) := by decide +kernel
theorem dJ2_getChar_3b067_46 : decode cJ2_getChar_3b067 46 = .ok (.aload_n 0, 1) := by decide +kernel
theorem dJ2_getChar_3b067_47 : decode cJ2_getChar_3b067 47 = .ok (.iload_n 1, 1) := by decide +kernel
theorem dJ2_getChar_3b067_48 : decode cJ2_getChar_3b067 48 = .ok (.baload, 1) := by decide +kernel
theorem dJ2_getChar_3b067_49 : decode cJ2_getChar_3b067 49 = .ok (.sipush 255, 3) := by decide +kernel
theorem dJ2_getChar_3b067_52 : decode cJ2_getChar_3b067 52 = .ok (.iand, 1) := by decide +kernel
theorem dJ2_getChar_3b067_53 : decode cJ2_getChar_3b067 53 = .ok (.getstatic 63, 3) := by decide +kernel
theorem dJ2_getChar_3b067_56 : decode cJ2_getChar_3b067 56 = .ok (.ishl, 1) := by decide +kernel
theorem dJ2_getChar_3b067_57 : decode cJ2_getChar_3b067 57 = .ok (.ior, 1) := by decide +kernel
theorem dJ2_getChar_3b067_58 : decode cJ2_getChar_3b067 58 = .ok (.i2c, 1) := by decide +kernel
theorem dJ2_getChar_3b067_59 : decode cJ2_getChar_3b067 59 = .ok (.ireturn, 1) := by decide +kernel
theorem dJ2_length_9d52b_0 : decode cJ2_length_9d52b 0 = .ok (.aload_n 0, 1) := by decide +kernel
theorem dJ2_length_9d52b_1 : decode cJ2_length_9d52b 1 = .ok (.arraylength, 1) := by decide +kernel
theorem dJ2_length_9d52b_2 : decode cJ2_length_9d52b 2 = .ok (.iconst 1, 1) := by decide +kernel
theorem dJ2_length_9d52b_3 : decode cJ2_length_9d52b 3 = .ok (.ishr, 1) := by decide +kernel
theorem dJ2_length_9d52b_4 : decode cJ2_length_9d52b 4 = .ok (.ireturn, 1) := by decide +kernel
theorem dJ2_charAt_3b067_0 : decode cJ2_charAt_3b067 0 = .ok (.iload_n 1, 1) := by decide +kernel
theorem dJ2_charAt_3b067_1 : decode cJ2_charAt_3b067 1 = .ok (.aload_n 0, 1) := by decide +kernel
theorem dJ2_charAt_3b067_2 : decode cJ2_charAt_3b067 2 = .ok (.invokestatic 67, 3) := by decide +kernel
theorem dJ2_charAt_3b067_5 : decode cJ2_charAt_3b067 5 = .ok (.aload_n 0, 1) := by decide +kernel
theorem dJ2_charAt_3b067_6 : decode cJ2_charAt_3b067 6 = .ok (.iload_n 1, 1) := by decide +kernel
theorem dJ2_charAt_3b067_7 : decode cJ2_charAt_3b067 7 = .ok (.invokestatic 71, 3) := by decide +kernel
theorem dJ2_charAt_3b067_10 : decode cJ2_charAt_3b067 10 = .ok (.ireturn, 1) := by decide +kernel
theorem dJ2_checkIndex_2214a_0 : decode cJ2_checkIndex_2214a 0 = .ok (.iload_n 0, 1) := by decide +kernel
theorem dJ2_checkIndex_2214a_1 : decode cJ2_checkIndex_2214a 1 = .ok (.aload_n 1, 1) := by decide +kernel
theorem dJ2_checkIndex_2214a_2 : decode cJ2_checkIndex_2214a 2 = .ok (.invokestatic 48, 3) := by decide +kernel
theorem dJ2_checkIndex_2214a_5 : decode cJ2_checkIndex_2214a 5 = .ok (.invokestatic 414, 3) := by decide +kernel
theorem dJ2_checkIndex_2214a_8 : decode cJ2_checkIndex_2214a 8 = .ok (.return_, 1) := by decide +kernel
theorem dJ3_checkIndex_8e157_0 : decode cJ3_checkIndex_8e157 0 = .ok (.iload_n 0, 1) := by decide +kernel
theorem dJ3_checkIndex_8e157_1 : decode cJ3_checkIndex_8e157 1 = .ok (.ifCond .lt 8, 3) := by decide +kernel
theorem dJ3_checkIndex_8e157_4 : decode cJ3_checkIndex_8e157 4 = .ok (.iload_n 0, 1) := by decide +kernel
theorem dJ3_checkIndex_8e157_5 : decode cJ3_checkIndex_8e157 5 = .ok (.iload_n 1, 1) := by decide +kernel
theorem dJ3_checkIndex_8e157_6 : decode cJ3_checkIndex_8e157 6 = .ok (.if_icmp .lt 10, 3) := by decide +kernel
theorem dJ3_checkIndex_8e157_9 : decode cJ3_checkIndex_8e157 9 = .ok (.aload_n 2, 1) := by decide +kernel
theorem dJ3_checkIndex_8e157_10 : decode cJ3_checkIndex_8e157 10 = .ok (.iload_n 0, 1) := by decide +kernel
theorem dJ3_checkIndex_8e157_11 : decode cJ3_checkIndex_8e157 11 = .ok (.iload_n 1, 1) := by decide +kernel
theorem dJ3_checkIndex_8e157_12 : decode cJ3_checkIndex_8e157 12 = .ok (.invokestatic 95, 3) := by decide +kernel
theorem dJ3_checkIndex_8e157_15 : decode cJ3_checkIndex_8e157 15 = .ok (.athrow, 1) := by decide +kernel
theorem dJ3_checkIndex_8e157_16 : decode cJ3_checkIndex_8e157 16 = .ok (.iload_n 0, 1) := by decide +kernel
theorem dJ3_checkIndex_8e157_17 : decode cJ3_checkIndex_8e157 17 = .ok (.ireturn, 1) := by decide +kernel
