-- decode rows: printed by program out of the claim
theorem dX6_init_0 : decode cX6_init 0 = .ok (.aload_n 0, 1) := by decide +kernel
theorem dX6_init_1 : decode cX6_init 1 = .ok (.invokespecial 1, 3) := by decide +kernel
theorem dX6_init_4 : decode cX6_init 4 = .ok (.aload_n 0, 1) := by decide +kernel
theorem dX6_init_5 : decode cX6_init 5 = .ok (.bipush 47, 2) := by decide +kernel
theorem dX6_init_7 : decode cX6_init 7 = .ok (.newarray .int, 2) := by decide +kernel
theorem dX6_init_9 : decode cX6_init 9 = .ok (.putfield 9, 3) := by decide +kernel
theorem dX6_init_12 : decode cX6_init 12 = .ok (.aload_n 0, 1) := by decide +kernel
theorem dX6_init_13 : decode cX6_init 13 = .ok (.bipush 47, 2) := by decide +kernel
theorem dX6_init_15 : decode cX6_init 15 = .ok (.newarray .int, 2) := by decide +kernel
theorem dX6_init_17 : decode cX6_init 17 = .ok (.putfield 13, 3) := by decide +kernel
theorem dX6_init_20 : decode cX6_init 20 = .ok (.aload_n 0, 1) := by decide +kernel
theorem dX6_init_21 : decode cX6_init 21 = .ok (.bipush 47, 2) := by decide +kernel
theorem dX6_init_23 : decode cX6_init 23 = .ok (.newarray .int, 2) := by decide +kernel
theorem dX6_init_25 : decode cX6_init 25 = .ok (.putfield 16, 3) := by decide +kernel
theorem dX6_init_28 : decode cX6_init 28 = .ok (.aload_n 0, 1) := by decide +kernel
theorem dX6_init_29 : decode cX6_init 29 = .ok (.bipush 47, 2) := by decide +kernel
theorem dX6_init_31 : decode cX6_init 31 = .ok (.newarray .int, 2) := by decide +kernel
theorem dX6_init_33 : decode cX6_init 33 = .ok (.putfield 19, 3) := by decide +kernel
theorem dX6_init_36 : decode cX6_init 36 = .ok (.aload_n 0, 1) := by decide +kernel
theorem dX6_init_37 : decode cX6_init 37 = .ok (.bipush 6, 2) := by decide +kernel
theorem dX6_init_39 : decode cX6_init 39 = .ok (.newarray .int, 2) := by decide +kernel
theorem dX6_init_41 : decode cX6_init 41 = .ok (.putfield 22, 3) := by decide +kernel
theorem dX6_init_44 : decode cX6_init 44 = .ok (.aload_n 0, 1) := by decide +kernel
theorem dX6_init_45 : decode cX6_init 45 = .ok (.bipush 6, 2) := by decide +kernel
theorem dX6_init_47 : decode cX6_init 47 = .ok (.newarray .int, 2) := by decide +kernel
theorem dX6_init_49 : decode cX6_init 49 = .ok (.putfield 25, 3) := by decide +kernel
theorem dX6_init_52 : decode cX6_init 52 = .ok (.aload_n 0, 1) := by decide +kernel
theorem dX6_init_53 : decode cX6_init 53 = .ok (.bipush 96, 2) := by decide +kernel
theorem dX6_init_55 : decode cX6_init 55 = .ok (.newarray .int, 2) := by decide +kernel
theorem dX6_init_57 : decode cX6_init 57 = .ok (.putfield 28, 3) := by decide +kernel
theorem dX6_init_60 : decode cX6_init 60 = .ok (.aload_n 0, 1) := by decide +kernel
theorem dX6_init_61 : decode cX6_init 61 = .ok (.bipush 16, 2) := by decide +kernel
theorem dX6_init_63 : decode cX6_init 63 = .ok (.newarray .int, 2) := by decide +kernel
theorem dX6_init_65 : decode cX6_init 65 = .ok (.putfield 31, 3) := by decide +kernel
theorem dX6_init_68 : decode cX6_init 68 = .ok (.aload_n 0, 1) := by decide +kernel
theorem dX6_init_69 : decode cX6_init 69 = .ok (.bipush 7, 2) := by decide +kernel
theorem dX6_init_71 : decode cX6_init 71 = .ok (.newarray .int, 2) := by decide +kernel
theorem dX6_init_73 : decode cX6_init 73 = .ok (.putfield 34, 3) := by decide +kernel
theorem dX6_init_76 : decode cX6_init 76 = .ok (.aload_n 0, 1) := by decide +kernel
theorem dX6_init_77 : decode cX6_init 77 = .ok (.iconst 3, 1) := by decide +kernel
theorem dX6_init_78 : decode cX6_init 78 = .ok (.newarray .int, 2) := by decide +kernel
theorem dX6_init_80 : decode cX6_init 80 = .ok (.putfield 37, 3) := by decide +kernel
theorem dX6_init_83 : decode cX6_init 83 = .ok (.aload_n 0, 1) := by decide +kernel
theorem dX6_init_84 : decode cX6_init 84 = .ok (.bipush 6, 2) := by decide +kernel
theorem dX6_init_86 : decode cX6_init 86 = .ok (.newarray .int, 2) := by decide +kernel
theorem dX6_init_88 : decode cX6_init 88 = .ok (.putfield 40, 3) := by decide +kernel
theorem dX6_init_91 : decode cX6_init 91 = .ok (.aload_n 0, 1) := by decide +kernel
theorem dX6_init_92 : decode cX6_init 92 = .ok (.bipush 6, 2) := by decide +kernel
theorem dX6_init_94 : decode cX6_init 94 = .ok (.newarray .int, 2) := by decide +kernel
theorem dX6_init_96 : decode cX6_init 96 = .ok (.putfield 43, 3) := by decide +kernel
theorem dX6_init_99 : decode cX6_init 99 = .ok (.aload_n 0, 1) := by decide +kernel
theorem dX6_init_100 : decode cX6_init 100 = .ok (.getfield 9, 3) := by decide +kernel
theorem dX6_init_103 : decode cX6_init 103 = .ok (.iconst 2, 1) := by decide +kernel
theorem dX6_init_104 : decode cX6_init 104 = .ok (.iconst 1, 1) := by decide +kernel
theorem dX6_init_105 : decode cX6_init 105 = .ok (.iastore, 1) := by decide +kernel
theorem dX6_init_106 : decode cX6_init 106 = .ok (.return_, 1) := by decide +kernel
theorem dX6_isIn_0 : decode cX6_isIn 0 = .ok (.iload_n 0, 1) := by decide +kernel
theorem dX6_isIn_1 : decode cX6_isIn 1 = .ok (.iload_n 1, 1) := by decide +kernel
theorem dX6_isIn_2 : decode cX6_isIn 2 = .ok (.if_icmp .lt 12, 3) := by decide +kernel
theorem dX6_isIn_5 : decode cX6_isIn 5 = .ok (.iload_n 0, 1) := by decide +kernel
theorem dX6_isIn_6 : decode cX6_isIn 6 = .ok (.iload_n 2, 1) := by decide +kernel
theorem dX6_isIn_7 : decode cX6_isIn 7 = .ok (.if_icmp .gt 7, 3) := by decide +kernel
theorem dX6_isIn_10 : decode cX6_isIn 10 = .ok (.iconst 1, 1) := by decide +kernel
theorem dX6_isIn_11 : decode cX6_isIn 11 = .ok (.goto 4, 3) := by decide +kernel
theorem dX6_isIn_14 : decode cX6_isIn 14 = .ok (.iconst 0, 1) := by decide +kernel
theorem dX6_isIn_15 : decode cX6_isIn 15 = .ok (.ireturn, 1) := by decide +kernel
theorem dX6_held_0 : decode cX6_held 0 = .ok (.iload_n 0, 1) := by decide +kernel
theorem dX6_held_1 : decode cX6_held 1 = .ok (.ifCond .ge 7, 3) := by decide +kernel
theorem dX6_held_4 : decode cX6_held 4 = .ok (.iconst 0, 1) := by decide +kernel
theorem dX6_held_5 : decode cX6_held 5 = .ok (.goto 13, 3) := by decide +kernel
theorem dX6_held_8 : decode cX6_held 8 = .ok (.iload_n 0, 1) := by decide +kernel
theorem dX6_held_9 : decode cX6_held 9 = .ok (.iload_n 1, 1) := by decide +kernel
theorem dX6_held_10 : decode cX6_held 10 = .ok (.if_icmp .le 7, 3) := by decide +kernel
theorem dX6_held_13 : decode cX6_held 13 = .ok (.iload_n 1, 1) := by decide +kernel
theorem dX6_held_14 : decode cX6_held 14 = .ok (.goto 4, 3) := by decide +kernel
theorem dX6_held_17 : decode cX6_held 17 = .ok (.iload_n 0, 1) := by decide +kernel
theorem dX6_held_18 : decode cX6_held 18 = .ok (.ireturn, 1) := by decide +kernel
theorem dX6_copies_0 : decode cX6_copies 0 = .ok (.iconst 0, 1) := by decide +kernel
theorem dX6_copies_1 : decode cX6_copies 1 = .ok (.istore_n 2, 1) := by decide +kernel
theorem dX6_copies_2 : decode cX6_copies 2 = .ok (.iload_n 2, 1) := by decide +kernel
theorem dX6_copies_3 : decode cX6_copies 3 = .ok (.bipush 47, 2) := by decide +kernel
theorem dX6_copies_5 : decode cX6_copies 5 = .ok (.if_icmp .ge 15, 3) := by decide +kernel
theorem dX6_copies_8 : decode cX6_copies 8 = .ok (.aload_n 1, 1) := by decide +kernel
theorem dX6_copies_9 : decode cX6_copies 9 = .ok (.iload_n 2, 1) := by decide +kernel
theorem dX6_copies_10 : decode cX6_copies 10 = .ok (.aload_n 0, 1) := by decide +kernel
theorem dX6_copies_11 : decode cX6_copies 11 = .ok (.iload_n 2, 1) := by decide +kernel
theorem dX6_copies_12 : decode cX6_copies 12 = .ok (.iaload, 1) := by decide +kernel
theorem dX6_copies_13 : decode cX6_copies 13 = .ok (.iastore, 1) := by decide +kernel
theorem dX6_copies_14 : decode cX6_copies 14 = .ok (.iinc 2 1, 3) := by decide +kernel
theorem dX6_copies_17 : decode cX6_copies 17 = .ok (.goto (-15), 3) := by decide +kernel
theorem dX6_copies_20 : decode cX6_copies 20 = .ok (.return_, 1) := by decide +kernel
theorem dX6_no_0 : decode cX6_no 0 = .ok (.aload_n 0, 1) := by decide +kernel
theorem dX6_no_1 : decode cX6_no 1 = .ok (.getfield 34, 3) := by decide +kernel
theorem dX6_no_4 : decode cX6_no 4 = .ok (.iload_n 1, 1) := by decide +kernel
theorem dX6_no_5 : decode cX6_no 5 = .ok (.ineg, 1) := by decide +kernel
theorem dX6_no_6 : decode cX6_no 6 = .ok (.dup2, 1) := by decide +kernel
theorem dX6_no_7 : decode cX6_no 7 = .ok (.iaload, 1) := by decide +kernel
theorem dX6_no_8 : decode cX6_no 8 = .ok (.iconst 1, 1) := by decide +kernel
theorem dX6_no_9 : decode cX6_no 9 = .ok (.iadd, 1) := by decide +kernel
theorem dX6_no_10 : decode cX6_no 10 = .ok (.iastore, 1) := by decide +kernel
theorem dX6_no_11 : decode cX6_no 11 = .ok (.iload_n 1, 1) := by decide +kernel
theorem dX6_no_12 : decode cX6_no 12 = .ok (.ireturn, 1) := by decide +kernel
theorem dX6_noWide_0 : decode cX6_noWide 0 = .ok (.ldc2_w 46, 3) := by decide +kernel
theorem dX6_noWide_3 : decode cX6_noWide 3 = .ok (.aload_n 0, 1) := by decide +kernel
theorem dX6_noWide_4 : decode cX6_noWide 4 = .ok (.iload_n 1, 1) := by decide +kernel
theorem dX6_noWide_5 : decode cX6_noWide 5 = .ok (.invokevirtual 48, 3) := by decide +kernel
theorem dX6_noWide_8 : decode cX6_noWide 8 = .ok (.i2l, 1) := by decide +kernel
theorem dX6_noWide_9 : decode cX6_noWide 9 = .ok (.lsub, 1) := by decide +kernel
theorem dX6_noWide_10 : decode cX6_noWide 10 = .ok (.lreturn, 1) := by decide +kernel
theorem dX6_of_0 : decode cX6_of 0 = .ok (.bipush 23, 2) := by decide +kernel
theorem dX6_of_2 : decode cX6_of 2 = .ok (.iconst 4, 1) := by decide +kernel
theorem dX6_of_3 : decode cX6_of 3 = .ok (.iload_n 0, 1) := by decide +kernel
theorem dX6_of_4 : decode cX6_of 4 = .ok (.imul, 1) := by decide +kernel
theorem dX6_of_5 : decode cX6_of 5 = .ok (.iadd, 1) := by decide +kernel
theorem dX6_of_6 : decode cX6_of 6 = .ok (.iload_n 1, 1) := by decide +kernel
theorem dX6_of_7 : decode cX6_of 7 = .ok (.iadd, 1) := by decide +kernel
theorem dX6_of_8 : decode cX6_of 8 = .ok (.ireturn, 1) := by decide +kernel
theorem dX6_heart_0 : decode cX6_heart 0 = .ok (.iconst 5, 1) := by decide +kernel
theorem dX6_heart_1 : decode cX6_heart 1 = .ok (.iconst 3, 1) := by decide +kernel
theorem dX6_heart_2 : decode cX6_heart 2 = .ok (.iload_n 0, 1) := by decide +kernel
theorem dX6_heart_3 : decode cX6_heart 3 = .ok (.imul, 1) := by decide +kernel
theorem dX6_heart_4 : decode cX6_heart 4 = .ok (.iadd, 1) := by decide +kernel
theorem dX6_heart_5 : decode cX6_heart 5 = .ok (.iload_n 1, 1) := by decide +kernel
theorem dX6_heart_6 : decode cX6_heart 6 = .ok (.iadd, 1) := by decide +kernel
theorem dX6_heart_7 : decode cX6_heart 7 = .ok (.ireturn, 1) := by decide +kernel
theorem dX6_isFarm_0 : decode cX6_isFarm 0 = .ok (.iload_n 1, 1) := by decide +kernel
theorem dX6_isFarm_1 : decode cX6_isFarm 1 = .ok (.iconst 0, 1) := by decide +kernel
theorem dX6_isFarm_2 : decode cX6_isFarm 2 = .ok (.aload_n 0, 1) := by decide +kernel
theorem dX6_isFarm_3 : decode cX6_isFarm 3 = .ok (.getfield 9, 3) := by decide +kernel
theorem dX6_isFarm_6 : decode cX6_isFarm 6 = .ok (.iconst 0, 1) := by decide +kernel
theorem dX6_isFarm_7 : decode cX6_isFarm 7 = .ok (.iaload, 1) := by decide +kernel
theorem dX6_isFarm_8 : decode cX6_isFarm 8 = .ok (.iconst 1, 1) := by decide +kernel
theorem dX6_isFarm_9 : decode cX6_isFarm 9 = .ok (.isub, 1) := by decide +kernel
theorem dX6_isFarm_10 : decode cX6_isFarm 10 = .ok (.invokestatic 52, 3) := by decide +kernel
theorem dX6_isFarm_13 : decode cX6_isFarm 13 = .ok (.ireturn, 1) := by decide +kernel
theorem dX6_isFarmer_0 : decode cX6_isFarmer 0 = .ok (.iload_n 1, 1) := by decide +kernel
theorem dX6_isFarmer_1 : decode cX6_isFarmer 1 = .ok (.iconst 0, 1) := by decide +kernel
theorem dX6_isFarmer_2 : decode cX6_isFarmer 2 = .ok (.aload_n 0, 1) := by decide +kernel
theorem dX6_isFarmer_3 : decode cX6_isFarmer 3 = .ok (.getfield 9, 3) := by decide +kernel
theorem dX6_isFarmer_6 : decode cX6_isFarmer 6 = .ok (.iconst 1, 1) := by decide +kernel
theorem dX6_isFarmer_7 : decode cX6_isFarmer 7 = .ok (.iaload, 1) := by decide +kernel
theorem dX6_isFarmer_8 : decode cX6_isFarmer 8 = .ok (.iconst 1, 1) := by decide +kernel
theorem dX6_isFarmer_9 : decode cX6_isFarmer 9 = .ok (.isub, 1) := by decide +kernel
theorem dX6_isFarmer_10 : decode cX6_isFarmer 10 = .ok (.invokestatic 52, 3) := by decide +kernel
theorem dX6_isFarmer_13 : decode cX6_isFarmer 13 = .ok (.ireturn, 1) := by decide +kernel
theorem dX6_has_0 : decode cX6_has 0 = .ok (.iload_n 0, 1) := by decide +kernel
theorem dX6_has_1 : decode cX6_has 1 = .ok (.iload_n 1, 1) := by decide +kernel
theorem dX6_has_2 : decode cX6_has 2 = .ok (.ishr, 1) := by decide +kernel
theorem dX6_has_3 : decode cX6_has 3 = .ok (.iconst 1, 1) := by decide +kernel
theorem dX6_has_4 : decode cX6_has 4 = .ok (.iand, 1) := by decide +kernel
theorem dX6_has_5 : decode cX6_has 5 = .ok (.iconst 1, 1) := by decide +kernel
theorem dX6_has_6 : decode cX6_has 6 = .ok (.if_icmp .ne 7, 3) := by decide +kernel
theorem dX6_has_9 : decode cX6_has 9 = .ok (.iconst 1, 1) := by decide +kernel
theorem dX6_has_10 : decode cX6_has 10 = .ok (.goto 4, 3) := by decide +kernel
theorem dX6_has_13 : decode cX6_has 13 = .ok (.iconst 0, 1) := by decide +kernel
theorem dX6_has_14 : decode cX6_has 14 = .ok (.ireturn, 1) := by decide +kernel
theorem dX6_growsBy_0 : decode cX6_growsBy 0 = .ok (.iload_n 2, 1) := by decide +kernel
theorem dX6_growsBy_1 : decode cX6_growsBy 1 = .ok (.ifCond .lt 15, 3) := by decide +kernel
theorem dX6_growsBy_4 : decode cX6_growsBy 4 = .ok (.aload_n 0, 1) := by decide +kernel
theorem dX6_growsBy_5 : decode cX6_growsBy 5 = .ok (.iload_n 1, 1) := by decide +kernel
theorem dX6_growsBy_6 : decode cX6_growsBy 6 = .ok (.iconst 2, 1) := by decide +kernel
theorem dX6_growsBy_7 : decode cX6_growsBy 7 = .ok (.invokestatic 56, 3) := by decide +kernel
theorem dX6_growsBy_10 : decode cX6_growsBy 10 = .ok (.iaload, 1) := by decide +kernel
theorem dX6_growsBy_11 : decode cX6_growsBy 11 = .ok (.bipush 10, 2) := by decide +kernel
theorem dX6_growsBy_13 : decode cX6_growsBy 13 = .ok (.if_icmp .lt 5, 3) := by decide +kernel
theorem dX6_growsBy_16 : decode cX6_growsBy 16 = .ok (.iconst 0, 1) := by decide +kernel
theorem dX6_growsBy_17 : decode cX6_growsBy 17 = .ok (.ireturn, 1) := by decide +kernel
theorem dX6_growsBy_18 : decode cX6_growsBy 18 = .ok (.aload_n 0, 1) := by decide +kernel
theorem dX6_growsBy_19 : decode cX6_growsBy 19 = .ok (.iload_n 2, 1) := by decide +kernel
theorem dX6_growsBy_20 : decode cX6_growsBy 20 = .ok (.iconst 0, 1) := by decide +kernel
theorem dX6_growsBy_21 : decode cX6_growsBy 21 = .ok (.invokestatic 60, 3) := by decide +kernel
theorem dX6_growsBy_24 : decode cX6_growsBy 24 = .ok (.iaload, 1) := by decide +kernel
theorem dX6_growsBy_25 : decode cX6_growsBy 25 = .ok (.istore_n 3, 1) := by decide +kernel
theorem dX6_growsBy_26 : decode cX6_growsBy 26 = .ok (.aload_n 0, 1) := by decide +kernel
theorem dX6_growsBy_27 : decode cX6_growsBy 27 = .ok (.iload_n 2, 1) := by decide +kernel
theorem dX6_growsBy_28 : decode cX6_growsBy 28 = .ok (.iconst 1, 1) := by decide +kernel
theorem dX6_growsBy_29 : decode cX6_growsBy 29 = .ok (.invokestatic 60, 3) := by decide +kernel
theorem dX6_growsBy_32 : decode cX6_growsBy 32 = .ok (.iaload, 1) := by decide +kernel
theorem dX6_growsBy_33 : decode cX6_growsBy 33 = .ok (.istore 4, 2) := by decide +kernel
theorem dX6_growsBy_35 : decode cX6_growsBy 35 = .ok (.aload_n 0, 1) := by decide +kernel
theorem dX6_growsBy_36 : decode cX6_growsBy 36 = .ok (.iload_n 1, 1) := by decide +kernel
theorem dX6_growsBy_37 : decode cX6_growsBy 37 = .ok (.iconst 0, 1) := by decide +kernel
theorem dX6_growsBy_38 : decode cX6_growsBy 38 = .ok (.invokestatic 56, 3) := by decide +kernel
theorem dX6_growsBy_41 : decode cX6_growsBy 41 = .ok (.iaload, 1) := by decide +kernel
theorem dX6_growsBy_42 : decode cX6_growsBy 42 = .ok (.tableswitch 54 1 5 #[34, 39, 45, 52, 52], 34) := by decide +kernel
theorem dX6_growsBy_76 : decode cX6_growsBy 76 = .ok (.iload 4, 2) := by decide +kernel
theorem dX6_growsBy_78 : decode cX6_growsBy 78 = .ok (.iconst 2, 1) := by decide +kernel
theorem dX6_growsBy_79 : decode cX6_growsBy 79 = .ok (.idiv, 1) := by decide +kernel
theorem dX6_growsBy_80 : decode cX6_growsBy 80 = .ok (.ireturn, 1) := by decide +kernel
theorem dX6_growsBy_81 : decode cX6_growsBy 81 = .ok (.iload_n 3, 1) := by decide +kernel
theorem dX6_growsBy_82 : decode cX6_growsBy 82 = .ok (.iconst 2, 1) := by decide +kernel
theorem dX6_growsBy_83 : decode cX6_growsBy 83 = .ok (.idiv, 1) := by decide +kernel
theorem dX6_growsBy_84 : decode cX6_growsBy 84 = .ok (.iconst 3, 1) := by decide +kernel
theorem dX6_growsBy_85 : decode cX6_growsBy 85 = .ok (.iadd, 1) := by decide +kernel
theorem dX6_growsBy_86 : decode cX6_growsBy 86 = .ok (.ireturn, 1) := by decide +kernel
theorem dX6_growsBy_87 : decode cX6_growsBy 87 = .ok (.iload 4, 2) := by decide +kernel
theorem dX6_growsBy_89 : decode cX6_growsBy 89 = .ok (.iconst 2, 1) := by decide +kernel
theorem dX6_growsBy_90 : decode cX6_growsBy 90 = .ok (.idiv, 1) := by decide +kernel
theorem dX6_growsBy_91 : decode cX6_growsBy 91 = .ok (.iconst 2, 1) := by decide +kernel
theorem dX6_growsBy_92 : decode cX6_growsBy 92 = .ok (.idiv, 1) := by decide +kernel
theorem dX6_growsBy_93 : decode cX6_growsBy 93 = .ok (.ireturn, 1) := by decide +kernel
theorem dX6_growsBy_94 : decode cX6_growsBy 94 = .ok (.iconst 0, 1) := by decide +kernel
theorem dX6_growsBy_95 : decode cX6_growsBy 95 = .ok (.ireturn, 1) := by decide +kernel
theorem dX6_growsBy_96 : decode cX6_growsBy 96 = .ok (.iload_n 3, 1) := by decide +kernel
theorem dX6_growsBy_97 : decode cX6_growsBy 97 = .ok (.iconst 2, 1) := by decide +kernel
theorem dX6_growsBy_98 : decode cX6_growsBy 98 = .ok (.idiv, 1) := by decide +kernel
theorem dX6_growsBy_99 : decode cX6_growsBy 99 = .ok (.ireturn, 1) := by decide +kernel
theorem dX6_more_0 : decode cX6_more 0 = .ok (.aload_n 0, 1) := by decide +kernel
theorem dX6_more_1 : decode cX6_more 1 = .ok (.iload_n 1, 1) := by decide +kernel
theorem dX6_more_2 : decode cX6_more 2 = .ok (.iload_n 2, 1) := by decide +kernel
theorem dX6_more_3 : decode cX6_more 3 = .ok (.invokestatic 60, 3) := by decide +kernel
theorem dX6_more_6 : decode cX6_more 6 = .ok (.aload_n 0, 1) := by decide +kernel
theorem dX6_more_7 : decode cX6_more 7 = .ok (.iload_n 1, 1) := by decide +kernel
theorem dX6_more_8 : decode cX6_more 8 = .ok (.iload_n 2, 1) := by decide +kernel
theorem dX6_more_9 : decode cX6_more 9 = .ok (.invokestatic 60, 3) := by decide +kernel
theorem dX6_more_12 : decode cX6_more 12 = .ok (.iaload, 1) := by decide +kernel
theorem dX6_more_13 : decode cX6_more 13 = .ok (.iload_n 3, 1) := by decide +kernel
theorem dX6_more_14 : decode cX6_more 14 = .ok (.iadd, 1) := by decide +kernel
theorem dX6_more_15 : decode cX6_more 15 = .ok (.bipush 30, 2) := by decide +kernel
theorem dX6_more_17 : decode cX6_more 17 = .ok (.invokestatic 63, 3) := by decide +kernel
theorem dX6_more_20 : decode cX6_more 20 = .ok (.iastore, 1) := by decide +kernel
theorem dX6_more_21 : decode cX6_more 21 = .ok (.return_, 1) := by decide +kernel
theorem dX6_changes_0 : decode cX6_changes 0 = .ok (.iload_n 2, 1) := by decide +kernel
theorem dX6_changes_1 : decode cX6_changes 1 = .ok (.iconst 3, 1) := by decide +kernel
theorem dX6_changes_2 : decode cX6_changes 2 = .ok (.idiv, 1) := by decide +kernel
theorem dX6_changes_3 : decode cX6_changes 3 = .ok (.iconst 1, 1) := by decide +kernel
theorem dX6_changes_4 : decode cX6_changes 4 = .ok (.iadd, 1) := by decide +kernel
theorem dX6_changes_5 : decode cX6_changes 5 = .ok (.istore 4, 2) := by decide +kernel
theorem dX6_changes_7 : decode cX6_changes 7 = .ok (.iload_n 1, 1) := by decide +kernel
theorem dX6_changes_8 : decode cX6_changes 8 = .ok (.tableswitch 132 1 5 #[36, 54, 72, 89, 89], 36) := by decide +kernel
theorem dX6_changes_44 : decode cX6_changes 44 = .ok (.aload_n 0, 1) := by decide +kernel
theorem dX6_changes_45 : decode cX6_changes 45 = .ok (.iload_n 3, 1) := by decide +kernel
theorem dX6_changes_46 : decode cX6_changes 46 = .ok (.iconst 1, 1) := by decide +kernel
theorem dX6_changes_47 : decode cX6_changes 47 = .ok (.bipush (-3), 2) := by decide +kernel
theorem dX6_changes_49 : decode cX6_changes 49 = .ok (.invokestatic 66, 3) := by decide +kernel
theorem dX6_changes_52 : decode cX6_changes 52 = .ok (.aload_n 0, 1) := by decide +kernel
theorem dX6_changes_53 : decode cX6_changes 53 = .ok (.iload_n 3, 1) := by decide +kernel
theorem dX6_changes_54 : decode cX6_changes 54 = .ok (.iconst 2, 1) := by decide +kernel
theorem dX6_changes_55 : decode cX6_changes 55 = .ok (.iconst 1, 1) := by decide +kernel
theorem dX6_changes_56 : decode cX6_changes 56 = .ok (.invokestatic 66, 3) := by decide +kernel
theorem dX6_changes_59 : decode cX6_changes 59 = .ok (.goto 96, 3) := by decide +kernel
theorem dX6_changes_62 : decode cX6_changes 62 = .ok (.aload_n 0, 1) := by decide +kernel
theorem dX6_changes_63 : decode cX6_changes 63 = .ok (.iload_n 3, 1) := by decide +kernel
theorem dX6_changes_64 : decode cX6_changes 64 = .ok (.iconst 2, 1) := by decide +kernel
theorem dX6_changes_65 : decode cX6_changes 65 = .ok (.bipush (-4), 2) := by decide +kernel
theorem dX6_changes_67 : decode cX6_changes 67 = .ok (.invokestatic 66, 3) := by decide +kernel
theorem dX6_changes_70 : decode cX6_changes 70 = .ok (.aload_n 0, 1) := by decide +kernel
theorem dX6_changes_71 : decode cX6_changes 71 = .ok (.iload_n 3, 1) := by decide +kernel
theorem dX6_changes_72 : decode cX6_changes 72 = .ok (.iconst 0, 1) := by decide +kernel
theorem dX6_changes_73 : decode cX6_changes 73 = .ok (.iconst 1, 1) := by decide +kernel
theorem dX6_changes_74 : decode cX6_changes 74 = .ok (.invokestatic 66, 3) := by decide +kernel
theorem dX6_changes_77 : decode cX6_changes 77 = .ok (.goto 78, 3) := by decide +kernel
theorem dX6_changes_80 : decode cX6_changes 80 = .ok (.aload_n 0, 1) := by decide +kernel
theorem dX6_changes_81 : decode cX6_changes 81 = .ok (.iload_n 3, 1) := by decide +kernel
theorem dX6_changes_82 : decode cX6_changes 82 = .ok (.iconst 0, 1) := by decide +kernel
theorem dX6_changes_83 : decode cX6_changes 83 = .ok (.iconst 3, 1) := by decide +kernel
theorem dX6_changes_84 : decode cX6_changes 84 = .ok (.invokestatic 66, 3) := by decide +kernel
theorem dX6_changes_87 : decode cX6_changes 87 = .ok (.aload_n 0, 1) := by decide +kernel
theorem dX6_changes_88 : decode cX6_changes 88 = .ok (.iload_n 3, 1) := by decide +kernel
theorem dX6_changes_89 : decode cX6_changes 89 = .ok (.iconst 1, 1) := by decide +kernel
theorem dX6_changes_90 : decode cX6_changes 90 = .ok (.iconst (-1), 1) := by decide +kernel
theorem dX6_changes_91 : decode cX6_changes 91 = .ok (.invokestatic 66, 3) := by decide +kernel
theorem dX6_changes_94 : decode cX6_changes 94 = .ok (.goto 61, 3) := by decide +kernel
theorem dX6_changes_97 : decode cX6_changes 97 = .ok (.iconst 0, 1) := by decide +kernel
theorem dX6_changes_98 : decode cX6_changes 98 = .ok (.istore 5, 2) := by decide +kernel
theorem dX6_changes_100 : decode cX6_changes 100 = .ok (.iload 5, 2) := by decide +kernel
theorem dX6_changes_102 : decode cX6_changes 102 = .ok (.iconst 3, 1) := by decide +kernel
theorem dX6_changes_103 : decode cX6_changes 103 = .ok (.if_icmp .ge 34, 3) := by decide +kernel
theorem dX6_changes_106 : decode cX6_changes 106 = .ok (.aload_n 0, 1) := by decide +kernel
theorem dX6_changes_107 : decode cX6_changes 107 = .ok (.iload_n 3, 1) := by decide +kernel
theorem dX6_changes_108 : decode cX6_changes 108 = .ok (.iload 5, 2) := by decide +kernel
theorem dX6_changes_110 : decode cX6_changes 110 = .ok (.iload 4, 2) := by decide +kernel
theorem dX6_changes_112 : decode cX6_changes 112 = .ok (.iload_n 1, 1) := by decide +kernel
theorem dX6_changes_113 : decode cX6_changes 113 = .ok (.iconst 5, 1) := by decide +kernel
theorem dX6_changes_114 : decode cX6_changes 114 = .ok (.if_icmp .ne 12, 3) := by decide +kernel
theorem dX6_changes_117 : decode cX6_changes 117 = .ok (.iload 5, 2) := by decide +kernel
theorem dX6_changes_119 : decode cX6_changes 119 = .ok (.ifCond .ne 7, 3) := by decide +kernel
theorem dX6_changes_122 : decode cX6_changes 122 = .ok (.iconst 2, 1) := by decide +kernel
theorem dX6_changes_123 : decode cX6_changes 123 = .ok (.goto 4, 3) := by decide +kernel
theorem dX6_changes_126 : decode cX6_changes 126 = .ok (.iconst 0, 1) := by decide +kernel
theorem dX6_changes_127 : decode cX6_changes 127 = .ok (.iadd, 1) := by decide +kernel
theorem dX6_changes_128 : decode cX6_changes 128 = .ok (.invokestatic 66, 3) := by decide +kernel
theorem dX6_changes_131 : decode cX6_changes 131 = .ok (.iinc 5 1, 3) := by decide +kernel
theorem dX6_changes_134 : decode cX6_changes 134 = .ok (.goto (-34), 3) := by decide +kernel
theorem dX6_changes_137 : decode cX6_changes 137 = .ok (.goto 18, 3) := by decide +kernel
theorem dX6_changes_140 : decode cX6_changes 140 = .ok (.aload_n 0, 1) := by decide +kernel
theorem dX6_changes_141 : decode cX6_changes 141 = .ok (.iload_n 3, 1) := by decide +kernel
theorem dX6_changes_142 : decode cX6_changes 142 = .ok (.iconst 0, 1) := by decide +kernel
theorem dX6_changes_143 : decode cX6_changes 143 = .ok (.bipush (-3), 2) := by decide +kernel
theorem dX6_changes_145 : decode cX6_changes 145 = .ok (.invokestatic 66, 3) := by decide +kernel
theorem dX6_changes_148 : decode cX6_changes 148 = .ok (.aload_n 0, 1) := by decide +kernel
theorem dX6_changes_149 : decode cX6_changes 149 = .ok (.iload_n 3, 1) := by decide +kernel
theorem dX6_changes_150 : decode cX6_changes 150 = .ok (.iconst 1, 1) := by decide +kernel
theorem dX6_changes_151 : decode cX6_changes 151 = .ok (.iconst 1, 1) := by decide +kernel
theorem dX6_changes_152 : decode cX6_changes 152 = .ok (.invokestatic 66, 3) := by decide +kernel
theorem dX6_changes_155 : decode cX6_changes 155 = .ok (.return_, 1) := by decide +kernel
theorem dX6_tiresBy_0 : decode cX6_tiresBy 0 = .ok (.iload_n 0, 1) := by decide +kernel
theorem dX6_tiresBy_1 : decode cX6_tiresBy 1 = .ok (.tableswitch 41 1 5 #[35, 41, 35, 37, 39], 35) := by decide +kernel
theorem dX6_tiresBy_36 : decode cX6_tiresBy 36 = .ok (.iconst 1, 1) := by decide +kernel
theorem dX6_tiresBy_37 : decode cX6_tiresBy 37 = .ok (.ireturn, 1) := by decide +kernel
theorem dX6_tiresBy_38 : decode cX6_tiresBy 38 = .ok (.iconst 3, 1) := by decide +kernel
theorem dX6_tiresBy_39 : decode cX6_tiresBy 39 = .ok (.ireturn, 1) := by decide +kernel
theorem dX6_tiresBy_40 : decode cX6_tiresBy 40 = .ok (.iconst 4, 1) := by decide +kernel
theorem dX6_tiresBy_41 : decode cX6_tiresBy 41 = .ok (.ireturn, 1) := by decide +kernel
theorem dX6_tiresBy_42 : decode cX6_tiresBy 42 = .ok (.iconst 2, 1) := by decide +kernel
theorem dX6_tiresBy_43 : decode cX6_tiresBy 43 = .ok (.ireturn, 1) := by decide +kernel
theorem dX6_farmerAt_0 : decode cX6_farmerAt 0 = .ok (.iconst 0, 1) := by decide +kernel
theorem dX6_farmerAt_1 : decode cX6_farmerAt 1 = .ok (.istore_n 2, 1) := by decide +kernel
theorem dX6_farmerAt_2 : decode cX6_farmerAt 2 = .ok (.iload_n 2, 1) := by decide +kernel
theorem dX6_farmerAt_3 : decode cX6_farmerAt 3 = .ok (.aload_n 0, 1) := by decide +kernel
theorem dX6_farmerAt_4 : decode cX6_farmerAt 4 = .ok (.iconst 1, 1) := by decide +kernel
theorem dX6_farmerAt_5 : decode cX6_farmerAt 5 = .ok (.iaload, 1) := by decide +kernel
theorem dX6_farmerAt_6 : decode cX6_farmerAt 6 = .ok (.if_icmp .ge 22, 3) := by decide +kernel
theorem dX6_farmerAt_9 : decode cX6_farmerAt 9 = .ok (.aload_n 0, 1) := by decide +kernel
theorem dX6_farmerAt_10 : decode cX6_farmerAt 10 = .ok (.iload_n 2, 1) := by decide +kernel
theorem dX6_farmerAt_11 : decode cX6_farmerAt 11 = .ok (.iconst 3, 1) := by decide +kernel
theorem dX6_farmerAt_12 : decode cX6_farmerAt 12 = .ok (.invokestatic 56, 3) := by decide +kernel
theorem dX6_farmerAt_15 : decode cX6_farmerAt 15 = .ok (.iaload, 1) := by decide +kernel
theorem dX6_farmerAt_16 : decode cX6_farmerAt 16 = .ok (.iload_n 1, 1) := by decide +kernel
theorem dX6_farmerAt_17 : decode cX6_farmerAt 17 = .ok (.if_icmp .ne 5, 3) := by decide +kernel
theorem dX6_farmerAt_20 : decode cX6_farmerAt 20 = .ok (.iload_n 2, 1) := by decide +kernel
theorem dX6_farmerAt_21 : decode cX6_farmerAt 21 = .ok (.ireturn, 1) := by decide +kernel
theorem dX6_farmerAt_22 : decode cX6_farmerAt 22 = .ok (.iinc 2 1, 3) := by decide +kernel
theorem dX6_farmerAt_25 : decode cX6_farmerAt 25 = .ok (.goto (-23), 3) := by decide +kernel
theorem dX6_farmerAt_28 : decode cX6_farmerAt 28 = .ok (.bipush (-9), 2) := by decide +kernel
theorem dX6_farmerAt_30 : decode cX6_farmerAt 30 = .ok (.ireturn, 1) := by decide +kernel
theorem dX6_year_0 : decode cX6_year 0 = .ok (.iconst 0, 1) := by decide +kernel
theorem dX6_year_1 : decode cX6_year 1 = .ok (.istore_n 3, 1) := by decide +kernel
theorem dX6_year_2 : decode cX6_year 2 = .ok (.aload_n 1, 1) := by decide +kernel
theorem dX6_year_3 : decode cX6_year 3 = .ok (.iconst 4, 1) := by decide +kernel
theorem dX6_year_4 : decode cX6_year 4 = .ok (.dup2, 1) := by decide +kernel
theorem dX6_year_5 : decode cX6_year 5 = .ok (.iaload, 1) := by decide +kernel
theorem dX6_year_6 : decode cX6_year 6 = .ok (.iconst 1, 1) := by decide +kernel
theorem dX6_year_7 : decode cX6_year 7 = .ok (.iadd, 1) := by decide +kernel
theorem dX6_year_8 : decode cX6_year 8 = .ok (.iastore, 1) := by decide +kernel
theorem dX6_year_9 : decode cX6_year 9 = .ok (.iconst 0, 1) := by decide +kernel
theorem dX6_year_10 : decode cX6_year 10 = .ok (.istore 4, 2) := by decide +kernel
theorem dX6_year_12 : decode cX6_year 12 = .ok (.iload 4, 2) := by decide +kernel
theorem dX6_year_14 : decode cX6_year 14 = .ok (.aload_n 1, 1) := by decide +kernel
theorem dX6_year_15 : decode cX6_year 15 = .ok (.iconst 1, 1) := by decide +kernel
theorem dX6_year_16 : decode cX6_year 16 = .ok (.iaload, 1) := by decide +kernel
theorem dX6_year_17 : decode cX6_year 17 = .ok (.if_icmp .ge 165, 3) := by decide +kernel
theorem dX6_year_20 : decode cX6_year 20 = .ok (.aload_n 1, 1) := by decide +kernel
theorem dX6_year_21 : decode cX6_year 21 = .ok (.iload 4, 2) := by decide +kernel
theorem dX6_year_23 : decode cX6_year 23 = .ok (.iconst 3, 1) := by decide +kernel
theorem dX6_year_24 : decode cX6_year 24 = .ok (.invokestatic 56, 3) := by decide +kernel
theorem dX6_year_27 : decode cX6_year 27 = .ok (.iaload, 1) := by decide +kernel
theorem dX6_year_28 : decode cX6_year 28 = .ok (.istore 5, 2) := by decide +kernel
theorem dX6_year_30 : decode cX6_year 30 = .ok (.iload 5, 2) := by decide +kernel
theorem dX6_year_32 : decode cX6_year 32 = .ok (.ifCond .lt 16, 3) := by decide +kernel
theorem dX6_year_35 : decode cX6_year 35 = .ok (.aload_n 1, 1) := by decide +kernel
theorem dX6_year_36 : decode cX6_year 36 = .ok (.iload 4, 2) := by decide +kernel
theorem dX6_year_38 : decode cX6_year 38 = .ok (.iconst 2, 1) := by decide +kernel
theorem dX6_year_39 : decode cX6_year 39 = .ok (.invokestatic 56, 3) := by decide +kernel
theorem dX6_year_42 : decode cX6_year 42 = .ok (.iaload, 1) := by decide +kernel
theorem dX6_year_43 : decode cX6_year 43 = .ok (.bipush 10, 2) := by decide +kernel
theorem dX6_year_45 : decode cX6_year 45 = .ok (.if_icmp .lt 29, 3) := by decide +kernel
theorem dX6_year_48 : decode cX6_year 48 = .ok (.aload_n 1, 1) := by decide +kernel
theorem dX6_year_49 : decode cX6_year 49 = .ok (.iload 4, 2) := by decide +kernel
theorem dX6_year_51 : decode cX6_year 51 = .ok (.iconst 2, 1) := by decide +kernel
theorem dX6_year_52 : decode cX6_year 52 = .ok (.invokestatic 56, 3) := by decide +kernel
theorem dX6_year_55 : decode cX6_year 55 = .ok (.aload_n 1, 1) := by decide +kernel
theorem dX6_year_56 : decode cX6_year 56 = .ok (.iload 4, 2) := by decide +kernel
theorem dX6_year_58 : decode cX6_year 58 = .ok (.iconst 2, 1) := by decide +kernel
theorem dX6_year_59 : decode cX6_year 59 = .ok (.invokestatic 56, 3) := by decide +kernel
theorem dX6_year_62 : decode cX6_year 62 = .ok (.iaload, 1) := by decide +kernel
theorem dX6_year_63 : decode cX6_year 63 = .ok (.iconst 5, 1) := by decide +kernel
theorem dX6_year_64 : decode cX6_year 64 = .ok (.isub, 1) := by decide +kernel
theorem dX6_year_65 : decode cX6_year 65 = .ok (.bipush 20, 2) := by decide +kernel
theorem dX6_year_67 : decode cX6_year 67 = .ok (.invokestatic 63, 3) := by decide +kernel
theorem dX6_year_70 : decode cX6_year 70 = .ok (.iastore, 1) := by decide +kernel
theorem dX6_year_71 : decode cX6_year 71 = .ok (.goto 105, 3) := by decide +kernel
theorem dX6_year_74 : decode cX6_year 74 = .ok (.iload_n 2, 1) := by decide +kernel
theorem dX6_year_75 : decode cX6_year 75 = .ok (.ifCond .eq 7, 3) := by decide +kernel
theorem dX6_year_78 : decode cX6_year 78 = .ok (.iconst 0, 1) := by decide +kernel
theorem dX6_year_79 : decode cX6_year 79 = .ok (.goto 11, 3) := by decide +kernel
theorem dX6_year_82 : decode cX6_year 82 = .ok (.aload_n 1, 1) := by decide +kernel
theorem dX6_year_83 : decode cX6_year 83 = .ok (.iload 4, 2) := by decide +kernel
theorem dX6_year_85 : decode cX6_year 85 = .ok (.iload 5, 2) := by decide +kernel
theorem dX6_year_87 : decode cX6_year 87 = .ok (.invokestatic 70, 3) := by decide +kernel
theorem dX6_year_90 : decode cX6_year 90 = .ok (.istore 6, 2) := by decide +kernel
theorem dX6_year_92 : decode cX6_year 92 = .ok (.aload_n 0, 1) := by decide +kernel
theorem dX6_year_93 : decode cX6_year 93 = .ok (.getfield 22, 3) := by decide +kernel
theorem dX6_year_96 : decode cX6_year 96 = .ok (.iload 5, 2) := by decide +kernel
theorem dX6_year_98 : decode cX6_year 98 = .ok (.dup2, 1) := by decide +kernel
theorem dX6_year_99 : decode cX6_year 99 = .ok (.iaload, 1) := by decide +kernel
theorem dX6_year_100 : decode cX6_year 100 = .ok (.iload 6, 2) := by decide +kernel
theorem dX6_year_102 : decode cX6_year 102 = .ok (.iadd, 1) := by decide +kernel
theorem dX6_year_103 : decode cX6_year 103 = .ok (.iastore, 1) := by decide +kernel
theorem dX6_year_104 : decode cX6_year 104 = .ok (.aload_n 0, 1) := by decide +kernel
theorem dX6_year_105 : decode cX6_year 105 = .ok (.getfield 25, 3) := by decide +kernel
theorem dX6_year_108 : decode cX6_year 108 = .ok (.iload 4, 2) := by decide +kernel
theorem dX6_year_110 : decode cX6_year 110 = .ok (.dup2, 1) := by decide +kernel
theorem dX6_year_111 : decode cX6_year 111 = .ok (.iaload, 1) := by decide +kernel
theorem dX6_year_112 : decode cX6_year 112 = .ok (.iload 6, 2) := by decide +kernel
theorem dX6_year_114 : decode cX6_year 114 = .ok (.iadd, 1) := by decide +kernel
theorem dX6_year_115 : decode cX6_year 115 = .ok (.iastore, 1) := by decide +kernel
theorem dX6_year_116 : decode cX6_year 116 = .ok (.iload_n 3, 1) := by decide +kernel
theorem dX6_year_117 : decode cX6_year 117 = .ok (.iload 6, 2) := by decide +kernel
theorem dX6_year_119 : decode cX6_year 119 = .ok (.iadd, 1) := by decide +kernel
theorem dX6_year_120 : decode cX6_year 120 = .ok (.istore_n 3, 1) := by decide +kernel
theorem dX6_year_121 : decode cX6_year 121 = .ok (.aload_n 1, 1) := by decide +kernel
theorem dX6_year_122 : decode cX6_year 122 = .ok (.aload_n 1, 1) := by decide +kernel
theorem dX6_year_123 : decode cX6_year 123 = .ok (.iload 4, 2) := by decide +kernel
theorem dX6_year_125 : decode cX6_year 125 = .ok (.iconst 0, 1) := by decide +kernel
theorem dX6_year_126 : decode cX6_year 126 = .ok (.invokestatic 56, 3) := by decide +kernel
theorem dX6_year_129 : decode cX6_year 129 = .ok (.iaload, 1) := by decide +kernel
theorem dX6_year_130 : decode cX6_year 130 = .ok (.aload_n 1, 1) := by decide +kernel
theorem dX6_year_131 : decode cX6_year 131 = .ok (.iload 4, 2) := by decide +kernel
theorem dX6_year_133 : decode cX6_year 133 = .ok (.iconst 1, 1) := by decide +kernel
theorem dX6_year_134 : decode cX6_year 134 = .ok (.invokestatic 56, 3) := by decide +kernel
theorem dX6_year_137 : decode cX6_year 137 = .ok (.iaload, 1) := by decide +kernel
theorem dX6_year_138 : decode cX6_year 138 = .ok (.iload 5, 2) := by decide +kernel
theorem dX6_year_140 : decode cX6_year 140 = .ok (.invokestatic 74, 3) := by decide +kernel
theorem dX6_year_143 : decode cX6_year 143 = .ok (.aload_n 1, 1) := by decide +kernel
theorem dX6_year_144 : decode cX6_year 144 = .ok (.iload 4, 2) := by decide +kernel
theorem dX6_year_146 : decode cX6_year 146 = .ok (.iconst 2, 1) := by decide +kernel
theorem dX6_year_147 : decode cX6_year 147 = .ok (.invokestatic 56, 3) := by decide +kernel
theorem dX6_year_150 : decode cX6_year 150 = .ok (.aload_n 1, 1) := by decide +kernel
theorem dX6_year_151 : decode cX6_year 151 = .ok (.iload 4, 2) := by decide +kernel
theorem dX6_year_153 : decode cX6_year 153 = .ok (.iconst 2, 1) := by decide +kernel
theorem dX6_year_154 : decode cX6_year 154 = .ok (.invokestatic 56, 3) := by decide +kernel
theorem dX6_year_157 : decode cX6_year 157 = .ok (.iaload, 1) := by decide +kernel
theorem dX6_year_158 : decode cX6_year 158 = .ok (.aload_n 1, 1) := by decide +kernel
theorem dX6_year_159 : decode cX6_year 159 = .ok (.iload 4, 2) := by decide +kernel
theorem dX6_year_161 : decode cX6_year 161 = .ok (.iconst 0, 1) := by decide +kernel
theorem dX6_year_162 : decode cX6_year 162 = .ok (.invokestatic 56, 3) := by decide +kernel
theorem dX6_year_165 : decode cX6_year 165 = .ok (.iaload, 1) := by decide +kernel
theorem dX6_year_166 : decode cX6_year 166 = .ok (.invokestatic 77, 3) := by decide +kernel
theorem dX6_year_169 : decode cX6_year 169 = .ok (.iadd, 1) := by decide +kernel
theorem dX6_year_170 : decode cX6_year 170 = .ok (.bipush 20, 2) := by decide +kernel
theorem dX6_year_172 : decode cX6_year 172 = .ok (.invokestatic 63, 3) := by decide +kernel
theorem dX6_year_175 : decode cX6_year 175 = .ok (.iastore, 1) := by decide +kernel
theorem dX6_year_176 : decode cX6_year 176 = .ok (.iinc 4 1, 3) := by decide +kernel
theorem dX6_year_179 : decode cX6_year 179 = .ok (.goto (-167), 3) := by decide +kernel
theorem dX6_year_182 : decode cX6_year 182 = .ok (.aload_n 1, 1) := by decide +kernel
theorem dX6_year_183 : decode cX6_year 183 = .ok (.iconst 3, 1) := by decide +kernel
theorem dX6_year_184 : decode cX6_year 184 = .ok (.aload_n 1, 1) := by decide +kernel
theorem dX6_year_185 : decode cX6_year 185 = .ok (.iconst 3, 1) := by decide +kernel
theorem dX6_year_186 : decode cX6_year 186 = .ok (.iaload, 1) := by decide +kernel
theorem dX6_year_187 : decode cX6_year 187 = .ok (.iload_n 3, 1) := by decide +kernel
theorem dX6_year_188 : decode cX6_year 188 = .ok (.iadd, 1) := by decide +kernel
theorem dX6_year_189 : decode cX6_year 189 = .ok (.sipush 9999, 3) := by decide +kernel
theorem dX6_year_192 : decode cX6_year 192 = .ok (.invokestatic 63, 3) := by decide +kernel
theorem dX6_year_195 : decode cX6_year 195 = .ok (.iastore, 1) := by decide +kernel
theorem dX6_year_196 : decode cX6_year 196 = .ok (.iconst 0, 1) := by decide +kernel
theorem dX6_year_197 : decode cX6_year 197 = .ok (.istore 4, 2) := by decide +kernel
theorem dX6_year_199 : decode cX6_year 199 = .ok (.iload 4, 2) := by decide +kernel
theorem dX6_year_201 : decode cX6_year 201 = .ok (.aload_n 1, 1) := by decide +kernel
theorem dX6_year_202 : decode cX6_year 202 = .ok (.iconst 0, 1) := by decide +kernel
theorem dX6_year_203 : decode cX6_year 203 = .ok (.iaload, 1) := by decide +kernel
theorem dX6_year_204 : decode cX6_year 204 = .ok (.if_icmp .ge 42, 3) := by decide +kernel
theorem dX6_year_207 : decode cX6_year 207 = .ok (.iconst 0, 1) := by decide +kernel
theorem dX6_year_208 : decode cX6_year 208 = .ok (.istore 5, 2) := by decide +kernel
theorem dX6_year_210 : decode cX6_year 210 = .ok (.iload 5, 2) := by decide +kernel
theorem dX6_year_212 : decode cX6_year 212 = .ok (.iconst 3, 1) := by decide +kernel
theorem dX6_year_213 : decode cX6_year 213 = .ok (.if_icmp .ge 27, 3) := by decide +kernel
theorem dX6_year_216 : decode cX6_year 216 = .ok (.aload_n 1, 1) := by decide +kernel
theorem dX6_year_217 : decode cX6_year 217 = .ok (.iload 4, 2) := by decide +kernel
theorem dX6_year_219 : decode cX6_year 219 = .ok (.invokestatic 80, 3) := by decide +kernel
theorem dX6_year_222 : decode cX6_year 222 = .ok (.ifCond .ge 18, 3) := by decide +kernel
theorem dX6_year_225 : decode cX6_year 225 = .ok (.aload_n 1, 1) := by decide +kernel
theorem dX6_year_226 : decode cX6_year 226 = .ok (.iload 4, 2) := by decide +kernel
theorem dX6_year_228 : decode cX6_year 228 = .ok (.iload 5, 2) := by decide +kernel
theorem dX6_year_230 : decode cX6_year 230 = .ok (.iconst 1, 1) := by decide +kernel
theorem dX6_year_231 : decode cX6_year 231 = .ok (.invokestatic 66, 3) := by decide +kernel
theorem dX6_year_234 : decode cX6_year 234 = .ok (.iinc 5 1, 3) := by decide +kernel
theorem dX6_year_237 : decode cX6_year 237 = .ok (.goto (-27), 3) := by decide +kernel
theorem dX6_year_240 : decode cX6_year 240 = .ok (.iinc 4 1, 3) := by decide +kernel
theorem dX6_year_243 : decode cX6_year 243 = .ok (.goto (-44), 3) := by decide +kernel
theorem dX6_year_246 : decode cX6_year 246 = .ok (.iconst 0, 1) := by decide +kernel
theorem dX6_year_247 : decode cX6_year 247 = .ok (.istore 4, 2) := by decide +kernel
theorem dX6_year_249 : decode cX6_year 249 = .ok (.iload 4, 2) := by decide +kernel
theorem dX6_year_251 : decode cX6_year 251 = .ok (.aload_n 1, 1) := by decide +kernel
theorem dX6_year_252 : decode cX6_year 252 = .ok (.iconst 1, 1) := by decide +kernel
theorem dX6_year_253 : decode cX6_year 253 = .ok (.iaload, 1) := by decide +kernel
theorem dX6_year_254 : decode cX6_year 254 = .ok (.if_icmp .ge 44, 3) := by decide +kernel
theorem dX6_year_257 : decode cX6_year 257 = .ok (.aload_n 1, 1) := by decide +kernel
theorem dX6_year_258 : decode cX6_year 258 = .ok (.iload 4, 2) := by decide +kernel
theorem dX6_year_260 : decode cX6_year 260 = .ok (.iconst 3, 1) := by decide +kernel
theorem dX6_year_261 : decode cX6_year 261 = .ok (.invokestatic 56, 3) := by decide +kernel
theorem dX6_year_264 : decode cX6_year 264 = .ok (.iaload, 1) := by decide +kernel
theorem dX6_year_265 : decode cX6_year 265 = .ok (.ifCond .lt 27, 3) := by decide +kernel
theorem dX6_year_268 : decode cX6_year 268 = .ok (.aload_n 1, 1) := by decide +kernel
theorem dX6_year_269 : decode cX6_year 269 = .ok (.iload 4, 2) := by decide +kernel
theorem dX6_year_271 : decode cX6_year 271 = .ok (.iconst 3, 1) := by decide +kernel
theorem dX6_year_272 : decode cX6_year 272 = .ok (.invokestatic 56, 3) := by decide +kernel
theorem dX6_year_275 : decode cX6_year 275 = .ok (.aload_n 1, 1) := by decide +kernel
theorem dX6_year_276 : decode cX6_year 276 = .ok (.iload 4, 2) := by decide +kernel
theorem dX6_year_278 : decode cX6_year 278 = .ok (.iconst 3, 1) := by decide +kernel
theorem dX6_year_279 : decode cX6_year 279 = .ok (.invokestatic 56, 3) := by decide +kernel
theorem dX6_year_282 : decode cX6_year 282 = .ok (.iaload, 1) := by decide +kernel
theorem dX6_year_283 : decode cX6_year 283 = .ok (.aload_n 1, 1) := by decide +kernel
theorem dX6_year_284 : decode cX6_year 284 = .ok (.iconst 2, 1) := by decide +kernel
theorem dX6_year_285 : decode cX6_year 285 = .ok (.iaload, 1) := by decide +kernel
theorem dX6_year_286 : decode cX6_year 286 = .ok (.iadd, 1) := by decide +kernel
theorem dX6_year_287 : decode cX6_year 287 = .ok (.aload_n 1, 1) := by decide +kernel
theorem dX6_year_288 : decode cX6_year 288 = .ok (.iconst 0, 1) := by decide +kernel
theorem dX6_year_289 : decode cX6_year 289 = .ok (.iaload, 1) := by decide +kernel
theorem dX6_year_290 : decode cX6_year 290 = .ok (.irem, 1) := by decide +kernel
theorem dX6_year_291 : decode cX6_year 291 = .ok (.iastore, 1) := by decide +kernel
theorem dX6_year_292 : decode cX6_year 292 = .ok (.iinc 4 1, 3) := by decide +kernel
theorem dX6_year_295 : decode cX6_year 295 = .ok (.goto (-46), 3) := by decide +kernel
theorem dX6_year_298 : decode cX6_year 298 = .ok (.iload_n 3, 1) := by decide +kernel
theorem dX6_year_299 : decode cX6_year 299 = .ok (.ireturn, 1) := by decide +kernel
theorem dX6_yearsOn_0 : decode cX6_yearsOn 0 = .ok (.iconst 0, 1) := by decide +kernel
theorem dX6_yearsOn_1 : decode cX6_yearsOn 1 = .ok (.istore_n 3, 1) := by decide +kernel
theorem dX6_yearsOn_2 : decode cX6_yearsOn 2 = .ok (.iload_n 3, 1) := by decide +kernel
theorem dX6_yearsOn_3 : decode cX6_yearsOn 3 = .ok (.bipush 6, 2) := by decide +kernel
theorem dX6_yearsOn_5 : decode cX6_yearsOn 5 = .ok (.if_icmp .ge 16, 3) := by decide +kernel
theorem dX6_yearsOn_8 : decode cX6_yearsOn 8 = .ok (.aload_n 0, 1) := by decide +kernel
theorem dX6_yearsOn_9 : decode cX6_yearsOn 9 = .ok (.getfield 22, 3) := by decide +kernel
theorem dX6_yearsOn_12 : decode cX6_yearsOn 12 = .ok (.iload_n 3, 1) := by decide +kernel
theorem dX6_yearsOn_13 : decode cX6_yearsOn 13 = .ok (.iconst 0, 1) := by decide +kernel
theorem dX6_yearsOn_14 : decode cX6_yearsOn 14 = .ok (.iastore, 1) := by decide +kernel
theorem dX6_yearsOn_15 : decode cX6_yearsOn 15 = .ok (.iinc 3 1, 3) := by decide +kernel
theorem dX6_yearsOn_18 : decode cX6_yearsOn 18 = .ok (.goto (-16), 3) := by decide +kernel
theorem dX6_yearsOn_21 : decode cX6_yearsOn 21 = .ok (.iconst 0, 1) := by decide +kernel
theorem dX6_yearsOn_22 : decode cX6_yearsOn 22 = .ok (.istore_n 3, 1) := by decide +kernel
theorem dX6_yearsOn_23 : decode cX6_yearsOn 23 = .ok (.iload_n 3, 1) := by decide +kernel
theorem dX6_yearsOn_24 : decode cX6_yearsOn 24 = .ok (.bipush 6, 2) := by decide +kernel
theorem dX6_yearsOn_26 : decode cX6_yearsOn 26 = .ok (.if_icmp .ge 16, 3) := by decide +kernel
theorem dX6_yearsOn_29 : decode cX6_yearsOn 29 = .ok (.aload_n 0, 1) := by decide +kernel
theorem dX6_yearsOn_30 : decode cX6_yearsOn 30 = .ok (.getfield 25, 3) := by decide +kernel
theorem dX6_yearsOn_33 : decode cX6_yearsOn 33 = .ok (.iload_n 3, 1) := by decide +kernel
theorem dX6_yearsOn_34 : decode cX6_yearsOn 34 = .ok (.iconst 0, 1) := by decide +kernel
theorem dX6_yearsOn_35 : decode cX6_yearsOn 35 = .ok (.iastore, 1) := by decide +kernel
theorem dX6_yearsOn_36 : decode cX6_yearsOn 36 = .ok (.iinc 3 1, 3) := by decide +kernel
theorem dX6_yearsOn_39 : decode cX6_yearsOn 39 = .ok (.goto (-16), 3) := by decide +kernel
theorem dX6_yearsOn_42 : decode cX6_yearsOn 42 = .ok (.iconst 0, 1) := by decide +kernel
theorem dX6_yearsOn_43 : decode cX6_yearsOn 43 = .ok (.istore_n 3, 1) := by decide +kernel
theorem dX6_yearsOn_44 : decode cX6_yearsOn 44 = .ok (.iconst 0, 1) := by decide +kernel
theorem dX6_yearsOn_45 : decode cX6_yearsOn 45 = .ok (.istore 4, 2) := by decide +kernel
theorem dX6_yearsOn_47 : decode cX6_yearsOn 47 = .ok (.iload 4, 2) := by decide +kernel
theorem dX6_yearsOn_49 : decode cX6_yearsOn 49 = .ok (.iload_n 2, 1) := by decide +kernel
theorem dX6_yearsOn_50 : decode cX6_yearsOn 50 = .ok (.if_icmp .ge 18, 3) := by decide +kernel
theorem dX6_yearsOn_53 : decode cX6_yearsOn 53 = .ok (.iload_n 3, 1) := by decide +kernel
theorem dX6_yearsOn_54 : decode cX6_yearsOn 54 = .ok (.aload_n 0, 1) := by decide +kernel
theorem dX6_yearsOn_55 : decode cX6_yearsOn 55 = .ok (.aload_n 1, 1) := by decide +kernel
theorem dX6_yearsOn_56 : decode cX6_yearsOn 56 = .ok (.iconst 0, 1) := by decide +kernel
theorem dX6_yearsOn_57 : decode cX6_yearsOn 57 = .ok (.invokevirtual 84, 3) := by decide +kernel
theorem dX6_yearsOn_60 : decode cX6_yearsOn 60 = .ok (.iadd, 1) := by decide +kernel
theorem dX6_yearsOn_61 : decode cX6_yearsOn 61 = .ok (.istore_n 3, 1) := by decide +kernel
theorem dX6_yearsOn_62 : decode cX6_yearsOn 62 = .ok (.iinc 4 1, 3) := by decide +kernel
theorem dX6_yearsOn_65 : decode cX6_yearsOn 65 = .ok (.goto (-18), 3) := by decide +kernel
theorem dX6_yearsOn_68 : decode cX6_yearsOn 68 = .ok (.iload_n 3, 1) := by decide +kernel
theorem dX6_yearsOn_69 : decode cX6_yearsOn 69 = .ok (.ireturn, 1) := by decide +kernel
theorem dX6_green_0 : decode cX6_green 0 = .ok (.aload_n 0, 1) := by decide +kernel
theorem dX6_green_1 : decode cX6_green 1 = .ok (.iload_n 1, 1) := by decide +kernel
theorem dX6_green_2 : decode cX6_green 2 = .ok (.iconst 0, 1) := by decide +kernel
theorem dX6_green_3 : decode cX6_green 3 = .ok (.invokestatic 60, 3) := by decide +kernel
theorem dX6_green_6 : decode cX6_green 6 = .ok (.iaload, 1) := by decide +kernel
theorem dX6_green_7 : decode cX6_green 7 = .ok (.aload_n 0, 1) := by decide +kernel
theorem dX6_green_8 : decode cX6_green 8 = .ok (.iload_n 1, 1) := by decide +kernel
theorem dX6_green_9 : decode cX6_green 9 = .ok (.iconst 1, 1) := by decide +kernel
theorem dX6_green_10 : decode cX6_green 10 = .ok (.invokestatic 60, 3) := by decide +kernel
theorem dX6_green_13 : decode cX6_green 13 = .ok (.iaload, 1) := by decide +kernel
theorem dX6_green_14 : decode cX6_green 14 = .ok (.iadd, 1) := by decide +kernel
theorem dX6_green_15 : decode cX6_green 15 = .ok (.aload_n 0, 1) := by decide +kernel
theorem dX6_green_16 : decode cX6_green 16 = .ok (.iload_n 1, 1) := by decide +kernel
theorem dX6_green_17 : decode cX6_green 17 = .ok (.iconst 2, 1) := by decide +kernel
theorem dX6_green_18 : decode cX6_green 18 = .ok (.invokestatic 60, 3) := by decide +kernel
theorem dX6_green_21 : decode cX6_green 21 = .ok (.iaload, 1) := by decide +kernel
theorem dX6_green_22 : decode cX6_green 22 = .ok (.iadd, 1) := by decide +kernel
theorem dX6_green_23 : decode cX6_green 23 = .ok (.ireturn, 1) := by decide +kernel
theorem dX6_greenAll_0 : decode cX6_greenAll 0 = .ok (.iconst 0, 1) := by decide +kernel
theorem dX6_greenAll_1 : decode cX6_greenAll 1 = .ok (.istore_n 1, 1) := by decide +kernel
theorem dX6_greenAll_2 : decode cX6_greenAll 2 = .ok (.iconst 0, 1) := by decide +kernel
theorem dX6_greenAll_3 : decode cX6_greenAll 3 = .ok (.istore_n 2, 1) := by decide +kernel
theorem dX6_greenAll_4 : decode cX6_greenAll 4 = .ok (.iload_n 2, 1) := by decide +kernel
theorem dX6_greenAll_5 : decode cX6_greenAll 5 = .ok (.aload_n 0, 1) := by decide +kernel
theorem dX6_greenAll_6 : decode cX6_greenAll 6 = .ok (.iconst 0, 1) := by decide +kernel
theorem dX6_greenAll_7 : decode cX6_greenAll 7 = .ok (.iaload, 1) := by decide +kernel
theorem dX6_greenAll_8 : decode cX6_greenAll 8 = .ok (.if_icmp .ge 17, 3) := by decide +kernel
theorem dX6_greenAll_11 : decode cX6_greenAll 11 = .ok (.iload_n 1, 1) := by decide +kernel
theorem dX6_greenAll_12 : decode cX6_greenAll 12 = .ok (.aload_n 0, 1) := by decide +kernel
theorem dX6_greenAll_13 : decode cX6_greenAll 13 = .ok (.iload_n 2, 1) := by decide +kernel
theorem dX6_greenAll_14 : decode cX6_greenAll 14 = .ok (.invokestatic 88, 3) := by decide +kernel
theorem dX6_greenAll_17 : decode cX6_greenAll 17 = .ok (.iadd, 1) := by decide +kernel
theorem dX6_greenAll_18 : decode cX6_greenAll 18 = .ok (.istore_n 1, 1) := by decide +kernel
theorem dX6_greenAll_19 : decode cX6_greenAll 19 = .ok (.iinc 2 1, 3) := by decide +kernel
theorem dX6_greenAll_22 : decode cX6_greenAll 22 = .ok (.goto (-18), 3) := by decide +kernel
theorem dX6_greenAll_25 : decode cX6_greenAll 25 = .ok (.iload_n 1, 1) := by decide +kernel
theorem dX6_greenAll_26 : decode cX6_greenAll 26 = .ok (.ireturn, 1) := by decide +kernel
theorem dX6_sitsIn_0 : decode cX6_sitsIn 0 = .ok (.aload_n 0, 1) := by decide +kernel
theorem dX6_sitsIn_1 : decode cX6_sitsIn 1 = .ok (.iload_n 2, 1) := by decide +kernel
theorem dX6_sitsIn_2 : decode cX6_sitsIn 2 = .ok (.invokestatic 80, 3) := by decide +kernel
theorem dX6_sitsIn_5 : decode cX6_sitsIn 5 = .ok (.istore_n 3, 1) := by decide +kernel
theorem dX6_sitsIn_6 : decode cX6_sitsIn 6 = .ok (.iload_n 3, 1) := by decide +kernel
theorem dX6_sitsIn_7 : decode cX6_sitsIn 7 = .ok (.ifCond .lt 12, 3) := by decide +kernel
theorem dX6_sitsIn_10 : decode cX6_sitsIn 10 = .ok (.aload_n 0, 1) := by decide +kernel
theorem dX6_sitsIn_11 : decode cX6_sitsIn 11 = .ok (.iload_n 3, 1) := by decide +kernel
theorem dX6_sitsIn_12 : decode cX6_sitsIn 12 = .ok (.iconst 3, 1) := by decide +kernel
theorem dX6_sitsIn_13 : decode cX6_sitsIn 13 = .ok (.invokestatic 56, 3) := by decide +kernel
theorem dX6_sitsIn_16 : decode cX6_sitsIn 16 = .ok (.bipush (-9), 2) := by decide +kernel
theorem dX6_sitsIn_18 : decode cX6_sitsIn 18 = .ok (.iastore, 1) := by decide +kernel
theorem dX6_sitsIn_19 : decode cX6_sitsIn 19 = .ok (.aload_n 0, 1) := by decide +kernel
theorem dX6_sitsIn_20 : decode cX6_sitsIn 20 = .ok (.iload_n 1, 1) := by decide +kernel
theorem dX6_sitsIn_21 : decode cX6_sitsIn 21 = .ok (.iconst 3, 1) := by decide +kernel
theorem dX6_sitsIn_22 : decode cX6_sitsIn 22 = .ok (.invokestatic 56, 3) := by decide +kernel
theorem dX6_sitsIn_25 : decode cX6_sitsIn 25 = .ok (.iload_n 2, 1) := by decide +kernel
theorem dX6_sitsIn_26 : decode cX6_sitsIn 26 = .ok (.iastore, 1) := by decide +kernel
theorem dX6_sitsIn_27 : decode cX6_sitsIn 27 = .ok (.return_, 1) := by decide +kernel
theorem dX6_letter_0 : decode cX6_letter 0 = .ok (.iload_n 1, 1) := by decide +kernel
theorem dX6_letter_1 : decode cX6_letter 1 = .ok (.ifCond .ge 10, 3) := by decide +kernel
theorem dX6_letter_4 : decode cX6_letter 4 = .ok (.aload_n 0, 1) := by decide +kernel
theorem dX6_letter_5 : decode cX6_letter 5 = .ok (.bipush (-4), 2) := by decide +kernel
theorem dX6_letter_7 : decode cX6_letter 7 = .ok (.invokevirtual 48, 3) := by decide +kernel
theorem dX6_letter_10 : decode cX6_letter 10 = .ok (.ireturn, 1) := by decide +kernel
theorem dX6_letter_11 : decode cX6_letter 11 = .ok (.iload_n 1, 1) := by decide +kernel
theorem dX6_letter_12 : decode cX6_letter 12 = .ok (.sipush 255, 3) := by decide +kernel
theorem dX6_letter_15 : decode cX6_letter 15 = .ok (.if_icmp .gt 12, 3) := by decide +kernel
theorem dX6_letter_18 : decode cX6_letter 18 = .ok (.aload_n 0, 1) := by decide +kernel
theorem dX6_letter_19 : decode cX6_letter 19 = .ok (.getfield 91, 3) := by decide +kernel
theorem dX6_letter_22 : decode cX6_letter 22 = .ok (.bipush 96, 2) := by decide +kernel
theorem dX6_letter_24 : decode cX6_letter 24 = .ok (.if_icmp .ne 10, 3) := by decide +kernel
theorem dX6_letter_27 : decode cX6_letter 27 = .ok (.aload_n 0, 1) := by decide +kernel
theorem dX6_letter_28 : decode cX6_letter 28 = .ok (.bipush (-6), 2) := by decide +kernel
theorem dX6_letter_30 : decode cX6_letter 30 = .ok (.invokevirtual 48, 3) := by decide +kernel
theorem dX6_letter_33 : decode cX6_letter 33 = .ok (.ireturn, 1) := by decide +kernel
theorem dX6_letter_34 : decode cX6_letter 34 = .ok (.aload_n 0, 1) := by decide +kernel
theorem dX6_letter_35 : decode cX6_letter 35 = .ok (.getfield 28, 3) := by decide +kernel
theorem dX6_letter_38 : decode cX6_letter 38 = .ok (.aload_n 0, 1) := by decide +kernel
theorem dX6_letter_39 : decode cX6_letter 39 = .ok (.getfield 91, 3) := by decide +kernel
theorem dX6_letter_42 : decode cX6_letter 42 = .ok (.iload_n 1, 1) := by decide +kernel
theorem dX6_letter_43 : decode cX6_letter 43 = .ok (.iastore, 1) := by decide +kernel
theorem dX6_letter_44 : decode cX6_letter 44 = .ok (.aload_n 0, 1) := by decide +kernel
theorem dX6_letter_45 : decode cX6_letter 45 = .ok (.dup, 1) := by decide +kernel
theorem dX6_letter_46 : decode cX6_letter 46 = .ok (.getfield 91, 3) := by decide +kernel
theorem dX6_letter_49 : decode cX6_letter 49 = .ok (.iconst 1, 1) := by decide +kernel
theorem dX6_letter_50 : decode cX6_letter 50 = .ok (.iadd, 1) := by decide +kernel
theorem dX6_letter_51 : decode cX6_letter 51 = .ok (.putfield 91, 3) := by decide +kernel
theorem dX6_letter_54 : decode cX6_letter 54 = .ok (.aload_n 0, 1) := by decide +kernel
theorem dX6_letter_55 : decode cX6_letter 55 = .ok (.getfield 91, 3) := by decide +kernel
theorem dX6_letter_58 : decode cX6_letter 58 = .ok (.ireturn, 1) := by decide +kernel
theorem dX6_here_0 : decode cX6_here 0 = .ok (.aload_n 0, 1) := by decide +kernel
theorem dX6_here_1 : decode cX6_here 1 = .ok (.getfield 95, 3) := by decide +kernel
theorem dX6_here_4 : decode cX6_here 4 = .ok (.aload_n 0, 1) := by decide +kernel
theorem dX6_here_5 : decode cX6_here 5 = .ok (.getfield 91, 3) := by decide +kernel
theorem dX6_here_8 : decode cX6_here 8 = .ok (.if_icmp .ge 15, 3) := by decide +kernel
theorem dX6_here_11 : decode cX6_here 11 = .ok (.aload_n 0, 1) := by decide +kernel
theorem dX6_here_12 : decode cX6_here 12 = .ok (.getfield 28, 3) := by decide +kernel
theorem dX6_here_15 : decode cX6_here 15 = .ok (.aload_n 0, 1) := by decide +kernel
theorem dX6_here_16 : decode cX6_here 16 = .ok (.getfield 95, 3) := by decide +kernel
theorem dX6_here_19 : decode cX6_here 19 = .ok (.iaload, 1) := by decide +kernel
theorem dX6_here_20 : decode cX6_here 20 = .ok (.goto 4, 3) := by decide +kernel
theorem dX6_here_23 : decode cX6_here 23 = .ok (.iconst (-1), 1) := by decide +kernel
theorem dX6_here_24 : decode cX6_here 24 = .ok (.ireturn, 1) := by decide +kernel
theorem dX6_readsNumber_0 : decode cX6_readsNumber 0 = .ok (.aload_n 0, 1) := by decide +kernel
theorem dX6_readsNumber_1 : decode cX6_readsNumber 1 = .ok (.getfield 37, 3) := by decide +kernel
theorem dX6_readsNumber_4 : decode cX6_readsNumber 4 = .ok (.iload_n 1, 1) := by decide +kernel
theorem dX6_readsNumber_5 : decode cX6_readsNumber 5 = .ok (.iconst 0, 1) := by decide +kernel
theorem dX6_readsNumber_6 : decode cX6_readsNumber 6 = .ok (.iastore, 1) := by decide +kernel
theorem dX6_readsNumber_7 : decode cX6_readsNumber 7 = .ok (.iconst 0, 1) := by decide +kernel
theorem dX6_readsNumber_8 : decode cX6_readsNumber 8 = .ok (.istore_n 3, 1) := by decide +kernel
theorem dX6_readsNumber_9 : decode cX6_readsNumber 9 = .ok (.iload_n 3, 1) := by decide +kernel
theorem dX6_readsNumber_10 : decode cX6_readsNumber 10 = .ok (.iload_n 2, 1) := by decide +kernel
theorem dX6_readsNumber_11 : decode cX6_readsNumber 11 = .ok (.if_icmp .ge 58, 3) := by decide +kernel
theorem dX6_readsNumber_14 : decode cX6_readsNumber 14 = .ok (.aload_n 0, 1) := by decide +kernel
theorem dX6_readsNumber_15 : decode cX6_readsNumber 15 = .ok (.invokevirtual 98, 3) := by decide +kernel
theorem dX6_readsNumber_18 : decode cX6_readsNumber 18 = .ok (.bipush 48, 2) := by decide +kernel
theorem dX6_readsNumber_20 : decode cX6_readsNumber 20 = .ok (.bipush 57, 2) := by decide +kernel
theorem dX6_readsNumber_22 : decode cX6_readsNumber 22 = .ok (.invokestatic 52, 3) := by decide +kernel
theorem dX6_readsNumber_25 : decode cX6_readsNumber 25 = .ok (.ifCond .ne 5, 3) := by decide +kernel
theorem dX6_readsNumber_28 : decode cX6_readsNumber 28 = .ok (.iconst 0, 1) := by decide +kernel
theorem dX6_readsNumber_29 : decode cX6_readsNumber 29 = .ok (.ireturn, 1) := by decide +kernel
theorem dX6_readsNumber_30 : decode cX6_readsNumber 30 = .ok (.aload_n 0, 1) := by decide +kernel
theorem dX6_readsNumber_31 : decode cX6_readsNumber 31 = .ok (.getfield 37, 3) := by decide +kernel
theorem dX6_readsNumber_34 : decode cX6_readsNumber 34 = .ok (.iload_n 1, 1) := by decide +kernel
theorem dX6_readsNumber_35 : decode cX6_readsNumber 35 = .ok (.bipush 10, 2) := by decide +kernel
theorem dX6_readsNumber_37 : decode cX6_readsNumber 37 = .ok (.aload_n 0, 1) := by decide +kernel
theorem dX6_readsNumber_38 : decode cX6_readsNumber 38 = .ok (.getfield 37, 3) := by decide +kernel
theorem dX6_readsNumber_41 : decode cX6_readsNumber 41 = .ok (.iload_n 1, 1) := by decide +kernel
theorem dX6_readsNumber_42 : decode cX6_readsNumber 42 = .ok (.iaload, 1) := by decide +kernel
theorem dX6_readsNumber_43 : decode cX6_readsNumber 43 = .ok (.imul, 1) := by decide +kernel
theorem dX6_readsNumber_44 : decode cX6_readsNumber 44 = .ok (.aload_n 0, 1) := by decide +kernel
theorem dX6_readsNumber_45 : decode cX6_readsNumber 45 = .ok (.invokevirtual 98, 3) := by decide +kernel
theorem dX6_readsNumber_48 : decode cX6_readsNumber 48 = .ok (.iadd, 1) := by decide +kernel
theorem dX6_readsNumber_49 : decode cX6_readsNumber 49 = .ok (.bipush 48, 2) := by decide +kernel
theorem dX6_readsNumber_51 : decode cX6_readsNumber 51 = .ok (.isub, 1) := by decide +kernel
theorem dX6_readsNumber_52 : decode cX6_readsNumber 52 = .ok (.iastore, 1) := by decide +kernel
theorem dX6_readsNumber_53 : decode cX6_readsNumber 53 = .ok (.aload_n 0, 1) := by decide +kernel
theorem dX6_readsNumber_54 : decode cX6_readsNumber 54 = .ok (.dup, 1) := by decide +kernel
theorem dX6_readsNumber_55 : decode cX6_readsNumber 55 = .ok (.getfield 95, 3) := by decide +kernel
theorem dX6_readsNumber_58 : decode cX6_readsNumber 58 = .ok (.iconst 1, 1) := by decide +kernel
theorem dX6_readsNumber_59 : decode cX6_readsNumber 59 = .ok (.iadd, 1) := by decide +kernel
theorem dX6_readsNumber_60 : decode cX6_readsNumber 60 = .ok (.putfield 95, 3) := by decide +kernel
theorem dX6_readsNumber_63 : decode cX6_readsNumber 63 = .ok (.iinc 3 1, 3) := by decide +kernel
theorem dX6_readsNumber_66 : decode cX6_readsNumber 66 = .ok (.goto (-57), 3) := by decide +kernel
theorem dX6_readsNumber_69 : decode cX6_readsNumber 69 = .ok (.iconst 1, 1) := by decide +kernel
theorem dX6_readsNumber_70 : decode cX6_readsNumber 70 = .ok (.ireturn, 1) := by decide +kernel
theorem dX6_kindBy_0 : decode cX6_kindBy 0 = .ok (.iload_n 0, 1) := by decide +kernel
theorem dX6_kindBy_1 : decode cX6_kindBy 1 = .ok (.lookupswitch 71 #[(99, 65), (102, 67), (109, 69), (114, 63), (116, 61), (119, 59)], 59) := by decide +kernel
theorem dX6_kindBy_60 : decode cX6_kindBy 60 = .ok (.iconst 0, 1) := by decide +kernel
theorem dX6_kindBy_61 : decode cX6_kindBy 61 = .ok (.ireturn, 1) := by decide +kernel
theorem dX6_kindBy_62 : decode cX6_kindBy 62 = .ok (.iconst 1, 1) := by decide +kernel
theorem dX6_kindBy_63 : decode cX6_kindBy 63 = .ok (.ireturn, 1) := by decide +kernel
theorem dX6_kindBy_64 : decode cX6_kindBy 64 = .ok (.iconst 2, 1) := by decide +kernel
theorem dX6_kindBy_65 : decode cX6_kindBy 65 = .ok (.ireturn, 1) := by decide +kernel
theorem dX6_kindBy_66 : decode cX6_kindBy 66 = .ok (.iconst 3, 1) := by decide +kernel
theorem dX6_kindBy_67 : decode cX6_kindBy 67 = .ok (.ireturn, 1) := by decide +kernel
theorem dX6_kindBy_68 : decode cX6_kindBy 68 = .ok (.iconst 4, 1) := by decide +kernel
theorem dX6_kindBy_69 : decode cX6_kindBy 69 = .ok (.ireturn, 1) := by decide +kernel
theorem dX6_kindBy_70 : decode cX6_kindBy 70 = .ok (.iconst 5, 1) := by decide +kernel
theorem dX6_kindBy_71 : decode cX6_kindBy 71 = .ok (.ireturn, 1) := by decide +kernel
theorem dX6_kindBy_72 : decode cX6_kindBy 72 = .ok (.bipush (-9), 2) := by decide +kernel
theorem dX6_kindBy_74 : decode cX6_kindBy 74 = .ok (.ireturn, 1) := by decide +kernel
theorem dX6_readsKind_0 : decode cX6_readsKind 0 = .ok (.aload_n 0, 1) := by decide +kernel
theorem dX6_readsKind_1 : decode cX6_readsKind 1 = .ok (.getfield 37, 3) := by decide +kernel
theorem dX6_readsKind_4 : decode cX6_readsKind 4 = .ok (.iconst 0, 1) := by decide +kernel
theorem dX6_readsKind_5 : decode cX6_readsKind 5 = .ok (.aload_n 0, 1) := by decide +kernel
theorem dX6_readsKind_6 : decode cX6_readsKind 6 = .ok (.invokevirtual 98, 3) := by decide +kernel
theorem dX6_readsKind_9 : decode cX6_readsKind 9 = .ok (.invokestatic 102, 3) := by decide +kernel
theorem dX6_readsKind_12 : decode cX6_readsKind 12 = .ok (.iastore, 1) := by decide +kernel
theorem dX6_readsKind_13 : decode cX6_readsKind 13 = .ok (.aload_n 0, 1) := by decide +kernel
theorem dX6_readsKind_14 : decode cX6_readsKind 14 = .ok (.dup, 1) := by decide +kernel
theorem dX6_readsKind_15 : decode cX6_readsKind 15 = .ok (.getfield 95, 3) := by decide +kernel
theorem dX6_readsKind_18 : decode cX6_readsKind 18 = .ok (.aload_n 0, 1) := by decide +kernel
theorem dX6_readsKind_19 : decode cX6_readsKind 19 = .ok (.getfield 37, 3) := by decide +kernel
theorem dX6_readsKind_22 : decode cX6_readsKind 22 = .ok (.iconst 0, 1) := by decide +kernel
theorem dX6_readsKind_23 : decode cX6_readsKind 23 = .ok (.iaload, 1) := by decide +kernel
theorem dX6_readsKind_24 : decode cX6_readsKind 24 = .ok (.ifCond .ge 7, 3) := by decide +kernel
theorem dX6_readsKind_27 : decode cX6_readsKind 27 = .ok (.iconst 0, 1) := by decide +kernel
theorem dX6_readsKind_28 : decode cX6_readsKind 28 = .ok (.goto 4, 3) := by decide +kernel
theorem dX6_readsKind_31 : decode cX6_readsKind 31 = .ok (.iconst 1, 1) := by decide +kernel
theorem dX6_readsKind_32 : decode cX6_readsKind 32 = .ok (.iadd, 1) := by decide +kernel
theorem dX6_readsKind_33 : decode cX6_readsKind 33 = .ok (.putfield 95, 3) := by decide +kernel
theorem dX6_readsKind_36 : decode cX6_readsKind 36 = .ok (.aload_n 0, 1) := by decide +kernel
theorem dX6_readsKind_37 : decode cX6_readsKind 37 = .ok (.getfield 37, 3) := by decide +kernel
theorem dX6_readsKind_40 : decode cX6_readsKind 40 = .ok (.iconst 0, 1) := by decide +kernel
theorem dX6_readsKind_41 : decode cX6_readsKind 41 = .ok (.iaload, 1) := by decide +kernel
theorem dX6_readsKind_42 : decode cX6_readsKind 42 = .ok (.ifCond .lt 7, 3) := by decide +kernel
theorem dX6_readsKind_45 : decode cX6_readsKind 45 = .ok (.iconst 1, 1) := by decide +kernel
theorem dX6_readsKind_46 : decode cX6_readsKind 46 = .ok (.goto 4, 3) := by decide +kernel
theorem dX6_readsKind_49 : decode cX6_readsKind 49 = .ok (.iconst 0, 1) := by decide +kernel
theorem dX6_readsKind_50 : decode cX6_readsKind 50 = .ok (.ireturn, 1) := by decide +kernel
theorem dX6_readsStatement_0 : decode cX6_readsStatement 0 = .ok (.aload_n 0, 1) := by decide +kernel
theorem dX6_readsStatement_1 : decode cX6_readsStatement 1 = .ok (.invokevirtual 98, 3) := by decide +kernel
theorem dX6_readsStatement_4 : decode cX6_readsStatement 4 = .ok (.istore_n 1, 1) := by decide +kernel
theorem dX6_readsStatement_5 : decode cX6_readsStatement 5 = .ok (.aload_n 0, 1) := by decide +kernel
theorem dX6_readsStatement_6 : decode cX6_readsStatement 6 = .ok (.dup, 1) := by decide +kernel
theorem dX6_readsStatement_7 : decode cX6_readsStatement 7 = .ok (.getfield 95, 3) := by decide +kernel
theorem dX6_readsStatement_10 : decode cX6_readsStatement 10 = .ok (.iconst 1, 1) := by decide +kernel
theorem dX6_readsStatement_11 : decode cX6_readsStatement 11 = .ok (.iadd, 1) := by decide +kernel
theorem dX6_readsStatement_12 : decode cX6_readsStatement 12 = .ok (.putfield 95, 3) := by decide +kernel
theorem dX6_readsStatement_15 : decode cX6_readsStatement 15 = .ok (.iload_n 1, 1) := by decide +kernel
theorem dX6_readsStatement_16 : decode cX6_readsStatement 16 = .ok (.tableswitch 260 97 121 #[177, 260, 260, 260, 260, 116, 260, 214, 260, 260, 260, 260, 260, 260, 204, 152, 260, 260, 204, 260, 260, 260, 260, 260, 250], 116) := by decide +kernel
theorem dX6_readsStatement_132 : decode cX6_readsStatement 132 = .ok (.aload_n 0, 1) := by decide +kernel
theorem dX6_readsStatement_133 : decode cX6_readsStatement 133 = .ok (.iconst 0, 1) := by decide +kernel
theorem dX6_readsStatement_134 : decode cX6_readsStatement 134 = .ok (.iconst 2, 1) := by decide +kernel
theorem dX6_readsStatement_135 : decode cX6_readsStatement 135 = .ok (.invokevirtual 105, 3) := by decide +kernel
theorem dX6_readsStatement_138 : decode cX6_readsStatement 138 = .ok (.ifCond .eq 25, 3) := by decide +kernel
theorem dX6_readsStatement_141 : decode cX6_readsStatement 141 = .ok (.aload_n 0, 1) := by decide +kernel
theorem dX6_readsStatement_142 : decode cX6_readsStatement 142 = .ok (.iconst 1, 1) := by decide +kernel
theorem dX6_readsStatement_143 : decode cX6_readsStatement 143 = .ok (.iconst 2, 1) := by decide +kernel
theorem dX6_readsStatement_144 : decode cX6_readsStatement 144 = .ok (.invokevirtual 105, 3) := by decide +kernel
theorem dX6_readsStatement_147 : decode cX6_readsStatement 147 = .ok (.ifCond .eq 16, 3) := by decide +kernel
theorem dX6_readsStatement_150 : decode cX6_readsStatement 150 = .ok (.aload_n 0, 1) := by decide +kernel
theorem dX6_readsStatement_151 : decode cX6_readsStatement 151 = .ok (.iconst 2, 1) := by decide +kernel
theorem dX6_readsStatement_152 : decode cX6_readsStatement 152 = .ok (.iconst 2, 1) := by decide +kernel
theorem dX6_readsStatement_153 : decode cX6_readsStatement 153 = .ok (.invokevirtual 105, 3) := by decide +kernel
theorem dX6_readsStatement_156 : decode cX6_readsStatement 156 = .ok (.ifCond .eq 7, 3) := by decide +kernel
theorem dX6_readsStatement_159 : decode cX6_readsStatement 159 = .ok (.iconst 1, 1) := by decide +kernel
theorem dX6_readsStatement_160 : decode cX6_readsStatement 160 = .ok (.goto 4, 3) := by decide +kernel
theorem dX6_readsStatement_163 : decode cX6_readsStatement 163 = .ok (.iconst 0, 1) := by decide +kernel
theorem dX6_readsStatement_164 : decode cX6_readsStatement 164 = .ok (.istore_n 2, 1) := by decide +kernel
theorem dX6_readsStatement_165 : decode cX6_readsStatement 165 = .ok (.goto 123, 3) := by decide +kernel
theorem dX6_readsStatement_168 : decode cX6_readsStatement 168 = .ok (.aload_n 0, 1) := by decide +kernel
theorem dX6_readsStatement_169 : decode cX6_readsStatement 169 = .ok (.invokevirtual 109, 3) := by decide +kernel
theorem dX6_readsStatement_172 : decode cX6_readsStatement 172 = .ok (.ifCond .eq 16, 3) := by decide +kernel
theorem dX6_readsStatement_175 : decode cX6_readsStatement 175 = .ok (.aload_n 0, 1) := by decide +kernel
theorem dX6_readsStatement_176 : decode cX6_readsStatement 176 = .ok (.iconst 1, 1) := by decide +kernel
theorem dX6_readsStatement_177 : decode cX6_readsStatement 177 = .ok (.iconst 1, 1) := by decide +kernel
theorem dX6_readsStatement_178 : decode cX6_readsStatement 178 = .ok (.invokevirtual 105, 3) := by decide +kernel
theorem dX6_readsStatement_181 : decode cX6_readsStatement 181 = .ok (.ifCond .eq 7, 3) := by decide +kernel
theorem dX6_readsStatement_184 : decode cX6_readsStatement 184 = .ok (.iconst 1, 1) := by decide +kernel
theorem dX6_readsStatement_185 : decode cX6_readsStatement 185 = .ok (.goto 4, 3) := by decide +kernel
theorem dX6_readsStatement_188 : decode cX6_readsStatement 188 = .ok (.iconst 0, 1) := by decide +kernel
theorem dX6_readsStatement_189 : decode cX6_readsStatement 189 = .ok (.istore_n 2, 1) := by decide +kernel
theorem dX6_readsStatement_190 : decode cX6_readsStatement 190 = .ok (.goto 98, 3) := by decide +kernel
theorem dX6_readsStatement_193 : decode cX6_readsStatement 193 = .ok (.aload_n 0, 1) := by decide +kernel
theorem dX6_readsStatement_194 : decode cX6_readsStatement 194 = .ok (.iconst 0, 1) := by decide +kernel
theorem dX6_readsStatement_195 : decode cX6_readsStatement 195 = .ok (.iconst 1, 1) := by decide +kernel
theorem dX6_readsStatement_196 : decode cX6_readsStatement 196 = .ok (.invokevirtual 105, 3) := by decide +kernel
theorem dX6_readsStatement_199 : decode cX6_readsStatement 199 = .ok (.ifCond .eq 16, 3) := by decide +kernel
theorem dX6_readsStatement_202 : decode cX6_readsStatement 202 = .ok (.aload_n 0, 1) := by decide +kernel
theorem dX6_readsStatement_203 : decode cX6_readsStatement 203 = .ok (.iconst 1, 1) := by decide +kernel
theorem dX6_readsStatement_204 : decode cX6_readsStatement 204 = .ok (.iconst 1, 1) := by decide +kernel
theorem dX6_readsStatement_205 : decode cX6_readsStatement 205 = .ok (.invokevirtual 105, 3) := by decide +kernel
theorem dX6_readsStatement_208 : decode cX6_readsStatement 208 = .ok (.ifCond .eq 7, 3) := by decide +kernel
theorem dX6_readsStatement_211 : decode cX6_readsStatement 211 = .ok (.iconst 1, 1) := by decide +kernel
theorem dX6_readsStatement_212 : decode cX6_readsStatement 212 = .ok (.goto 4, 3) := by decide +kernel
theorem dX6_readsStatement_215 : decode cX6_readsStatement 215 = .ok (.iconst 0, 1) := by decide +kernel
theorem dX6_readsStatement_216 : decode cX6_readsStatement 216 = .ok (.istore_n 2, 1) := by decide +kernel
theorem dX6_readsStatement_217 : decode cX6_readsStatement 217 = .ok (.goto 71, 3) := by decide +kernel
theorem dX6_readsStatement_220 : decode cX6_readsStatement 220 = .ok (.aload_n 0, 1) := by decide +kernel
theorem dX6_readsStatement_221 : decode cX6_readsStatement 221 = .ok (.iconst 0, 1) := by decide +kernel
theorem dX6_readsStatement_222 : decode cX6_readsStatement 222 = .ok (.iconst 1, 1) := by decide +kernel
theorem dX6_readsStatement_223 : decode cX6_readsStatement 223 = .ok (.invokevirtual 105, 3) := by decide +kernel
theorem dX6_readsStatement_226 : decode cX6_readsStatement 226 = .ok (.istore_n 2, 1) := by decide +kernel
theorem dX6_readsStatement_227 : decode cX6_readsStatement 227 = .ok (.goto 61, 3) := by decide +kernel
theorem dX6_readsStatement_230 : decode cX6_readsStatement 230 = .ok (.aload_n 0, 1) := by decide +kernel
theorem dX6_readsStatement_231 : decode cX6_readsStatement 231 = .ok (.iconst 0, 1) := by decide +kernel
theorem dX6_readsStatement_232 : decode cX6_readsStatement 232 = .ok (.iconst 1, 1) := by decide +kernel
theorem dX6_readsStatement_233 : decode cX6_readsStatement 233 = .ok (.invokevirtual 105, 3) := by decide +kernel
theorem dX6_readsStatement_236 : decode cX6_readsStatement 236 = .ok (.ifCond .eq 25, 3) := by decide +kernel
theorem dX6_readsStatement_239 : decode cX6_readsStatement 239 = .ok (.aload_n 0, 1) := by decide +kernel
theorem dX6_readsStatement_240 : decode cX6_readsStatement 240 = .ok (.iconst 1, 1) := by decide +kernel
theorem dX6_readsStatement_241 : decode cX6_readsStatement 241 = .ok (.iconst 1, 1) := by decide +kernel
theorem dX6_readsStatement_242 : decode cX6_readsStatement 242 = .ok (.invokevirtual 105, 3) := by decide +kernel
theorem dX6_readsStatement_245 : decode cX6_readsStatement 245 = .ok (.ifCond .eq 16, 3) := by decide +kernel
theorem dX6_readsStatement_248 : decode cX6_readsStatement 248 = .ok (.aload_n 0, 1) := by decide +kernel
theorem dX6_readsStatement_249 : decode cX6_readsStatement 249 = .ok (.iconst 2, 1) := by decide +kernel
theorem dX6_readsStatement_250 : decode cX6_readsStatement 250 = .ok (.iconst 2, 1) := by decide +kernel
theorem dX6_readsStatement_251 : decode cX6_readsStatement 251 = .ok (.invokevirtual 105, 3) := by decide +kernel
theorem dX6_readsStatement_254 : decode cX6_readsStatement 254 = .ok (.ifCond .eq 7, 3) := by decide +kernel
theorem dX6_readsStatement_257 : decode cX6_readsStatement 257 = .ok (.iconst 1, 1) := by decide +kernel
theorem dX6_readsStatement_258 : decode cX6_readsStatement 258 = .ok (.goto 4, 3) := by decide +kernel
theorem dX6_readsStatement_261 : decode cX6_readsStatement 261 = .ok (.iconst 0, 1) := by decide +kernel
theorem dX6_readsStatement_262 : decode cX6_readsStatement 262 = .ok (.istore_n 2, 1) := by decide +kernel
theorem dX6_readsStatement_263 : decode cX6_readsStatement 263 = .ok (.goto 25, 3) := by decide +kernel
theorem dX6_readsStatement_266 : decode cX6_readsStatement 266 = .ok (.aload_n 0, 1) := by decide +kernel
theorem dX6_readsStatement_267 : decode cX6_readsStatement 267 = .ok (.iconst 0, 1) := by decide +kernel
theorem dX6_readsStatement_268 : decode cX6_readsStatement 268 = .ok (.iconst 2, 1) := by decide +kernel
theorem dX6_readsStatement_269 : decode cX6_readsStatement 269 = .ok (.invokevirtual 105, 3) := by decide +kernel
theorem dX6_readsStatement_272 : decode cX6_readsStatement 272 = .ok (.istore_n 2, 1) := by decide +kernel
theorem dX6_readsStatement_273 : decode cX6_readsStatement 273 = .ok (.goto 15, 3) := by decide +kernel
theorem dX6_readsStatement_276 : decode cX6_readsStatement 276 = .ok (.aload_n 0, 1) := by decide +kernel
theorem dX6_readsStatement_277 : decode cX6_readsStatement 277 = .ok (.dup, 1) := by decide +kernel
theorem dX6_readsStatement_278 : decode cX6_readsStatement 278 = .ok (.getfield 95, 3) := by decide +kernel
theorem dX6_readsStatement_281 : decode cX6_readsStatement 281 = .ok (.iconst 1, 1) := by decide +kernel
theorem dX6_readsStatement_282 : decode cX6_readsStatement 282 = .ok (.isub, 1) := by decide +kernel
theorem dX6_readsStatement_283 : decode cX6_readsStatement 283 = .ok (.putfield 95, 3) := by decide +kernel
theorem dX6_readsStatement_286 : decode cX6_readsStatement 286 = .ok (.iconst 0, 1) := by decide +kernel
theorem dX6_readsStatement_287 : decode cX6_readsStatement 287 = .ok (.ireturn, 1) := by decide +kernel
theorem dX6_readsStatement_288 : decode cX6_readsStatement 288 = .ok (.iload_n 2, 1) := by decide +kernel
theorem dX6_readsStatement_289 : decode cX6_readsStatement 289 = .ok (.ifCond .eq 12, 3) := by decide +kernel
theorem dX6_readsStatement_292 : decode cX6_readsStatement 292 = .ok (.aload_n 0, 1) := by decide +kernel
theorem dX6_readsStatement_293 : decode cX6_readsStatement 293 = .ok (.invokevirtual 98, 3) := by decide +kernel
theorem dX6_readsStatement_296 : decode cX6_readsStatement 296 = .ok (.bipush 59, 2) := by decide +kernel
theorem dX6_readsStatement_298 : decode cX6_readsStatement 298 = .ok (.if_icmp .eq 5, 3) := by decide +kernel
theorem dX6_readsStatement_301 : decode cX6_readsStatement 301 = .ok (.iconst 0, 1) := by decide +kernel
theorem dX6_readsStatement_302 : decode cX6_readsStatement 302 = .ok (.ireturn, 1) := by decide +kernel
theorem dX6_readsStatement_303 : decode cX6_readsStatement 303 = .ok (.aload_n 0, 1) := by decide +kernel
theorem dX6_readsStatement_304 : decode cX6_readsStatement 304 = .ok (.dup, 1) := by decide +kernel
theorem dX6_readsStatement_305 : decode cX6_readsStatement 305 = .ok (.getfield 95, 3) := by decide +kernel
theorem dX6_readsStatement_308 : decode cX6_readsStatement 308 = .ok (.iconst 1, 1) := by decide +kernel
theorem dX6_readsStatement_309 : decode cX6_readsStatement 309 = .ok (.iadd, 1) := by decide +kernel
theorem dX6_readsStatement_310 : decode cX6_readsStatement 310 = .ok (.putfield 95, 3) := by decide +kernel
theorem dX6_readsStatement_313 : decode cX6_readsStatement 313 = .ok (.iconst 1, 1) := by decide +kernel
theorem dX6_readsStatement_314 : decode cX6_readsStatement 314 = .ok (.ireturn, 1) := by decide +kernel
theorem dX6_isDone_0 : decode cX6_isDone 0 = .ok (.aload_n 0, 1) := by decide +kernel
theorem dX6_isDone_1 : decode cX6_isDone 1 = .ok (.getfield 37, 3) := by decide +kernel
theorem dX6_isDone_4 : decode cX6_isDone 4 = .ok (.iconst 0, 1) := by decide +kernel
theorem dX6_isDone_5 : decode cX6_isDone 5 = .ok (.iaload, 1) := by decide +kernel
theorem dX6_isDone_6 : decode cX6_isDone 6 = .ok (.istore_n 2, 1) := by decide +kernel
theorem dX6_isDone_7 : decode cX6_isDone 7 = .ok (.aload_n 0, 1) := by decide +kernel
theorem dX6_isDone_8 : decode cX6_isDone 8 = .ok (.getfield 37, 3) := by decide +kernel
theorem dX6_isDone_11 : decode cX6_isDone 11 = .ok (.iconst 1, 1) := by decide +kernel
theorem dX6_isDone_12 : decode cX6_isDone 12 = .ok (.iaload, 1) := by decide +kernel
theorem dX6_isDone_13 : decode cX6_isDone 13 = .ok (.istore_n 3, 1) := by decide +kernel
theorem dX6_isDone_14 : decode cX6_isDone 14 = .ok (.aload_n 0, 1) := by decide +kernel
theorem dX6_isDone_15 : decode cX6_isDone 15 = .ok (.getfield 37, 3) := by decide +kernel
theorem dX6_isDone_18 : decode cX6_isDone 18 = .ok (.iconst 2, 1) := by decide +kernel
theorem dX6_isDone_19 : decode cX6_isDone 19 = .ok (.iaload, 1) := by decide +kernel
theorem dX6_isDone_20 : decode cX6_isDone 20 = .ok (.istore 4, 2) := by decide +kernel
theorem dX6_isDone_22 : decode cX6_isDone 22 = .ok (.iconst 0, 1) := by decide +kernel
theorem dX6_isDone_23 : decode cX6_isDone 23 = .ok (.istore 5, 2) := by decide +kernel
theorem dX6_isDone_25 : decode cX6_isDone 25 = .ok (.iload_n 1, 1) := by decide +kernel
theorem dX6_isDone_26 : decode cX6_isDone 26 = .ok (.tableswitch 369 97 115 #[262, 369, 369, 369, 369, 90, 369, 315, 369, 369, 369, 369, 369, 369, 291, 172, 369, 369, 351], 90) := by decide +kernel
theorem dX6_isDone_116 : decode cX6_isDone 116 = .ok (.iload_n 2, 1) := by decide +kernel
theorem dX6_isDone_117 : decode cX6_isDone 117 = .ok (.bipush 30, 2) := by decide +kernel
theorem dX6_isDone_119 : decode cX6_isDone 119 = .ok (.if_icmp .gt 27, 3) := by decide +kernel
theorem dX6_isDone_122 : decode cX6_isDone 122 = .ok (.iload_n 3, 1) := by decide +kernel
theorem dX6_isDone_123 : decode cX6_isDone 123 = .ok (.bipush 30, 2) := by decide +kernel
theorem dX6_isDone_125 : decode cX6_isDone 125 = .ok (.if_icmp .gt 21, 3) := by decide +kernel
theorem dX6_isDone_128 : decode cX6_isDone 128 = .ok (.iload 4, 2) := by decide +kernel
theorem dX6_isDone_130 : decode cX6_isDone 130 = .ok (.bipush 30, 2) := by decide +kernel
theorem dX6_isDone_132 : decode cX6_isDone 132 = .ok (.if_icmp .gt 14, 3) := by decide +kernel
theorem dX6_isDone_135 : decode cX6_isDone 135 = .ok (.aload_n 0, 1) := by decide +kernel
theorem dX6_isDone_136 : decode cX6_isDone 136 = .ok (.getfield 9, 3) := by decide +kernel
theorem dX6_isDone_139 : decode cX6_isDone 139 = .ok (.iconst 0, 1) := by decide +kernel
theorem dX6_isDone_140 : decode cX6_isDone 140 = .ok (.iaload, 1) := by decide +kernel
theorem dX6_isDone_141 : decode cX6_isDone 141 = .ok (.bipush 6, 2) := by decide +kernel
theorem dX6_isDone_143 : decode cX6_isDone 143 = .ok (.if_icmp .ne 5, 3) := by decide +kernel
theorem dX6_isDone_146 : decode cX6_isDone 146 = .ok (.iconst 0, 1) := by decide +kernel
theorem dX6_isDone_147 : decode cX6_isDone 147 = .ok (.ireturn, 1) := by decide +kernel
theorem dX6_isDone_148 : decode cX6_isDone 148 = .ok (.iconst 0, 1) := by decide +kernel
theorem dX6_isDone_149 : decode cX6_isDone 149 = .ok (.istore 6, 2) := by decide +kernel
theorem dX6_isDone_151 : decode cX6_isDone 151 = .ok (.iload 6, 2) := by decide +kernel
theorem dX6_isDone_153 : decode cX6_isDone 153 = .ok (.iconst 3, 1) := by decide +kernel
theorem dX6_isDone_154 : decode cX6_isDone 154 = .ok (.if_icmp .ge 32, 3) := by decide +kernel
theorem dX6_isDone_157 : decode cX6_isDone 157 = .ok (.aload_n 0, 1) := by decide +kernel
theorem dX6_isDone_158 : decode cX6_isDone 158 = .ok (.getfield 9, 3) := by decide +kernel
theorem dX6_isDone_161 : decode cX6_isDone 161 = .ok (.aload_n 0, 1) := by decide +kernel
theorem dX6_isDone_162 : decode cX6_isDone 162 = .ok (.getfield 9, 3) := by decide +kernel
theorem dX6_isDone_165 : decode cX6_isDone 165 = .ok (.iconst 0, 1) := by decide +kernel
theorem dX6_isDone_166 : decode cX6_isDone 166 = .ok (.iaload, 1) := by decide +kernel
theorem dX6_isDone_167 : decode cX6_isDone 167 = .ok (.iload 6, 2) := by decide +kernel
theorem dX6_isDone_169 : decode cX6_isDone 169 = .ok (.invokestatic 60, 3) := by decide +kernel
theorem dX6_isDone_172 : decode cX6_isDone 172 = .ok (.aload_n 0, 1) := by decide +kernel
theorem dX6_isDone_173 : decode cX6_isDone 173 = .ok (.getfield 37, 3) := by decide +kernel
theorem dX6_isDone_176 : decode cX6_isDone 176 = .ok (.iload 6, 2) := by decide +kernel
theorem dX6_isDone_178 : decode cX6_isDone 178 = .ok (.iaload, 1) := by decide +kernel
theorem dX6_isDone_179 : decode cX6_isDone 179 = .ok (.iastore, 1) := by decide +kernel
theorem dX6_isDone_180 : decode cX6_isDone 180 = .ok (.iinc 6 1, 3) := by decide +kernel
theorem dX6_isDone_183 : decode cX6_isDone 183 = .ok (.goto (-32), 3) := by decide +kernel
theorem dX6_isDone_186 : decode cX6_isDone 186 = .ok (.aload_n 0, 1) := by decide +kernel
theorem dX6_isDone_187 : decode cX6_isDone 187 = .ok (.getfield 9, 3) := by decide +kernel
theorem dX6_isDone_190 : decode cX6_isDone 190 = .ok (.iconst 0, 1) := by decide +kernel
theorem dX6_isDone_191 : decode cX6_isDone 191 = .ok (.dup2, 1) := by decide +kernel
theorem dX6_isDone_192 : decode cX6_isDone 192 = .ok (.iaload, 1) := by decide +kernel
theorem dX6_isDone_193 : decode cX6_isDone 193 = .ok (.iconst 1, 1) := by decide +kernel
theorem dX6_isDone_194 : decode cX6_isDone 194 = .ok (.iadd, 1) := by decide +kernel
theorem dX6_isDone_195 : decode cX6_isDone 195 = .ok (.iastore, 1) := by decide +kernel
theorem dX6_isDone_196 : decode cX6_isDone 196 = .ok (.iconst 1, 1) := by decide +kernel
theorem dX6_isDone_197 : decode cX6_isDone 197 = .ok (.ireturn, 1) := by decide +kernel
theorem dX6_isDone_198 : decode cX6_isDone 198 = .ok (.aload_n 0, 1) := by decide +kernel
theorem dX6_isDone_199 : decode cX6_isDone 199 = .ok (.getfield 9, 3) := by decide +kernel
theorem dX6_isDone_202 : decode cX6_isDone 202 = .ok (.iconst 1, 1) := by decide +kernel
theorem dX6_isDone_203 : decode cX6_isDone 203 = .ok (.iaload, 1) := by decide +kernel
theorem dX6_isDone_204 : decode cX6_isDone 204 = .ok (.bipush 6, 2) := by decide +kernel
theorem dX6_isDone_206 : decode cX6_isDone 206 = .ok (.if_icmp .ne 5, 3) := by decide +kernel
theorem dX6_isDone_209 : decode cX6_isDone 209 = .ok (.iconst 0, 1) := by decide +kernel
theorem dX6_isDone_210 : decode cX6_isDone 210 = .ok (.ireturn, 1) := by decide +kernel
theorem dX6_isDone_211 : decode cX6_isDone 211 = .ok (.aload_n 0, 1) := by decide +kernel
theorem dX6_isDone_212 : decode cX6_isDone 212 = .ok (.getfield 9, 3) := by decide +kernel
theorem dX6_isDone_215 : decode cX6_isDone 215 = .ok (.aload_n 0, 1) := by decide +kernel
theorem dX6_isDone_216 : decode cX6_isDone 216 = .ok (.getfield 9, 3) := by decide +kernel
theorem dX6_isDone_219 : decode cX6_isDone 219 = .ok (.iconst 1, 1) := by decide +kernel
theorem dX6_isDone_220 : decode cX6_isDone 220 = .ok (.iaload, 1) := by decide +kernel
theorem dX6_isDone_221 : decode cX6_isDone 221 = .ok (.iconst 0, 1) := by decide +kernel
theorem dX6_isDone_222 : decode cX6_isDone 222 = .ok (.invokestatic 56, 3) := by decide +kernel
theorem dX6_isDone_225 : decode cX6_isDone 225 = .ok (.iload_n 2, 1) := by decide +kernel
theorem dX6_isDone_226 : decode cX6_isDone 226 = .ok (.iastore, 1) := by decide +kernel
theorem dX6_isDone_227 : decode cX6_isDone 227 = .ok (.aload_n 0, 1) := by decide +kernel
theorem dX6_isDone_228 : decode cX6_isDone 228 = .ok (.getfield 9, 3) := by decide +kernel
theorem dX6_isDone_231 : decode cX6_isDone 231 = .ok (.aload_n 0, 1) := by decide +kernel
theorem dX6_isDone_232 : decode cX6_isDone 232 = .ok (.getfield 9, 3) := by decide +kernel
theorem dX6_isDone_235 : decode cX6_isDone 235 = .ok (.iconst 1, 1) := by decide +kernel
theorem dX6_isDone_236 : decode cX6_isDone 236 = .ok (.iaload, 1) := by decide +kernel
theorem dX6_isDone_237 : decode cX6_isDone 237 = .ok (.iconst 1, 1) := by decide +kernel
theorem dX6_isDone_238 : decode cX6_isDone 238 = .ok (.invokestatic 56, 3) := by decide +kernel
theorem dX6_isDone_241 : decode cX6_isDone 241 = .ok (.iload_n 3, 1) := by decide +kernel
theorem dX6_isDone_242 : decode cX6_isDone 242 = .ok (.iastore, 1) := by decide +kernel
theorem dX6_isDone_243 : decode cX6_isDone 243 = .ok (.aload_n 0, 1) := by decide +kernel
theorem dX6_isDone_244 : decode cX6_isDone 244 = .ok (.getfield 9, 3) := by decide +kernel
theorem dX6_isDone_247 : decode cX6_isDone 247 = .ok (.aload_n 0, 1) := by decide +kernel
theorem dX6_isDone_248 : decode cX6_isDone 248 = .ok (.getfield 9, 3) := by decide +kernel
theorem dX6_isDone_251 : decode cX6_isDone 251 = .ok (.iconst 1, 1) := by decide +kernel
theorem dX6_isDone_252 : decode cX6_isDone 252 = .ok (.iaload, 1) := by decide +kernel
theorem dX6_isDone_253 : decode cX6_isDone 253 = .ok (.iconst 2, 1) := by decide +kernel
theorem dX6_isDone_254 : decode cX6_isDone 254 = .ok (.invokestatic 56, 3) := by decide +kernel
theorem dX6_isDone_257 : decode cX6_isDone 257 = .ok (.iconst 0, 1) := by decide +kernel
theorem dX6_isDone_258 : decode cX6_isDone 258 = .ok (.iastore, 1) := by decide +kernel
theorem dX6_isDone_259 : decode cX6_isDone 259 = .ok (.aload_n 0, 1) := by decide +kernel
theorem dX6_isDone_260 : decode cX6_isDone 260 = .ok (.getfield 9, 3) := by decide +kernel
theorem dX6_isDone_263 : decode cX6_isDone 263 = .ok (.aload_n 0, 1) := by decide +kernel
theorem dX6_isDone_264 : decode cX6_isDone 264 = .ok (.getfield 9, 3) := by decide +kernel
theorem dX6_isDone_267 : decode cX6_isDone 267 = .ok (.iconst 1, 1) := by decide +kernel
theorem dX6_isDone_268 : decode cX6_isDone 268 = .ok (.iaload, 1) := by decide +kernel
theorem dX6_isDone_269 : decode cX6_isDone 269 = .ok (.iconst 3, 1) := by decide +kernel
theorem dX6_isDone_270 : decode cX6_isDone 270 = .ok (.invokestatic 56, 3) := by decide +kernel
theorem dX6_isDone_273 : decode cX6_isDone 273 = .ok (.bipush (-9), 2) := by decide +kernel
theorem dX6_isDone_275 : decode cX6_isDone 275 = .ok (.iastore, 1) := by decide +kernel
theorem dX6_isDone_276 : decode cX6_isDone 276 = .ok (.aload_n 0, 1) := by decide +kernel
theorem dX6_isDone_277 : decode cX6_isDone 277 = .ok (.getfield 9, 3) := by decide +kernel
theorem dX6_isDone_280 : decode cX6_isDone 280 = .ok (.iconst 1, 1) := by decide +kernel
theorem dX6_isDone_281 : decode cX6_isDone 281 = .ok (.dup2, 1) := by decide +kernel
theorem dX6_isDone_282 : decode cX6_isDone 282 = .ok (.iaload, 1) := by decide +kernel
theorem dX6_isDone_283 : decode cX6_isDone 283 = .ok (.iconst 1, 1) := by decide +kernel
theorem dX6_isDone_284 : decode cX6_isDone 284 = .ok (.iadd, 1) := by decide +kernel
theorem dX6_isDone_285 : decode cX6_isDone 285 = .ok (.iastore, 1) := by decide +kernel
theorem dX6_isDone_286 : decode cX6_isDone 286 = .ok (.iconst 1, 1) := by decide +kernel
theorem dX6_isDone_287 : decode cX6_isDone 287 = .ok (.ireturn, 1) := by decide +kernel
theorem dX6_isDone_288 : decode cX6_isDone 288 = .ok (.aload_n 0, 1) := by decide +kernel
theorem dX6_isDone_289 : decode cX6_isDone 289 = .ok (.iload_n 2, 1) := by decide +kernel
theorem dX6_isDone_290 : decode cX6_isDone 290 = .ok (.invokevirtual 113, 3) := by decide +kernel
theorem dX6_isDone_293 : decode cX6_isDone 293 = .ok (.ifCond .eq 11, 3) := by decide +kernel
theorem dX6_isDone_296 : decode cX6_isDone 296 = .ok (.aload_n 0, 1) := by decide +kernel
theorem dX6_isDone_297 : decode cX6_isDone 297 = .ok (.iload_n 3, 1) := by decide +kernel
theorem dX6_isDone_298 : decode cX6_isDone 298 = .ok (.invokevirtual 117, 3) := by decide +kernel
theorem dX6_isDone_301 : decode cX6_isDone 301 = .ok (.ifCond .ne 5, 3) := by decide +kernel
theorem dX6_isDone_304 : decode cX6_isDone 304 = .ok (.iconst 0, 1) := by decide +kernel
theorem dX6_isDone_305 : decode cX6_isDone 305 = .ok (.ireturn, 1) := by decide +kernel
theorem dX6_isDone_306 : decode cX6_isDone 306 = .ok (.aload_n 0, 1) := by decide +kernel
theorem dX6_isDone_307 : decode cX6_isDone 307 = .ok (.getfield 9, 3) := by decide +kernel
theorem dX6_isDone_310 : decode cX6_isDone 310 = .ok (.iload_n 2, 1) := by decide +kernel
theorem dX6_isDone_311 : decode cX6_isDone 311 = .ok (.iload_n 3, 1) := by decide +kernel
theorem dX6_isDone_312 : decode cX6_isDone 312 = .ok (.invokestatic 120, 3) := by decide +kernel
theorem dX6_isDone_315 : decode cX6_isDone 315 = .ok (.iconst 1, 1) := by decide +kernel
theorem dX6_isDone_316 : decode cX6_isDone 316 = .ok (.ireturn, 1) := by decide +kernel
theorem dX6_isDone_317 : decode cX6_isDone 317 = .ok (.aload_n 0, 1) := by decide +kernel
theorem dX6_isDone_318 : decode cX6_isDone 318 = .ok (.iload_n 2, 1) := by decide +kernel
theorem dX6_isDone_319 : decode cX6_isDone 319 = .ok (.invokevirtual 113, 3) := by decide +kernel
theorem dX6_isDone_322 : decode cX6_isDone 322 = .ok (.ifCond .ne 5, 3) := by decide +kernel
theorem dX6_isDone_325 : decode cX6_isDone 325 = .ok (.iconst 0, 1) := by decide +kernel
theorem dX6_isDone_326 : decode cX6_isDone 326 = .ok (.ireturn, 1) := by decide +kernel
theorem dX6_isDone_327 : decode cX6_isDone 327 = .ok (.aload_n 0, 1) := by decide +kernel
theorem dX6_isDone_328 : decode cX6_isDone 328 = .ok (.getfield 9, 3) := by decide +kernel
theorem dX6_isDone_331 : decode cX6_isDone 331 = .ok (.iload_n 2, 1) := by decide +kernel
theorem dX6_isDone_332 : decode cX6_isDone 332 = .ok (.iconst 3, 1) := by decide +kernel
theorem dX6_isDone_333 : decode cX6_isDone 333 = .ok (.invokestatic 56, 3) := by decide +kernel
theorem dX6_isDone_336 : decode cX6_isDone 336 = .ok (.bipush (-9), 2) := by decide +kernel
theorem dX6_isDone_338 : decode cX6_isDone 338 = .ok (.iastore, 1) := by decide +kernel
theorem dX6_isDone_339 : decode cX6_isDone 339 = .ok (.iconst 1, 1) := by decide +kernel
theorem dX6_isDone_340 : decode cX6_isDone 340 = .ok (.ireturn, 1) := by decide +kernel
theorem dX6_isDone_341 : decode cX6_isDone 341 = .ok (.aload_n 0, 1) := by decide +kernel
theorem dX6_isDone_342 : decode cX6_isDone 342 = .ok (.iload_n 2, 1) := by decide +kernel
theorem dX6_isDone_343 : decode cX6_isDone 343 = .ok (.invokevirtual 117, 3) := by decide +kernel
theorem dX6_isDone_346 : decode cX6_isDone 346 = .ok (.ifCond .eq 15, 3) := by decide +kernel
theorem dX6_isDone_349 : decode cX6_isDone 349 = .ok (.iload_n 3, 1) := by decide +kernel
theorem dX6_isDone_350 : decode cX6_isDone 350 = .ok (.iconst 3, 1) := by decide +kernel
theorem dX6_isDone_351 : decode cX6_isDone 351 = .ok (.if_icmp .ge 10, 3) := by decide +kernel
theorem dX6_isDone_354 : decode cX6_isDone 354 = .ok (.iload 4, 2) := by decide +kernel
theorem dX6_isDone_356 : decode cX6_isDone 356 = .ok (.bipush 30, 2) := by decide +kernel
theorem dX6_isDone_358 : decode cX6_isDone 358 = .ok (.if_icmp .le 5, 3) := by decide +kernel
theorem dX6_isDone_361 : decode cX6_isDone 361 = .ok (.iconst 0, 1) := by decide +kernel
theorem dX6_isDone_362 : decode cX6_isDone 362 = .ok (.ireturn, 1) := by decide +kernel
theorem dX6_isDone_363 : decode cX6_isDone 363 = .ok (.aload_n 0, 1) := by decide +kernel
theorem dX6_isDone_364 : decode cX6_isDone 364 = .ok (.getfield 9, 3) := by decide +kernel
theorem dX6_isDone_367 : decode cX6_isDone 367 = .ok (.iload_n 2, 1) := by decide +kernel
theorem dX6_isDone_368 : decode cX6_isDone 368 = .ok (.iload_n 3, 1) := by decide +kernel
theorem dX6_isDone_369 : decode cX6_isDone 369 = .ok (.invokestatic 60, 3) := by decide +kernel
theorem dX6_isDone_372 : decode cX6_isDone 372 = .ok (.iload 4, 2) := by decide +kernel
theorem dX6_isDone_374 : decode cX6_isDone 374 = .ok (.iastore, 1) := by decide +kernel
theorem dX6_isDone_375 : decode cX6_isDone 375 = .ok (.iconst 1, 1) := by decide +kernel
theorem dX6_isDone_376 : decode cX6_isDone 376 = .ok (.ireturn, 1) := by decide +kernel
theorem dX6_isDone_377 : decode cX6_isDone 377 = .ok (.aload_n 0, 1) := by decide +kernel
theorem dX6_isDone_378 : decode cX6_isDone 378 = .ok (.getfield 9, 3) := by decide +kernel
theorem dX6_isDone_381 : decode cX6_isDone 381 = .ok (.iconst 2, 1) := by decide +kernel
theorem dX6_isDone_382 : decode cX6_isDone 382 = .ok (.iload_n 2, 1) := by decide +kernel
theorem dX6_isDone_383 : decode cX6_isDone 383 = .ok (.iastore, 1) := by decide +kernel
theorem dX6_isDone_384 : decode cX6_isDone 384 = .ok (.iload_n 2, 1) := by decide +kernel
theorem dX6_isDone_385 : decode cX6_isDone 385 = .ok (.iconst 5, 1) := by decide +kernel
theorem dX6_isDone_386 : decode cX6_isDone 386 = .ok (.if_icmp .gt 7, 3) := by decide +kernel
theorem dX6_isDone_389 : decode cX6_isDone 389 = .ok (.iconst 1, 1) := by decide +kernel
theorem dX6_isDone_390 : decode cX6_isDone 390 = .ok (.goto 4, 3) := by decide +kernel
theorem dX6_isDone_393 : decode cX6_isDone 393 = .ok (.iconst 0, 1) := by decide +kernel
theorem dX6_isDone_394 : decode cX6_isDone 394 = .ok (.ireturn, 1) := by decide +kernel
theorem dX6_isDone_395 : decode cX6_isDone 395 = .ok (.iload_n 2, 1) := by decide +kernel
theorem dX6_isDone_396 : decode cX6_isDone 396 = .ok (.iconst 1, 1) := by decide +kernel
theorem dX6_isDone_397 : decode cX6_isDone 397 = .ok (.bipush 60, 2) := by decide +kernel
theorem dX6_isDone_399 : decode cX6_isDone 399 = .ok (.invokestatic 52, 3) := by decide +kernel
theorem dX6_isDone_402 : decode cX6_isDone 402 = .ok (.ifCond .eq 17, 3) := by decide +kernel
theorem dX6_isDone_405 : decode cX6_isDone 405 = .ok (.aload_n 0, 1) := by decide +kernel
theorem dX6_isDone_406 : decode cX6_isDone 406 = .ok (.getfield 9, 3) := by decide +kernel
theorem dX6_isDone_409 : decode cX6_isDone 409 = .ok (.iconst 4, 1) := by decide +kernel
theorem dX6_isDone_410 : decode cX6_isDone 410 = .ok (.iaload, 1) := by decide +kernel
theorem dX6_isDone_411 : decode cX6_isDone 411 = .ok (.iload_n 2, 1) := by decide +kernel
theorem dX6_isDone_412 : decode cX6_isDone 412 = .ok (.iadd, 1) := by decide +kernel
theorem dX6_isDone_413 : decode cX6_isDone 413 = .ok (.sipush 999, 3) := by decide +kernel
theorem dX6_isDone_416 : decode cX6_isDone 416 = .ok (.if_icmp .le 5, 3) := by decide +kernel
theorem dX6_isDone_419 : decode cX6_isDone 419 = .ok (.iconst 0, 1) := by decide +kernel
theorem dX6_isDone_420 : decode cX6_isDone 420 = .ok (.ireturn, 1) := by decide +kernel
theorem dX6_isDone_421 : decode cX6_isDone 421 = .ok (.aload_n 0, 1) := by decide +kernel
theorem dX6_isDone_422 : decode cX6_isDone 422 = .ok (.aload_n 0, 1) := by decide +kernel
theorem dX6_isDone_423 : decode cX6_isDone 423 = .ok (.getfield 9, 3) := by decide +kernel
theorem dX6_isDone_426 : decode cX6_isDone 426 = .ok (.iload_n 2, 1) := by decide +kernel
theorem dX6_isDone_427 : decode cX6_isDone 427 = .ok (.invokevirtual 124, 3) := by decide +kernel
theorem dX6_isDone_430 : decode cX6_isDone 430 = .ok (.istore 5, 2) := by decide +kernel
theorem dX6_isDone_432 : decode cX6_isDone 432 = .ok (.iconst 1, 1) := by decide +kernel
theorem dX6_isDone_433 : decode cX6_isDone 433 = .ok (.ireturn, 1) := by decide +kernel
theorem dX6_land_0 : decode cX6_land 0 = .ok (.aload_n 0, 1) := by decide +kernel
theorem dX6_land_1 : decode cX6_land 1 = .ok (.iconst 0, 1) := by decide +kernel
theorem dX6_land_2 : decode cX6_land 2 = .ok (.putfield 95, 3) := by decide +kernel
theorem dX6_land_5 : decode cX6_land 5 = .ok (.iconst 0, 1) := by decide +kernel
theorem dX6_land_6 : decode cX6_land 6 = .ok (.istore_n 1, 1) := by decide +kernel
theorem dX6_land_7 : decode cX6_land 7 = .ok (.bipush (-9), 2) := by decide +kernel
theorem dX6_land_9 : decode cX6_land 9 = .ok (.istore_n 2, 1) := by decide +kernel
theorem dX6_land_10 : decode cX6_land 10 = .ok (.aload_n 0, 1) := by decide +kernel
theorem dX6_land_11 : decode cX6_land 11 = .ok (.invokevirtual 127, 3) := by decide +kernel
theorem dX6_land_14 : decode cX6_land 14 = .ok (.ifCond .ne 12, 3) := by decide +kernel
theorem dX6_land_17 : decode cX6_land 17 = .ok (.sipush (-1000), 3) := by decide +kernel
theorem dX6_land_20 : decode cX6_land 20 = .ok (.aload_n 0, 1) := by decide +kernel
theorem dX6_land_21 : decode cX6_land 21 = .ok (.getfield 95, 3) := by decide +kernel
theorem dX6_land_24 : decode cX6_land 24 = .ok (.isub, 1) := by decide +kernel
theorem dX6_land_25 : decode cX6_land 25 = .ok (.istore_n 2, 1) := by decide +kernel
theorem dX6_land_26 : decode cX6_land 26 = .ok (.iinc 1 1, 3) := by decide +kernel
theorem dX6_land_29 : decode cX6_land 29 = .ok (.iload_n 2, 1) := by decide +kernel
theorem dX6_land_30 : decode cX6_land 30 = .ok (.bipush (-9), 2) := by decide +kernel
theorem dX6_land_32 : decode cX6_land 32 = .ok (.if_icmp .ne 14, 3) := by decide +kernel
theorem dX6_land_35 : decode cX6_land 35 = .ok (.aload_n 0, 1) := by decide +kernel
theorem dX6_land_36 : decode cX6_land 36 = .ok (.getfield 95, 3) := by decide +kernel
theorem dX6_land_39 : decode cX6_land 39 = .ok (.aload_n 0, 1) := by decide +kernel
theorem dX6_land_40 : decode cX6_land 40 = .ok (.getfield 91, 3) := by decide +kernel
theorem dX6_land_43 : decode cX6_land 43 = .ok (.if_icmp .lt (-33), 3) := by decide +kernel
theorem dX6_land_46 : decode cX6_land 46 = .ok (.aload_n 0, 1) := by decide +kernel
theorem dX6_land_47 : decode cX6_land 47 = .ok (.getfield 9, 3) := by decide +kernel
theorem dX6_land_50 : decode cX6_land 50 = .ok (.aload_n 0, 1) := by decide +kernel
theorem dX6_land_51 : decode cX6_land 51 = .ok (.getfield 19, 3) := by decide +kernel
theorem dX6_land_54 : decode cX6_land 54 = .ok (.invokestatic 130, 3) := by decide +kernel
theorem dX6_land_57 : decode cX6_land 57 = .ok (.aload_n 0, 1) := by decide +kernel
theorem dX6_land_58 : decode cX6_land 58 = .ok (.iconst 0, 1) := by decide +kernel
theorem dX6_land_59 : decode cX6_land 59 = .ok (.putfield 95, 3) := by decide +kernel
theorem dX6_land_62 : decode cX6_land 62 = .ok (.iload_n 2, 1) := by decide +kernel
theorem dX6_land_63 : decode cX6_land 63 = .ok (.bipush (-9), 2) := by decide +kernel
theorem dX6_land_65 : decode cX6_land 65 = .ok (.if_icmp .ne 63, 3) := by decide +kernel
theorem dX6_land_68 : decode cX6_land 68 = .ok (.aload_n 0, 1) := by decide +kernel
theorem dX6_land_69 : decode cX6_land 69 = .ok (.getfield 95, 3) := by decide +kernel
theorem dX6_land_72 : decode cX6_land 72 = .ok (.aload_n 0, 1) := by decide +kernel
theorem dX6_land_73 : decode cX6_land 73 = .ok (.getfield 91, 3) := by decide +kernel
theorem dX6_land_76 : decode cX6_land 76 = .ok (.if_icmp .ge 52, 3) := by decide +kernel
theorem dX6_land_79 : decode cX6_land 79 = .ok (.aload_n 0, 1) := by decide +kernel
theorem dX6_land_80 : decode cX6_land 80 = .ok (.getfield 95, 3) := by decide +kernel
theorem dX6_land_83 : decode cX6_land 83 = .ok (.istore_n 3, 1) := by decide +kernel
theorem dX6_land_84 : decode cX6_land 84 = .ok (.aload_n 0, 1) := by decide +kernel
theorem dX6_land_85 : decode cX6_land 85 = .ok (.invokevirtual 98, 3) := by decide +kernel
theorem dX6_land_88 : decode cX6_land 88 = .ok (.istore 4, 2) := by decide +kernel
theorem dX6_land_90 : decode cX6_land 90 = .ok (.aload_n 0, 1) := by decide +kernel
theorem dX6_land_91 : decode cX6_land 91 = .ok (.invokevirtual 127, 3) := by decide +kernel
theorem dX6_land_94 : decode cX6_land 94 = .ok (.istore 5, 2) := by decide +kernel
theorem dX6_land_96 : decode cX6_land 96 = .ok (.aload_n 0, 1) := by decide +kernel
theorem dX6_land_97 : decode cX6_land 97 = .ok (.iload 4, 2) := by decide +kernel
theorem dX6_land_99 : decode cX6_land 99 = .ok (.invokevirtual 134, 3) := by decide +kernel
theorem dX6_land_102 : decode cX6_land 102 = .ok (.ifCond .eq 6, 3) := by decide +kernel
theorem dX6_land_105 : decode cX6_land 105 = .ok (.goto (-43), 3) := by decide +kernel
theorem dX6_land_108 : decode cX6_land 108 = .ok (.sipush (-2000), 3) := by decide +kernel
theorem dX6_land_111 : decode cX6_land 111 = .ok (.iload_n 3, 1) := by decide +kernel
theorem dX6_land_112 : decode cX6_land 112 = .ok (.isub, 1) := by decide +kernel
theorem dX6_land_113 : decode cX6_land 113 = .ok (.istore_n 2, 1) := by decide +kernel
theorem dX6_land_114 : decode cX6_land 114 = .ok (.aload_n 0, 1) := by decide +kernel
theorem dX6_land_115 : decode cX6_land 115 = .ok (.getfield 19, 3) := by decide +kernel
theorem dX6_land_118 : decode cX6_land 118 = .ok (.aload_n 0, 1) := by decide +kernel
theorem dX6_land_119 : decode cX6_land 119 = .ok (.getfield 9, 3) := by decide +kernel
theorem dX6_land_122 : decode cX6_land 122 = .ok (.invokestatic 130, 3) := by decide +kernel
theorem dX6_land_125 : decode cX6_land 125 = .ok (.goto (-63), 3) := by decide +kernel
theorem dX6_land_128 : decode cX6_land 128 = .ok (.aload_n 0, 1) := by decide +kernel
theorem dX6_land_129 : decode cX6_land 129 = .ok (.iconst 0, 1) := by decide +kernel
theorem dX6_land_130 : decode cX6_land 130 = .ok (.putfield 91, 3) := by decide +kernel
theorem dX6_land_133 : decode cX6_land 133 = .ok (.iload_n 2, 1) := by decide +kernel
theorem dX6_land_134 : decode cX6_land 134 = .ok (.bipush (-9), 2) := by decide +kernel
theorem dX6_land_136 : decode cX6_land 136 = .ok (.if_icmp .ne 7, 3) := by decide +kernel
theorem dX6_land_139 : decode cX6_land 139 = .ok (.iload_n 1, 1) := by decide +kernel
theorem dX6_land_140 : decode cX6_land 140 = .ok (.goto 4, 3) := by decide +kernel
theorem dX6_land_143 : decode cX6_land 143 = .ok (.iload_n 2, 1) := by decide +kernel
theorem dX6_land_144 : decode cX6_land 144 = .ok (.ireturn, 1) := by decide +kernel
theorem dX6_farm_0 : decode cX6_farm 0 = .ok (.aload_n 0, 1) := by decide +kernel
theorem dX6_farm_1 : decode cX6_farm 1 = .ok (.iload_n 1, 1) := by decide +kernel
theorem dX6_farm_2 : decode cX6_farm 2 = .ok (.invokevirtual 117, 3) := by decide +kernel
theorem dX6_farm_5 : decode cX6_farm 5 = .ok (.ifCond .ne 9, 3) := by decide +kernel
theorem dX6_farm_8 : decode cX6_farm 8 = .ok (.aload_n 0, 1) := by decide +kernel
theorem dX6_farm_9 : decode cX6_farm 9 = .ok (.iconst (-1), 1) := by decide +kernel
theorem dX6_farm_10 : decode cX6_farm 10 = .ok (.invokevirtual 48, 3) := by decide +kernel
theorem dX6_farm_13 : decode cX6_farm 13 = .ok (.ireturn, 1) := by decide +kernel
theorem dX6_farm_14 : decode cX6_farm 14 = .ok (.iload_n 2, 1) := by decide +kernel
theorem dX6_farm_15 : decode cX6_farm 15 = .ok (.iconst 0, 1) := by decide +kernel
theorem dX6_farm_16 : decode cX6_farm 16 = .ok (.iconst 2, 1) := by decide +kernel
theorem dX6_farm_17 : decode cX6_farm 17 = .ok (.invokestatic 52, 3) := by decide +kernel
theorem dX6_farm_20 : decode cX6_farm 20 = .ok (.ifCond .eq 14, 3) := by decide +kernel
theorem dX6_farm_23 : decode cX6_farm 23 = .ok (.aload_n 0, 1) := by decide +kernel
theorem dX6_farm_24 : decode cX6_farm 24 = .ok (.getfield 9, 3) := by decide +kernel
theorem dX6_farm_27 : decode cX6_farm 27 = .ok (.iload_n 1, 1) := by decide +kernel
theorem dX6_farm_28 : decode cX6_farm 28 = .ok (.iload_n 2, 1) := by decide +kernel
theorem dX6_farm_29 : decode cX6_farm 29 = .ok (.invokestatic 60, 3) := by decide +kernel
theorem dX6_farm_32 : decode cX6_farm 32 = .ok (.iaload, 1) := by decide +kernel
theorem dX6_farm_33 : decode cX6_farm 33 = .ok (.ireturn, 1) := by decide +kernel
theorem dX6_farm_34 : decode cX6_farm 34 = .ok (.iload_n 2, 1) := by decide +kernel
theorem dX6_farm_35 : decode cX6_farm 35 = .ok (.iconst 3, 1) := by decide +kernel
theorem dX6_farm_36 : decode cX6_farm 36 = .ok (.if_icmp .ne 14, 3) := by decide +kernel
theorem dX6_farm_39 : decode cX6_farm 39 = .ok (.aload_n 0, 1) := by decide +kernel
theorem dX6_farm_40 : decode cX6_farm 40 = .ok (.getfield 9, 3) := by decide +kernel
theorem dX6_farm_43 : decode cX6_farm 43 = .ok (.iload_n 1, 1) := by decide +kernel
theorem dX6_farm_44 : decode cX6_farm 44 = .ok (.invokestatic 88, 3) := by decide +kernel
theorem dX6_farm_47 : decode cX6_farm 47 = .ok (.goto 25, 3) := by decide +kernel
theorem dX6_farm_50 : decode cX6_farm 50 = .ok (.iload_n 2, 1) := by decide +kernel
theorem dX6_farm_51 : decode cX6_farm 51 = .ok (.iconst 4, 1) := by decide +kernel
theorem dX6_farm_52 : decode cX6_farm 52 = .ok (.if_icmp .ne 14, 3) := by decide +kernel
theorem dX6_farm_55 : decode cX6_farm 55 = .ok (.aload_n 0, 1) := by decide +kernel
theorem dX6_farm_56 : decode cX6_farm 56 = .ok (.getfield 9, 3) := by decide +kernel
theorem dX6_farm_59 : decode cX6_farm 59 = .ok (.iload_n 1, 1) := by decide +kernel
theorem dX6_farm_60 : decode cX6_farm 60 = .ok (.invokestatic 80, 3) := by decide +kernel
theorem dX6_farm_63 : decode cX6_farm 63 = .ok (.goto 9, 3) := by decide +kernel
theorem dX6_farm_66 : decode cX6_farm 66 = .ok (.aload_n 0, 1) := by decide +kernel
theorem dX6_farm_67 : decode cX6_farm 67 = .ok (.bipush (-2), 2) := by decide +kernel
theorem dX6_farm_69 : decode cX6_farm 69 = .ok (.invokevirtual 48, 3) := by decide +kernel
theorem dX6_farm_72 : decode cX6_farm 72 = .ok (.ireturn, 1) := by decide +kernel
theorem dX6_farmer_0 : decode cX6_farmer 0 = .ok (.aload_n 0, 1) := by decide +kernel
theorem dX6_farmer_1 : decode cX6_farmer 1 = .ok (.iload_n 1, 1) := by decide +kernel
theorem dX6_farmer_2 : decode cX6_farmer 2 = .ok (.invokevirtual 113, 3) := by decide +kernel
theorem dX6_farmer_5 : decode cX6_farmer 5 = .ok (.ifCond .ne 9, 3) := by decide +kernel
theorem dX6_farmer_8 : decode cX6_farmer 8 = .ok (.aload_n 0, 1) := by decide +kernel
theorem dX6_farmer_9 : decode cX6_farmer 9 = .ok (.iconst (-1), 1) := by decide +kernel
theorem dX6_farmer_10 : decode cX6_farmer 10 = .ok (.invokevirtual 48, 3) := by decide +kernel
theorem dX6_farmer_13 : decode cX6_farmer 13 = .ok (.ireturn, 1) := by decide +kernel
theorem dX6_farmer_14 : decode cX6_farmer 14 = .ok (.iload_n 2, 1) := by decide +kernel
theorem dX6_farmer_15 : decode cX6_farmer 15 = .ok (.iconst 0, 1) := by decide +kernel
theorem dX6_farmer_16 : decode cX6_farmer 16 = .ok (.iconst 3, 1) := by decide +kernel
theorem dX6_farmer_17 : decode cX6_farmer 17 = .ok (.invokestatic 52, 3) := by decide +kernel
theorem dX6_farmer_20 : decode cX6_farmer 20 = .ok (.ifCond .eq 14, 3) := by decide +kernel
theorem dX6_farmer_23 : decode cX6_farmer 23 = .ok (.aload_n 0, 1) := by decide +kernel
theorem dX6_farmer_24 : decode cX6_farmer 24 = .ok (.getfield 9, 3) := by decide +kernel
theorem dX6_farmer_27 : decode cX6_farmer 27 = .ok (.iload_n 1, 1) := by decide +kernel
theorem dX6_farmer_28 : decode cX6_farmer 28 = .ok (.iload_n 2, 1) := by decide +kernel
theorem dX6_farmer_29 : decode cX6_farmer 29 = .ok (.invokestatic 56, 3) := by decide +kernel
theorem dX6_farmer_32 : decode cX6_farmer 32 = .ok (.iaload, 1) := by decide +kernel
theorem dX6_farmer_33 : decode cX6_farmer 33 = .ok (.ireturn, 1) := by decide +kernel
theorem dX6_farmer_34 : decode cX6_farmer 34 = .ok (.iload_n 2, 1) := by decide +kernel
theorem dX6_farmer_35 : decode cX6_farmer 35 = .ok (.iconst 4, 1) := by decide +kernel
theorem dX6_farmer_36 : decode cX6_farmer 36 = .ok (.if_icmp .ne 24, 3) := by decide +kernel
theorem dX6_farmer_39 : decode cX6_farmer 39 = .ok (.aload_n 0, 1) := by decide +kernel
theorem dX6_farmer_40 : decode cX6_farmer 40 = .ok (.getfield 9, 3) := by decide +kernel
theorem dX6_farmer_43 : decode cX6_farmer 43 = .ok (.iload_n 1, 1) := by decide +kernel
theorem dX6_farmer_44 : decode cX6_farmer 44 = .ok (.aload_n 0, 1) := by decide +kernel
theorem dX6_farmer_45 : decode cX6_farmer 45 = .ok (.getfield 9, 3) := by decide +kernel
theorem dX6_farmer_48 : decode cX6_farmer 48 = .ok (.iload_n 1, 1) := by decide +kernel
theorem dX6_farmer_49 : decode cX6_farmer 49 = .ok (.iconst 3, 1) := by decide +kernel
theorem dX6_farmer_50 : decode cX6_farmer 50 = .ok (.invokestatic 56, 3) := by decide +kernel
theorem dX6_farmer_53 : decode cX6_farmer 53 = .ok (.iaload, 1) := by decide +kernel
theorem dX6_farmer_54 : decode cX6_farmer 54 = .ok (.invokestatic 70, 3) := by decide +kernel
theorem dX6_farmer_57 : decode cX6_farmer 57 = .ok (.goto 30, 3) := by decide +kernel
theorem dX6_farmer_60 : decode cX6_farmer 60 = .ok (.iload_n 2, 1) := by decide +kernel
theorem dX6_farmer_61 : decode cX6_farmer 61 = .ok (.iconst 5, 1) := by decide +kernel
theorem dX6_farmer_62 : decode cX6_farmer 62 = .ok (.if_icmp .ne 19, 3) := by decide +kernel
theorem dX6_farmer_65 : decode cX6_farmer 65 = .ok (.aload_n 0, 1) := by decide +kernel
theorem dX6_farmer_66 : decode cX6_farmer 66 = .ok (.getfield 9, 3) := by decide +kernel
theorem dX6_farmer_69 : decode cX6_farmer 69 = .ok (.iload_n 1, 1) := by decide +kernel
theorem dX6_farmer_70 : decode cX6_farmer 70 = .ok (.iconst 0, 1) := by decide +kernel
theorem dX6_farmer_71 : decode cX6_farmer 71 = .ok (.invokestatic 56, 3) := by decide +kernel
theorem dX6_farmer_74 : decode cX6_farmer 74 = .ok (.iaload, 1) := by decide +kernel
theorem dX6_farmer_75 : decode cX6_farmer 75 = .ok (.invokestatic 77, 3) := by decide +kernel
theorem dX6_farmer_78 : decode cX6_farmer 78 = .ok (.goto 9, 3) := by decide +kernel
theorem dX6_farmer_81 : decode cX6_farmer 81 = .ok (.aload_n 0, 1) := by decide +kernel
theorem dX6_farmer_82 : decode cX6_farmer 82 = .ok (.bipush (-2), 2) := by decide +kernel
theorem dX6_farmer_84 : decode cX6_farmer 84 = .ok (.invokevirtual 48, 3) := by decide +kernel
theorem dX6_farmer_87 : decode cX6_farmer 87 = .ok (.ireturn, 1) := by decide +kernel
theorem dX6_sits_0 : decode cX6_sits 0 = .ok (.aload_n 0, 1) := by decide +kernel
theorem dX6_sits_1 : decode cX6_sits 1 = .ok (.iload_n 1, 1) := by decide +kernel
theorem dX6_sits_2 : decode cX6_sits 2 = .ok (.invokevirtual 113, 3) := by decide +kernel
theorem dX6_sits_5 : decode cX6_sits 5 = .ok (.ifCond .eq 11, 3) := by decide +kernel
theorem dX6_sits_8 : decode cX6_sits 8 = .ok (.aload_n 0, 1) := by decide +kernel
theorem dX6_sits_9 : decode cX6_sits 9 = .ok (.iload_n 2, 1) := by decide +kernel
theorem dX6_sits_10 : decode cX6_sits 10 = .ok (.invokevirtual 117, 3) := by decide +kernel
theorem dX6_sits_13 : decode cX6_sits 13 = .ok (.ifCond .ne 9, 3) := by decide +kernel
theorem dX6_sits_16 : decode cX6_sits 16 = .ok (.aload_n 0, 1) := by decide +kernel
theorem dX6_sits_17 : decode cX6_sits 17 = .ok (.iconst (-1), 1) := by decide +kernel
theorem dX6_sits_18 : decode cX6_sits 18 = .ok (.invokevirtual 48, 3) := by decide +kernel
theorem dX6_sits_21 : decode cX6_sits 21 = .ok (.ireturn, 1) := by decide +kernel
theorem dX6_sits_22 : decode cX6_sits 22 = .ok (.aload_n 0, 1) := by decide +kernel
theorem dX6_sits_23 : decode cX6_sits 23 = .ok (.getfield 9, 3) := by decide +kernel
theorem dX6_sits_26 : decode cX6_sits 26 = .ok (.iload_n 2, 1) := by decide +kernel
theorem dX6_sits_27 : decode cX6_sits 27 = .ok (.invokestatic 80, 3) := by decide +kernel
theorem dX6_sits_30 : decode cX6_sits 30 = .ok (.istore_n 3, 1) := by decide +kernel
theorem dX6_sits_31 : decode cX6_sits 31 = .ok (.aload_n 0, 1) := by decide +kernel
theorem dX6_sits_32 : decode cX6_sits 32 = .ok (.getfield 9, 3) := by decide +kernel
theorem dX6_sits_35 : decode cX6_sits 35 = .ok (.iload_n 1, 1) := by decide +kernel
theorem dX6_sits_36 : decode cX6_sits 36 = .ok (.iload_n 2, 1) := by decide +kernel
theorem dX6_sits_37 : decode cX6_sits 37 = .ok (.invokestatic 120, 3) := by decide +kernel
theorem dX6_sits_40 : decode cX6_sits 40 = .ok (.iload_n 3, 1) := by decide +kernel
theorem dX6_sits_41 : decode cX6_sits 41 = .ok (.ireturn, 1) := by decide +kernel
theorem dX6_leaves_0 : decode cX6_leaves 0 = .ok (.aload_n 0, 1) := by decide +kernel
theorem dX6_leaves_1 : decode cX6_leaves 1 = .ok (.iload_n 1, 1) := by decide +kernel
theorem dX6_leaves_2 : decode cX6_leaves 2 = .ok (.invokevirtual 113, 3) := by decide +kernel
theorem dX6_leaves_5 : decode cX6_leaves 5 = .ok (.ifCond .ne 9, 3) := by decide +kernel
theorem dX6_leaves_8 : decode cX6_leaves 8 = .ok (.aload_n 0, 1) := by decide +kernel
theorem dX6_leaves_9 : decode cX6_leaves 9 = .ok (.iconst (-1), 1) := by decide +kernel
theorem dX6_leaves_10 : decode cX6_leaves 10 = .ok (.invokevirtual 48, 3) := by decide +kernel
theorem dX6_leaves_13 : decode cX6_leaves 13 = .ok (.ireturn, 1) := by decide +kernel
theorem dX6_leaves_14 : decode cX6_leaves 14 = .ok (.aload_n 0, 1) := by decide +kernel
theorem dX6_leaves_15 : decode cX6_leaves 15 = .ok (.getfield 9, 3) := by decide +kernel
theorem dX6_leaves_18 : decode cX6_leaves 18 = .ok (.iload_n 1, 1) := by decide +kernel
theorem dX6_leaves_19 : decode cX6_leaves 19 = .ok (.iconst 3, 1) := by decide +kernel
theorem dX6_leaves_20 : decode cX6_leaves 20 = .ok (.invokestatic 56, 3) := by decide +kernel
theorem dX6_leaves_23 : decode cX6_leaves 23 = .ok (.iaload, 1) := by decide +kernel
theorem dX6_leaves_24 : decode cX6_leaves 24 = .ok (.istore_n 2, 1) := by decide +kernel
theorem dX6_leaves_25 : decode cX6_leaves 25 = .ok (.iload_n 2, 1) := by decide +kernel
theorem dX6_leaves_26 : decode cX6_leaves 26 = .ok (.ifCond .ge 10, 3) := by decide +kernel
theorem dX6_leaves_29 : decode cX6_leaves 29 = .ok (.aload_n 0, 1) := by decide +kernel
theorem dX6_leaves_30 : decode cX6_leaves 30 = .ok (.bipush (-3), 2) := by decide +kernel
theorem dX6_leaves_32 : decode cX6_leaves 32 = .ok (.invokevirtual 48, 3) := by decide +kernel
theorem dX6_leaves_35 : decode cX6_leaves 35 = .ok (.ireturn, 1) := by decide +kernel
theorem dX6_leaves_36 : decode cX6_leaves 36 = .ok (.aload_n 0, 1) := by decide +kernel
theorem dX6_leaves_37 : decode cX6_leaves 37 = .ok (.getfield 9, 3) := by decide +kernel
theorem dX6_leaves_40 : decode cX6_leaves 40 = .ok (.iload_n 1, 1) := by decide +kernel
theorem dX6_leaves_41 : decode cX6_leaves 41 = .ok (.iconst 3, 1) := by decide +kernel
theorem dX6_leaves_42 : decode cX6_leaves 42 = .ok (.invokestatic 56, 3) := by decide +kernel
theorem dX6_leaves_45 : decode cX6_leaves 45 = .ok (.bipush (-9), 2) := by decide +kernel
theorem dX6_leaves_47 : decode cX6_leaves 47 = .ok (.iastore, 1) := by decide +kernel
theorem dX6_leaves_48 : decode cX6_leaves 48 = .ok (.iload_n 2, 1) := by decide +kernel
theorem dX6_leaves_49 : decode cX6_leaves 49 = .ok (.ireturn, 1) := by decide +kernel
theorem dX6_wrongBy_0 : decode cX6_wrongBy 0 = .ok (.iload_n 0, 1) := by decide +kernel
theorem dX6_wrongBy_1 : decode cX6_wrongBy 1 = .ok (.iload_n 1, 1) := by decide +kernel
theorem dX6_wrongBy_2 : decode cX6_wrongBy 2 = .ok (.if_icmp .ge 8, 3) := by decide +kernel
theorem dX6_wrongBy_5 : decode cX6_wrongBy 5 = .ok (.bipush (-4), 2) := by decide +kernel
theorem dX6_wrongBy_7 : decode cX6_wrongBy 7 = .ok (.goto 14, 3) := by decide +kernel
theorem dX6_wrongBy_10 : decode cX6_wrongBy 10 = .ok (.iload_n 0, 1) := by decide +kernel
theorem dX6_wrongBy_11 : decode cX6_wrongBy 11 = .ok (.iload_n 2, 1) := by decide +kernel
theorem dX6_wrongBy_12 : decode cX6_wrongBy 12 = .ok (.if_icmp .le 8, 3) := by decide +kernel
theorem dX6_wrongBy_15 : decode cX6_wrongBy 15 = .ok (.bipush (-6), 2) := by decide +kernel
theorem dX6_wrongBy_17 : decode cX6_wrongBy 17 = .ok (.goto 4, 3) := by decide +kernel
theorem dX6_wrongBy_20 : decode cX6_wrongBy 20 = .ok (.iconst 0, 1) := by decide +kernel
theorem dX6_wrongBy_21 : decode cX6_wrongBy 21 = .ok (.ireturn, 1) := by decide +kernel
theorem dX6_hearts_0 : decode cX6_hearts 0 = .ok (.aload_n 0, 1) := by decide +kernel
theorem dX6_hearts_1 : decode cX6_hearts 1 = .ok (.iload_n 1, 1) := by decide +kernel
theorem dX6_hearts_2 : decode cX6_hearts 2 = .ok (.invokevirtual 117, 3) := by decide +kernel
theorem dX6_hearts_5 : decode cX6_hearts 5 = .ok (.ifCond .eq 22, 3) := by decide +kernel
theorem dX6_hearts_8 : decode cX6_hearts 8 = .ok (.iload_n 2, 1) := by decide +kernel
theorem dX6_hearts_9 : decode cX6_hearts 9 = .ok (.iconst 0, 1) := by decide +kernel
theorem dX6_hearts_10 : decode cX6_hearts 10 = .ok (.iconst 2, 1) := by decide +kernel
theorem dX6_hearts_11 : decode cX6_hearts 11 = .ok (.invokestatic 52, 3) := by decide +kernel
theorem dX6_hearts_14 : decode cX6_hearts 14 = .ok (.ifCond .eq 13, 3) := by decide +kernel
theorem dX6_hearts_17 : decode cX6_hearts 17 = .ok (.iload_n 3, 1) := by decide +kernel
theorem dX6_hearts_18 : decode cX6_hearts 18 = .ok (.iconst 0, 1) := by decide +kernel
theorem dX6_hearts_19 : decode cX6_hearts 19 = .ok (.bipush 30, 2) := by decide +kernel
theorem dX6_hearts_21 : decode cX6_hearts 21 = .ok (.invokestatic 137, 3) := by decide +kernel
theorem dX6_hearts_24 : decode cX6_hearts 24 = .ok (.goto 4, 3) := by decide +kernel
theorem dX6_hearts_27 : decode cX6_hearts 27 = .ok (.iconst (-1), 1) := by decide +kernel
theorem dX6_hearts_28 : decode cX6_hearts 28 = .ok (.istore 4, 2) := by decide +kernel
theorem dX6_hearts_30 : decode cX6_hearts 30 = .ok (.iload 4, 2) := by decide +kernel
theorem dX6_hearts_32 : decode cX6_hearts 32 = .ok (.ifCond .eq 10, 3) := by decide +kernel
theorem dX6_hearts_35 : decode cX6_hearts 35 = .ok (.aload_n 0, 1) := by decide +kernel
theorem dX6_hearts_36 : decode cX6_hearts 36 = .ok (.iload 4, 2) := by decide +kernel
theorem dX6_hearts_38 : decode cX6_hearts 38 = .ok (.invokevirtual 48, 3) := by decide +kernel
theorem dX6_hearts_41 : decode cX6_hearts 41 = .ok (.ireturn, 1) := by decide +kernel
theorem dX6_hearts_42 : decode cX6_hearts 42 = .ok (.aload_n 0, 1) := by decide +kernel
theorem dX6_hearts_43 : decode cX6_hearts 43 = .ok (.getfield 9, 3) := by decide +kernel
theorem dX6_hearts_46 : decode cX6_hearts 46 = .ok (.iload_n 1, 1) := by decide +kernel
theorem dX6_hearts_47 : decode cX6_hearts 47 = .ok (.iload_n 2, 1) := by decide +kernel
theorem dX6_hearts_48 : decode cX6_hearts 48 = .ok (.invokestatic 60, 3) := by decide +kernel
theorem dX6_hearts_51 : decode cX6_hearts 51 = .ok (.iaload, 1) := by decide +kernel
theorem dX6_hearts_52 : decode cX6_hearts 52 = .ok (.istore 5, 2) := by decide +kernel
theorem dX6_hearts_54 : decode cX6_hearts 54 = .ok (.aload_n 0, 1) := by decide +kernel
theorem dX6_hearts_55 : decode cX6_hearts 55 = .ok (.getfield 9, 3) := by decide +kernel
theorem dX6_hearts_58 : decode cX6_hearts 58 = .ok (.iload_n 1, 1) := by decide +kernel
theorem dX6_hearts_59 : decode cX6_hearts 59 = .ok (.iload_n 2, 1) := by decide +kernel
theorem dX6_hearts_60 : decode cX6_hearts 60 = .ok (.invokestatic 60, 3) := by decide +kernel
theorem dX6_hearts_63 : decode cX6_hearts 63 = .ok (.iload_n 3, 1) := by decide +kernel
theorem dX6_hearts_64 : decode cX6_hearts 64 = .ok (.iastore, 1) := by decide +kernel
theorem dX6_hearts_65 : decode cX6_hearts 65 = .ok (.iload 5, 2) := by decide +kernel
theorem dX6_hearts_67 : decode cX6_hearts 67 = .ok (.ireturn, 1) := by decide +kernel
theorem dX6_steps_0 : decode cX6_steps 0 = .ok (.iload_n 1, 1) := by decide +kernel
theorem dX6_steps_1 : decode cX6_steps 1 = .ok (.iconst 0, 1) := by decide +kernel
theorem dX6_steps_2 : decode cX6_steps 2 = .ok (.iconst 5, 1) := by decide +kernel
theorem dX6_steps_3 : decode cX6_steps 3 = .ok (.invokestatic 137, 3) := by decide +kernel
theorem dX6_steps_6 : decode cX6_steps 6 = .ok (.istore_n 2, 1) := by decide +kernel
theorem dX6_steps_7 : decode cX6_steps 7 = .ok (.iload_n 2, 1) := by decide +kernel
theorem dX6_steps_8 : decode cX6_steps 8 = .ok (.ifCond .eq 9, 3) := by decide +kernel
theorem dX6_steps_11 : decode cX6_steps 11 = .ok (.aload_n 0, 1) := by decide +kernel
theorem dX6_steps_12 : decode cX6_steps 12 = .ok (.iload_n 2, 1) := by decide +kernel
theorem dX6_steps_13 : decode cX6_steps 13 = .ok (.invokevirtual 48, 3) := by decide +kernel
theorem dX6_steps_16 : decode cX6_steps 16 = .ok (.ireturn, 1) := by decide +kernel
theorem dX6_steps_17 : decode cX6_steps 17 = .ok (.aload_n 0, 1) := by decide +kernel
theorem dX6_steps_18 : decode cX6_steps 18 = .ok (.getfield 9, 3) := by decide +kernel
theorem dX6_steps_21 : decode cX6_steps 21 = .ok (.iconst 2, 1) := by decide +kernel
theorem dX6_steps_22 : decode cX6_steps 22 = .ok (.iaload, 1) := by decide +kernel
theorem dX6_steps_23 : decode cX6_steps 23 = .ok (.istore_n 3, 1) := by decide +kernel
theorem dX6_steps_24 : decode cX6_steps 24 = .ok (.aload_n 0, 1) := by decide +kernel
theorem dX6_steps_25 : decode cX6_steps 25 = .ok (.getfield 9, 3) := by decide +kernel
theorem dX6_steps_28 : decode cX6_steps 28 = .ok (.iconst 2, 1) := by decide +kernel
theorem dX6_steps_29 : decode cX6_steps 29 = .ok (.iload_n 1, 1) := by decide +kernel
theorem dX6_steps_30 : decode cX6_steps 30 = .ok (.iastore, 1) := by decide +kernel
theorem dX6_steps_31 : decode cX6_steps 31 = .ok (.iload_n 3, 1) := by decide +kernel
theorem dX6_steps_32 : decode cX6_steps 32 = .ok (.ireturn, 1) := by decide +kernel
theorem dX6_tires_0 : decode cX6_tires 0 = .ok (.aload_n 0, 1) := by decide +kernel
theorem dX6_tires_1 : decode cX6_tires 1 = .ok (.iload_n 1, 1) := by decide +kernel
theorem dX6_tires_2 : decode cX6_tires 2 = .ok (.invokevirtual 113, 3) := by decide +kernel
theorem dX6_tires_5 : decode cX6_tires 5 = .ok (.ifCond .eq 13, 3) := by decide +kernel
theorem dX6_tires_8 : decode cX6_tires 8 = .ok (.iload_n 2, 1) := by decide +kernel
theorem dX6_tires_9 : decode cX6_tires 9 = .ok (.iconst 0, 1) := by decide +kernel
theorem dX6_tires_10 : decode cX6_tires 10 = .ok (.bipush 20, 2) := by decide +kernel
theorem dX6_tires_12 : decode cX6_tires 12 = .ok (.invokestatic 137, 3) := by decide +kernel
theorem dX6_tires_15 : decode cX6_tires 15 = .ok (.goto 4, 3) := by decide +kernel
theorem dX6_tires_18 : decode cX6_tires 18 = .ok (.iconst (-1), 1) := by decide +kernel
theorem dX6_tires_19 : decode cX6_tires 19 = .ok (.istore_n 3, 1) := by decide +kernel
theorem dX6_tires_20 : decode cX6_tires 20 = .ok (.iload_n 3, 1) := by decide +kernel
theorem dX6_tires_21 : decode cX6_tires 21 = .ok (.ifCond .eq 9, 3) := by decide +kernel
theorem dX6_tires_24 : decode cX6_tires 24 = .ok (.aload_n 0, 1) := by decide +kernel
theorem dX6_tires_25 : decode cX6_tires 25 = .ok (.iload_n 3, 1) := by decide +kernel
theorem dX6_tires_26 : decode cX6_tires 26 = .ok (.invokevirtual 48, 3) := by decide +kernel
theorem dX6_tires_29 : decode cX6_tires 29 = .ok (.ireturn, 1) := by decide +kernel
theorem dX6_tires_30 : decode cX6_tires 30 = .ok (.aload_n 0, 1) := by decide +kernel
theorem dX6_tires_31 : decode cX6_tires 31 = .ok (.getfield 9, 3) := by decide +kernel
theorem dX6_tires_34 : decode cX6_tires 34 = .ok (.iload_n 1, 1) := by decide +kernel
theorem dX6_tires_35 : decode cX6_tires 35 = .ok (.iconst 2, 1) := by decide +kernel
theorem dX6_tires_36 : decode cX6_tires 36 = .ok (.invokestatic 56, 3) := by decide +kernel
theorem dX6_tires_39 : decode cX6_tires 39 = .ok (.iaload, 1) := by decide +kernel
theorem dX6_tires_40 : decode cX6_tires 40 = .ok (.istore 4, 2) := by decide +kernel
theorem dX6_tires_42 : decode cX6_tires 42 = .ok (.aload_n 0, 1) := by decide +kernel
theorem dX6_tires_43 : decode cX6_tires 43 = .ok (.getfield 9, 3) := by decide +kernel
theorem dX6_tires_46 : decode cX6_tires 46 = .ok (.iload_n 1, 1) := by decide +kernel
theorem dX6_tires_47 : decode cX6_tires 47 = .ok (.iconst 2, 1) := by decide +kernel
theorem dX6_tires_48 : decode cX6_tires 48 = .ok (.invokestatic 56, 3) := by decide +kernel
theorem dX6_tires_51 : decode cX6_tires 51 = .ok (.iload_n 2, 1) := by decide +kernel
theorem dX6_tires_52 : decode cX6_tires 52 = .ok (.iastore, 1) := by decide +kernel
theorem dX6_tires_53 : decode cX6_tires 53 = .ok (.iload 4, 2) := by decide +kernel
theorem dX6_tires_55 : decode cX6_tires 55 = .ok (.ireturn, 1) := by decide +kernel
theorem dX6_turn_0 : decode cX6_turn 0 = .ok (.aload_n 0, 1) := by decide +kernel
theorem dX6_turn_1 : decode cX6_turn 1 = .ok (.iload_n 1, 1) := by decide +kernel
theorem dX6_turn_2 : decode cX6_turn 2 = .ok (.invokevirtual 113, 3) := by decide +kernel
theorem dX6_turn_5 : decode cX6_turn 5 = .ok (.ifCond .ne 7, 3) := by decide +kernel
theorem dX6_turn_8 : decode cX6_turn 8 = .ok (.iconst (-1), 1) := by decide +kernel
theorem dX6_turn_9 : decode cX6_turn 9 = .ok (.goto 24, 3) := by decide +kernel
theorem dX6_turn_12 : decode cX6_turn 12 = .ok (.iload_n 2, 1) := by decide +kernel
theorem dX6_turn_13 : decode cX6_turn 13 = .ok (.iconst 0, 1) := by decide +kernel
theorem dX6_turn_14 : decode cX6_turn 14 = .ok (.iconst 5, 1) := by decide +kernel
theorem dX6_turn_15 : decode cX6_turn 15 = .ok (.invokestatic 52, 3) := by decide +kernel
theorem dX6_turn_18 : decode cX6_turn 18 = .ok (.ifCond .ne 8, 3) := by decide +kernel
theorem dX6_turn_21 : decode cX6_turn 21 = .ok (.bipush (-2), 2) := by decide +kernel
theorem dX6_turn_23 : decode cX6_turn 23 = .ok (.goto 10, 3) := by decide +kernel
theorem dX6_turn_26 : decode cX6_turn 26 = .ok (.iload_n 3, 1) := by decide +kernel
theorem dX6_turn_27 : decode cX6_turn 27 = .ok (.iconst 0, 1) := by decide +kernel
theorem dX6_turn_28 : decode cX6_turn 28 = .ok (.bipush 9, 2) := by decide +kernel
theorem dX6_turn_30 : decode cX6_turn 30 = .ok (.invokestatic 137, 3) := by decide +kernel
theorem dX6_turn_33 : decode cX6_turn 33 = .ok (.istore 4, 2) := by decide +kernel
theorem dX6_turn_35 : decode cX6_turn 35 = .ok (.iload 4, 2) := by decide +kernel
theorem dX6_turn_37 : decode cX6_turn 37 = .ok (.ifCond .eq 10, 3) := by decide +kernel
theorem dX6_turn_40 : decode cX6_turn 40 = .ok (.aload_n 0, 1) := by decide +kernel
theorem dX6_turn_41 : decode cX6_turn 41 = .ok (.iload 4, 2) := by decide +kernel
theorem dX6_turn_43 : decode cX6_turn 43 = .ok (.invokevirtual 48, 3) := by decide +kernel
theorem dX6_turn_46 : decode cX6_turn 46 = .ok (.ireturn, 1) := by decide +kernel
theorem dX6_turn_47 : decode cX6_turn 47 = .ok (.bipush 10, 2) := by decide +kernel
theorem dX6_turn_49 : decode cX6_turn 49 = .ok (.aload_n 0, 1) := by decide +kernel
theorem dX6_turn_50 : decode cX6_turn 50 = .ok (.getfield 9, 3) := by decide +kernel
theorem dX6_turn_53 : decode cX6_turn 53 = .ok (.iload_n 1, 1) := by decide +kernel
theorem dX6_turn_54 : decode cX6_turn 54 = .ok (.iconst 0, 1) := by decide +kernel
theorem dX6_turn_55 : decode cX6_turn 55 = .ok (.invokestatic 56, 3) := by decide +kernel
theorem dX6_turn_58 : decode cX6_turn 58 = .ok (.iaload, 1) := by decide +kernel
theorem dX6_turn_59 : decode cX6_turn 59 = .ok (.imul, 1) := by decide +kernel
theorem dX6_turn_60 : decode cX6_turn 60 = .ok (.aload_n 0, 1) := by decide +kernel
theorem dX6_turn_61 : decode cX6_turn 61 = .ok (.getfield 9, 3) := by decide +kernel
theorem dX6_turn_64 : decode cX6_turn 64 = .ok (.iload_n 1, 1) := by decide +kernel
theorem dX6_turn_65 : decode cX6_turn 65 = .ok (.iconst 1, 1) := by decide +kernel
theorem dX6_turn_66 : decode cX6_turn 66 = .ok (.invokestatic 56, 3) := by decide +kernel
theorem dX6_turn_69 : decode cX6_turn 69 = .ok (.iaload, 1) := by decide +kernel
theorem dX6_turn_70 : decode cX6_turn 70 = .ok (.iadd, 1) := by decide +kernel
theorem dX6_turn_71 : decode cX6_turn 71 = .ok (.istore 5, 2) := by decide +kernel
theorem dX6_turn_73 : decode cX6_turn 73 = .ok (.aload_n 0, 1) := by decide +kernel
theorem dX6_turn_74 : decode cX6_turn 74 = .ok (.getfield 9, 3) := by decide +kernel
theorem dX6_turn_77 : decode cX6_turn 77 = .ok (.iload_n 1, 1) := by decide +kernel
theorem dX6_turn_78 : decode cX6_turn 78 = .ok (.iconst 0, 1) := by decide +kernel
theorem dX6_turn_79 : decode cX6_turn 79 = .ok (.invokestatic 56, 3) := by decide +kernel
theorem dX6_turn_82 : decode cX6_turn 82 = .ok (.iload_n 2, 1) := by decide +kernel
theorem dX6_turn_83 : decode cX6_turn 83 = .ok (.iastore, 1) := by decide +kernel
theorem dX6_turn_84 : decode cX6_turn 84 = .ok (.aload_n 0, 1) := by decide +kernel
theorem dX6_turn_85 : decode cX6_turn 85 = .ok (.getfield 9, 3) := by decide +kernel
theorem dX6_turn_88 : decode cX6_turn 88 = .ok (.iload_n 1, 1) := by decide +kernel
theorem dX6_turn_89 : decode cX6_turn 89 = .ok (.iconst 1, 1) := by decide +kernel
theorem dX6_turn_90 : decode cX6_turn 90 = .ok (.invokestatic 56, 3) := by decide +kernel
theorem dX6_turn_93 : decode cX6_turn 93 = .ok (.iload_n 3, 1) := by decide +kernel
theorem dX6_turn_94 : decode cX6_turn 94 = .ok (.iastore, 1) := by decide +kernel
theorem dX6_turn_95 : decode cX6_turn 95 = .ok (.iload 5, 2) := by decide +kernel
theorem dX6_turn_97 : decode cX6_turn 97 = .ok (.ireturn, 1) := by decide +kernel
theorem dX6_years_0 : decode cX6_years 0 = .ok (.iload_n 1, 1) := by decide +kernel
theorem dX6_years_1 : decode cX6_years 1 = .ok (.iconst 1, 1) := by decide +kernel
theorem dX6_years_2 : decode cX6_years 2 = .ok (.if_icmp .ge 10, 3) := by decide +kernel
theorem dX6_years_5 : decode cX6_years 5 = .ok (.aload_n 0, 1) := by decide +kernel
theorem dX6_years_6 : decode cX6_years 6 = .ok (.bipush (-4), 2) := by decide +kernel
theorem dX6_years_8 : decode cX6_years 8 = .ok (.invokevirtual 48, 3) := by decide +kernel
theorem dX6_years_11 : decode cX6_years 11 = .ok (.ireturn, 1) := by decide +kernel
theorem dX6_years_12 : decode cX6_years 12 = .ok (.iload_n 1, 1) := by decide +kernel
theorem dX6_years_13 : decode cX6_years 13 = .ok (.bipush 60, 2) := by decide +kernel
theorem dX6_years_15 : decode cX6_years 15 = .ok (.if_icmp .gt 17, 3) := by decide +kernel
theorem dX6_years_18 : decode cX6_years 18 = .ok (.aload_n 0, 1) := by decide +kernel
theorem dX6_years_19 : decode cX6_years 19 = .ok (.getfield 9, 3) := by decide +kernel
theorem dX6_years_22 : decode cX6_years 22 = .ok (.iconst 4, 1) := by decide +kernel
theorem dX6_years_23 : decode cX6_years 23 = .ok (.iaload, 1) := by decide +kernel
theorem dX6_years_24 : decode cX6_years 24 = .ok (.iload_n 1, 1) := by decide +kernel
theorem dX6_years_25 : decode cX6_years 25 = .ok (.iadd, 1) := by decide +kernel
theorem dX6_years_26 : decode cX6_years 26 = .ok (.sipush 999, 3) := by decide +kernel
theorem dX6_years_29 : decode cX6_years 29 = .ok (.if_icmp .le 10, 3) := by decide +kernel
theorem dX6_years_32 : decode cX6_years 32 = .ok (.aload_n 0, 1) := by decide +kernel
theorem dX6_years_33 : decode cX6_years 33 = .ok (.bipush (-6), 2) := by decide +kernel
theorem dX6_years_35 : decode cX6_years 35 = .ok (.invokevirtual 48, 3) := by decide +kernel
theorem dX6_years_38 : decode cX6_years 38 = .ok (.ireturn, 1) := by decide +kernel
theorem dX6_years_39 : decode cX6_years 39 = .ok (.aload_n 0, 1) := by decide +kernel
theorem dX6_years_40 : decode cX6_years 40 = .ok (.aload_n 0, 1) := by decide +kernel
theorem dX6_years_41 : decode cX6_years 41 = .ok (.getfield 9, 3) := by decide +kernel
theorem dX6_years_44 : decode cX6_years 44 = .ok (.iload_n 1, 1) := by decide +kernel
theorem dX6_years_45 : decode cX6_years 45 = .ok (.invokevirtual 124, 3) := by decide +kernel
theorem dX6_years_48 : decode cX6_years 48 = .ok (.istore_n 2, 1) := by decide +kernel
theorem dX6_years_49 : decode cX6_years 49 = .ok (.aload_n 0, 1) := by decide +kernel
theorem dX6_years_50 : decode cX6_years 50 = .ok (.getfield 9, 3) := by decide +kernel
theorem dX6_years_53 : decode cX6_years 53 = .ok (.iconst 3, 1) := by decide +kernel
theorem dX6_years_54 : decode cX6_years 54 = .ok (.iaload, 1) := by decide +kernel
theorem dX6_years_55 : decode cX6_years 55 = .ok (.ireturn, 1) := by decide +kernel
theorem dX6_takes_0 : decode cX6_takes 0 = .ok (.aload_n 0, 1) := by decide +kernel
theorem dX6_takes_1 : decode cX6_takes 1 = .ok (.getfield 9, 3) := by decide +kernel
theorem dX6_takes_4 : decode cX6_takes 4 = .ok (.aload_n 0, 1) := by decide +kernel
theorem dX6_takes_5 : decode cX6_takes 5 = .ok (.getfield 13, 3) := by decide +kernel
theorem dX6_takes_8 : decode cX6_takes 8 = .ok (.invokestatic 130, 3) := by decide +kernel
theorem dX6_takes_11 : decode cX6_takes 11 = .ok (.aload_n 0, 1) := by decide +kernel
theorem dX6_takes_12 : decode cX6_takes 12 = .ok (.aload_n 0, 1) := by decide +kernel
theorem dX6_takes_13 : decode cX6_takes 13 = .ok (.getfield 13, 3) := by decide +kernel
theorem dX6_takes_16 : decode cX6_takes 16 = .ok (.iload_n 1, 1) := by decide +kernel
theorem dX6_takes_17 : decode cX6_takes 17 = .ok (.invokevirtual 124, 3) := by decide +kernel
theorem dX6_takes_20 : decode cX6_takes 20 = .ok (.ireturn, 1) := by decide +kernel
theorem dX6_heartThen_0 : decode cX6_heartThen 0 = .ok (.aload_n 0, 1) := by decide +kernel
theorem dX6_heartThen_1 : decode cX6_heartThen 1 = .ok (.iload_n 1, 1) := by decide +kernel
theorem dX6_heartThen_2 : decode cX6_heartThen 2 = .ok (.invokevirtual 117, 3) := by decide +kernel
theorem dX6_heartThen_5 : decode cX6_heartThen 5 = .ok (.ifCond .eq 22, 3) := by decide +kernel
theorem dX6_heartThen_8 : decode cX6_heartThen 8 = .ok (.iload_n 2, 1) := by decide +kernel
theorem dX6_heartThen_9 : decode cX6_heartThen 9 = .ok (.iconst 0, 1) := by decide +kernel
theorem dX6_heartThen_10 : decode cX6_heartThen 10 = .ok (.iconst 2, 1) := by decide +kernel
theorem dX6_heartThen_11 : decode cX6_heartThen 11 = .ok (.invokestatic 52, 3) := by decide +kernel
theorem dX6_heartThen_14 : decode cX6_heartThen 14 = .ok (.ifCond .eq 13, 3) := by decide +kernel
theorem dX6_heartThen_17 : decode cX6_heartThen 17 = .ok (.iload_n 3, 1) := by decide +kernel
theorem dX6_heartThen_18 : decode cX6_heartThen 18 = .ok (.iconst 0, 1) := by decide +kernel
theorem dX6_heartThen_19 : decode cX6_heartThen 19 = .ok (.bipush 60, 2) := by decide +kernel
theorem dX6_heartThen_21 : decode cX6_heartThen 21 = .ok (.invokestatic 137, 3) := by decide +kernel
theorem dX6_heartThen_24 : decode cX6_heartThen 24 = .ok (.goto 4, 3) := by decide +kernel
theorem dX6_heartThen_27 : decode cX6_heartThen 27 = .ok (.iconst (-1), 1) := by decide +kernel
theorem dX6_heartThen_28 : decode cX6_heartThen 28 = .ok (.istore 4, 2) := by decide +kernel
theorem dX6_heartThen_30 : decode cX6_heartThen 30 = .ok (.iload 4, 2) := by decide +kernel
theorem dX6_heartThen_32 : decode cX6_heartThen 32 = .ok (.ifCond .eq 10, 3) := by decide +kernel
theorem dX6_heartThen_35 : decode cX6_heartThen 35 = .ok (.aload_n 0, 1) := by decide +kernel
theorem dX6_heartThen_36 : decode cX6_heartThen 36 = .ok (.iload 4, 2) := by decide +kernel
theorem dX6_heartThen_38 : decode cX6_heartThen 38 = .ok (.invokevirtual 48, 3) := by decide +kernel
theorem dX6_heartThen_41 : decode cX6_heartThen 41 = .ok (.ireturn, 1) := by decide +kernel
theorem dX6_heartThen_42 : decode cX6_heartThen 42 = .ok (.aload_n 0, 1) := by decide +kernel
theorem dX6_heartThen_43 : decode cX6_heartThen 43 = .ok (.iload_n 3, 1) := by decide +kernel
theorem dX6_heartThen_44 : decode cX6_heartThen 44 = .ok (.invokevirtual 141, 3) := by decide +kernel
theorem dX6_heartThen_47 : decode cX6_heartThen 47 = .ok (.istore 5, 2) := by decide +kernel
theorem dX6_heartThen_49 : decode cX6_heartThen 49 = .ok (.aload_n 0, 1) := by decide +kernel
theorem dX6_heartThen_50 : decode cX6_heartThen 50 = .ok (.getfield 13, 3) := by decide +kernel
theorem dX6_heartThen_53 : decode cX6_heartThen 53 = .ok (.iload_n 1, 1) := by decide +kernel
theorem dX6_heartThen_54 : decode cX6_heartThen 54 = .ok (.iload_n 2, 1) := by decide +kernel
theorem dX6_heartThen_55 : decode cX6_heartThen 55 = .ok (.invokestatic 60, 3) := by decide +kernel
theorem dX6_heartThen_58 : decode cX6_heartThen 58 = .ok (.iaload, 1) := by decide +kernel
theorem dX6_heartThen_59 : decode cX6_heartThen 59 = .ok (.ireturn, 1) := by decide +kernel
theorem dX6_farmerThen_0 : decode cX6_farmerThen 0 = .ok (.aload_n 0, 1) := by decide +kernel
theorem dX6_farmerThen_1 : decode cX6_farmerThen 1 = .ok (.iload_n 1, 1) := by decide +kernel
theorem dX6_farmerThen_2 : decode cX6_farmerThen 2 = .ok (.invokevirtual 113, 3) := by decide +kernel
theorem dX6_farmerThen_5 : decode cX6_farmerThen 5 = .ok (.ifCond .eq 13, 3) := by decide +kernel
theorem dX6_farmerThen_8 : decode cX6_farmerThen 8 = .ok (.iload_n 2, 1) := by decide +kernel
theorem dX6_farmerThen_9 : decode cX6_farmerThen 9 = .ok (.iconst 0, 1) := by decide +kernel
theorem dX6_farmerThen_10 : decode cX6_farmerThen 10 = .ok (.bipush 60, 2) := by decide +kernel
theorem dX6_farmerThen_12 : decode cX6_farmerThen 12 = .ok (.invokestatic 137, 3) := by decide +kernel
theorem dX6_farmerThen_15 : decode cX6_farmerThen 15 = .ok (.goto 4, 3) := by decide +kernel
theorem dX6_farmerThen_18 : decode cX6_farmerThen 18 = .ok (.iconst (-1), 1) := by decide +kernel
theorem dX6_farmerThen_19 : decode cX6_farmerThen 19 = .ok (.istore 4, 2) := by decide +kernel
theorem dX6_farmerThen_21 : decode cX6_farmerThen 21 = .ok (.iload 4, 2) := by decide +kernel
theorem dX6_farmerThen_23 : decode cX6_farmerThen 23 = .ok (.ifCond .ne 16, 3) := by decide +kernel
theorem dX6_farmerThen_26 : decode cX6_farmerThen 26 = .ok (.iload_n 3, 1) := by decide +kernel
theorem dX6_farmerThen_27 : decode cX6_farmerThen 27 = .ok (.iconst 0, 1) := by decide +kernel
theorem dX6_farmerThen_28 : decode cX6_farmerThen 28 = .ok (.iconst 1, 1) := by decide +kernel
theorem dX6_farmerThen_29 : decode cX6_farmerThen 29 = .ok (.invokestatic 52, 3) := by decide +kernel
theorem dX6_farmerThen_32 : decode cX6_farmerThen 32 = .ok (.ifCond .ne 7, 3) := by decide +kernel
theorem dX6_farmerThen_35 : decode cX6_farmerThen 35 = .ok (.bipush (-2), 2) := by decide +kernel
theorem dX6_farmerThen_37 : decode cX6_farmerThen 37 = .ok (.istore 4, 2) := by decide +kernel
theorem dX6_farmerThen_39 : decode cX6_farmerThen 39 = .ok (.iload 4, 2) := by decide +kernel
theorem dX6_farmerThen_41 : decode cX6_farmerThen 41 = .ok (.ifCond .eq 10, 3) := by decide +kernel
theorem dX6_farmerThen_44 : decode cX6_farmerThen 44 = .ok (.aload_n 0, 1) := by decide +kernel
theorem dX6_farmerThen_45 : decode cX6_farmerThen 45 = .ok (.iload 4, 2) := by decide +kernel
theorem dX6_farmerThen_47 : decode cX6_farmerThen 47 = .ok (.invokevirtual 48, 3) := by decide +kernel
theorem dX6_farmerThen_50 : decode cX6_farmerThen 50 = .ok (.ireturn, 1) := by decide +kernel
theorem dX6_farmerThen_51 : decode cX6_farmerThen 51 = .ok (.aload_n 0, 1) := by decide +kernel
theorem dX6_farmerThen_52 : decode cX6_farmerThen 52 = .ok (.iload_n 2, 1) := by decide +kernel
theorem dX6_farmerThen_53 : decode cX6_farmerThen 53 = .ok (.invokevirtual 141, 3) := by decide +kernel
theorem dX6_farmerThen_56 : decode cX6_farmerThen 56 = .ok (.istore 5, 2) := by decide +kernel
theorem dX6_farmerThen_58 : decode cX6_farmerThen 58 = .ok (.aload_n 0, 1) := by decide +kernel
theorem dX6_farmerThen_59 : decode cX6_farmerThen 59 = .ok (.getfield 13, 3) := by decide +kernel
theorem dX6_farmerThen_62 : decode cX6_farmerThen 62 = .ok (.iload_n 1, 1) := by decide +kernel
theorem dX6_farmerThen_63 : decode cX6_farmerThen 63 = .ok (.iconst 2, 1) := by decide +kernel
theorem dX6_farmerThen_64 : decode cX6_farmerThen 64 = .ok (.iload_n 3, 1) := by decide +kernel
theorem dX6_farmerThen_65 : decode cX6_farmerThen 65 = .ok (.iadd, 1) := by decide +kernel
theorem dX6_farmerThen_66 : decode cX6_farmerThen 66 = .ok (.invokestatic 56, 3) := by decide +kernel
theorem dX6_farmerThen_69 : decode cX6_farmerThen 69 = .ok (.iaload, 1) := by decide +kernel
theorem dX6_farmerThen_70 : decode cX6_farmerThen 70 = .ok (.ireturn, 1) := by decide +kernel
theorem dX6_barnThen_0 : decode cX6_barnThen 0 = .ok (.iload_n 1, 1) := by decide +kernel
theorem dX6_barnThen_1 : decode cX6_barnThen 1 = .ok (.iconst 0, 1) := by decide +kernel
theorem dX6_barnThen_2 : decode cX6_barnThen 2 = .ok (.bipush 60, 2) := by decide +kernel
theorem dX6_barnThen_4 : decode cX6_barnThen 4 = .ok (.invokestatic 137, 3) := by decide +kernel
theorem dX6_barnThen_7 : decode cX6_barnThen 7 = .ok (.istore_n 2, 1) := by decide +kernel
theorem dX6_barnThen_8 : decode cX6_barnThen 8 = .ok (.iload_n 2, 1) := by decide +kernel
theorem dX6_barnThen_9 : decode cX6_barnThen 9 = .ok (.ifCond .eq 9, 3) := by decide +kernel
theorem dX6_barnThen_12 : decode cX6_barnThen 12 = .ok (.aload_n 0, 1) := by decide +kernel
theorem dX6_barnThen_13 : decode cX6_barnThen 13 = .ok (.iload_n 2, 1) := by decide +kernel
theorem dX6_barnThen_14 : decode cX6_barnThen 14 = .ok (.invokevirtual 48, 3) := by decide +kernel
theorem dX6_barnThen_17 : decode cX6_barnThen 17 = .ok (.ireturn, 1) := by decide +kernel
theorem dX6_barnThen_18 : decode cX6_barnThen 18 = .ok (.aload_n 0, 1) := by decide +kernel
theorem dX6_barnThen_19 : decode cX6_barnThen 19 = .ok (.iload_n 1, 1) := by decide +kernel
theorem dX6_barnThen_20 : decode cX6_barnThen 20 = .ok (.invokevirtual 141, 3) := by decide +kernel
theorem dX6_barnThen_23 : decode cX6_barnThen 23 = .ok (.istore_n 3, 1) := by decide +kernel
theorem dX6_barnThen_24 : decode cX6_barnThen 24 = .ok (.aload_n 0, 1) := by decide +kernel
theorem dX6_barnThen_25 : decode cX6_barnThen 25 = .ok (.getfield 13, 3) := by decide +kernel
theorem dX6_barnThen_28 : decode cX6_barnThen 28 = .ok (.iconst 3, 1) := by decide +kernel
theorem dX6_barnThen_29 : decode cX6_barnThen 29 = .ok (.iaload, 1) := by decide +kernel
theorem dX6_barnThen_30 : decode cX6_barnThen 30 = .ok (.ireturn, 1) := by decide +kernel
theorem dX6_greenest_0 : decode cX6_greenest 0 = .ok (.bipush (-9), 2) := by decide +kernel
theorem dX6_greenest_2 : decode cX6_greenest 2 = .ok (.istore_n 1, 1) := by decide +kernel
theorem dX6_greenest_3 : decode cX6_greenest 3 = .ok (.iconst 0, 1) := by decide +kernel
theorem dX6_greenest_4 : decode cX6_greenest 4 = .ok (.istore_n 2, 1) := by decide +kernel
theorem dX6_greenest_5 : decode cX6_greenest 5 = .ok (.iload_n 2, 1) := by decide +kernel
theorem dX6_greenest_6 : decode cX6_greenest 6 = .ok (.aload_n 0, 1) := by decide +kernel
theorem dX6_greenest_7 : decode cX6_greenest 7 = .ok (.getfield 9, 3) := by decide +kernel
theorem dX6_greenest_10 : decode cX6_greenest 10 = .ok (.iconst 0, 1) := by decide +kernel
theorem dX6_greenest_11 : decode cX6_greenest 11 = .ok (.iaload, 1) := by decide +kernel
theorem dX6_greenest_12 : decode cX6_greenest 12 = .ok (.if_icmp .ge 34, 3) := by decide +kernel
theorem dX6_greenest_15 : decode cX6_greenest 15 = .ok (.iload_n 1, 1) := by decide +kernel
theorem dX6_greenest_16 : decode cX6_greenest 16 = .ok (.ifCond .lt 22, 3) := by decide +kernel
theorem dX6_greenest_19 : decode cX6_greenest 19 = .ok (.aload_n 0, 1) := by decide +kernel
theorem dX6_greenest_20 : decode cX6_greenest 20 = .ok (.getfield 9, 3) := by decide +kernel
theorem dX6_greenest_23 : decode cX6_greenest 23 = .ok (.iload_n 2, 1) := by decide +kernel
theorem dX6_greenest_24 : decode cX6_greenest 24 = .ok (.invokestatic 88, 3) := by decide +kernel
theorem dX6_greenest_27 : decode cX6_greenest 27 = .ok (.aload_n 0, 1) := by decide +kernel
theorem dX6_greenest_28 : decode cX6_greenest 28 = .ok (.getfield 9, 3) := by decide +kernel
theorem dX6_greenest_31 : decode cX6_greenest 31 = .ok (.iload_n 1, 1) := by decide +kernel
theorem dX6_greenest_32 : decode cX6_greenest 32 = .ok (.invokestatic 88, 3) := by decide +kernel
theorem dX6_greenest_35 : decode cX6_greenest 35 = .ok (.if_icmp .le 5, 3) := by decide +kernel
theorem dX6_greenest_38 : decode cX6_greenest 38 = .ok (.iload_n 2, 1) := by decide +kernel
theorem dX6_greenest_39 : decode cX6_greenest 39 = .ok (.istore_n 1, 1) := by decide +kernel
theorem dX6_greenest_40 : decode cX6_greenest 40 = .ok (.iinc 2 1, 3) := by decide +kernel
theorem dX6_greenest_43 : decode cX6_greenest 43 = .ok (.goto (-38), 3) := by decide +kernel
theorem dX6_greenest_46 : decode cX6_greenest 46 = .ok (.iload_n 1, 1) := by decide +kernel
theorem dX6_greenest_47 : decode cX6_greenest 47 = .ok (.ireturn, 1) := by decide +kernel
theorem dX6_lostIn_0 : decode cX6_lostIn 0 = .ok (.iconst 0, 1) := by decide +kernel
theorem dX6_lostIn_1 : decode cX6_lostIn 1 = .ok (.istore_n 1, 1) := by decide +kernel
theorem dX6_lostIn_2 : decode cX6_lostIn 2 = .ok (.iload_n 1, 1) := by decide +kernel
theorem dX6_lostIn_3 : decode cX6_lostIn 3 = .ok (.aload_n 0, 1) := by decide +kernel
theorem dX6_lostIn_4 : decode cX6_lostIn 4 = .ok (.iconst 0, 1) := by decide +kernel
theorem dX6_lostIn_5 : decode cX6_lostIn 5 = .ok (.iaload, 1) := by decide +kernel
theorem dX6_lostIn_6 : decode cX6_lostIn 6 = .ok (.if_icmp .ge 34, 3) := by decide +kernel
theorem dX6_lostIn_9 : decode cX6_lostIn 9 = .ok (.iconst 0, 1) := by decide +kernel
theorem dX6_lostIn_10 : decode cX6_lostIn 10 = .ok (.istore_n 2, 1) := by decide +kernel
theorem dX6_lostIn_11 : decode cX6_lostIn 11 = .ok (.iload_n 2, 1) := by decide +kernel
theorem dX6_lostIn_12 : decode cX6_lostIn 12 = .ok (.iconst 3, 1) := by decide +kernel
theorem dX6_lostIn_13 : decode cX6_lostIn 13 = .ok (.if_icmp .ge 21, 3) := by decide +kernel
theorem dX6_lostIn_16 : decode cX6_lostIn 16 = .ok (.aload_n 0, 1) := by decide +kernel
theorem dX6_lostIn_17 : decode cX6_lostIn 17 = .ok (.iload_n 1, 1) := by decide +kernel
theorem dX6_lostIn_18 : decode cX6_lostIn 18 = .ok (.iload_n 2, 1) := by decide +kernel
theorem dX6_lostIn_19 : decode cX6_lostIn 19 = .ok (.invokestatic 60, 3) := by decide +kernel
theorem dX6_lostIn_22 : decode cX6_lostIn 22 = .ok (.iaload, 1) := by decide +kernel
theorem dX6_lostIn_23 : decode cX6_lostIn 23 = .ok (.ifCond .ne 5, 3) := by decide +kernel
theorem dX6_lostIn_26 : decode cX6_lostIn 26 = .ok (.iload_n 1, 1) := by decide +kernel
theorem dX6_lostIn_27 : decode cX6_lostIn 27 = .ok (.ireturn, 1) := by decide +kernel
theorem dX6_lostIn_28 : decode cX6_lostIn 28 = .ok (.iinc 2 1, 3) := by decide +kernel
theorem dX6_lostIn_31 : decode cX6_lostIn 31 = .ok (.goto (-20), 3) := by decide +kernel
theorem dX6_lostIn_34 : decode cX6_lostIn 34 = .ok (.iinc 1 1, 3) := by decide +kernel
theorem dX6_lostIn_37 : decode cX6_lostIn 37 = .ok (.goto (-35), 3) := by decide +kernel
theorem dX6_lostIn_40 : decode cX6_lostIn 40 = .ok (.bipush (-9), 2) := by decide +kernel
theorem dX6_lostIn_42 : decode cX6_lostIn 42 = .ok (.ireturn, 1) := by decide +kernel
theorem dX6_lost_0 : decode cX6_lost 0 = .ok (.iload_n 1, 1) := by decide +kernel
theorem dX6_lost_1 : decode cX6_lost 1 = .ok (.iconst 0, 1) := by decide +kernel
theorem dX6_lost_2 : decode cX6_lost 2 = .ok (.iconst 1, 1) := by decide +kernel
theorem dX6_lost_3 : decode cX6_lost 3 = .ok (.invokestatic 52, 3) := by decide +kernel
theorem dX6_lost_6 : decode cX6_lost 6 = .ok (.ifCond .ne 10, 3) := by decide +kernel
theorem dX6_lost_9 : decode cX6_lost 9 = .ok (.aload_n 0, 1) := by decide +kernel
theorem dX6_lost_10 : decode cX6_lost 10 = .ok (.bipush (-2), 2) := by decide +kernel
theorem dX6_lost_12 : decode cX6_lost 12 = .ok (.invokevirtual 48, 3) := by decide +kernel
theorem dX6_lost_15 : decode cX6_lost 15 = .ok (.ireturn, 1) := by decide +kernel
theorem dX6_lost_16 : decode cX6_lost 16 = .ok (.aload_n 0, 1) := by decide +kernel
theorem dX6_lost_17 : decode cX6_lost 17 = .ok (.getfield 9, 3) := by decide +kernel
theorem dX6_lost_20 : decode cX6_lost 20 = .ok (.aload_n 0, 1) := by decide +kernel
theorem dX6_lost_21 : decode cX6_lost 21 = .ok (.getfield 13, 3) := by decide +kernel
theorem dX6_lost_24 : decode cX6_lost 24 = .ok (.invokestatic 130, 3) := by decide +kernel
theorem dX6_lost_27 : decode cX6_lost 27 = .ok (.iconst 0, 1) := by decide +kernel
theorem dX6_lost_28 : decode cX6_lost 28 = .ok (.istore_n 2, 1) := by decide +kernel
theorem dX6_lost_29 : decode cX6_lost 29 = .ok (.iload_n 2, 1) := by decide +kernel
theorem dX6_lost_30 : decode cX6_lost 30 = .ok (.bipush 60, 2) := by decide +kernel
theorem dX6_lost_32 : decode cX6_lost 32 = .ok (.if_icmp .gt 45, 3) := by decide +kernel
theorem dX6_lost_35 : decode cX6_lost 35 = .ok (.aload_n 0, 1) := by decide +kernel
theorem dX6_lost_36 : decode cX6_lost 36 = .ok (.getfield 13, 3) := by decide +kernel
theorem dX6_lost_39 : decode cX6_lost 39 = .ok (.invokestatic 144, 3) := by decide +kernel
theorem dX6_lost_42 : decode cX6_lost 42 = .ok (.ifCond .lt 19, 3) := by decide +kernel
theorem dX6_lost_45 : decode cX6_lost 45 = .ok (.iload_n 1, 1) := by decide +kernel
theorem dX6_lost_46 : decode cX6_lost 46 = .ok (.ifCond .ne 13, 3) := by decide +kernel
theorem dX6_lost_49 : decode cX6_lost 49 = .ok (.aload_n 0, 1) := by decide +kernel
theorem dX6_lost_50 : decode cX6_lost 50 = .ok (.getfield 13, 3) := by decide +kernel
theorem dX6_lost_53 : decode cX6_lost 53 = .ok (.invokestatic 144, 3) := by decide +kernel
theorem dX6_lost_56 : decode cX6_lost 56 = .ok (.goto 4, 3) := by decide +kernel
theorem dX6_lost_59 : decode cX6_lost 59 = .ok (.iload_n 2, 1) := by decide +kernel
theorem dX6_lost_60 : decode cX6_lost 60 = .ok (.ireturn, 1) := by decide +kernel
theorem dX6_lost_61 : decode cX6_lost 61 = .ok (.aload_n 0, 1) := by decide +kernel
theorem dX6_lost_62 : decode cX6_lost 62 = .ok (.aload_n 0, 1) := by decide +kernel
theorem dX6_lost_63 : decode cX6_lost 63 = .ok (.getfield 13, 3) := by decide +kernel
theorem dX6_lost_66 : decode cX6_lost 66 = .ok (.iconst 0, 1) := by decide +kernel
theorem dX6_lost_67 : decode cX6_lost 67 = .ok (.invokevirtual 84, 3) := by decide +kernel
theorem dX6_lost_70 : decode cX6_lost 70 = .ok (.istore_n 3, 1) := by decide +kernel
theorem dX6_lost_71 : decode cX6_lost 71 = .ok (.iinc 2 1, 3) := by decide +kernel
theorem dX6_lost_74 : decode cX6_lost 74 = .ok (.goto (-45), 3) := by decide +kernel
theorem dX6_lost_77 : decode cX6_lost 77 = .ok (.bipush (-9), 2) := by decide +kernel
theorem dX6_lost_79 : decode cX6_lost 79 = .ok (.ireturn, 1) := by decide +kernel
theorem dX6_inHeart_0 : decode cX6_inHeart 0 = .ok (.aload_n 0, 1) := by decide +kernel
theorem dX6_inHeart_1 : decode cX6_inHeart 1 = .ok (.getfield 9, 3) := by decide +kernel
theorem dX6_inHeart_4 : decode cX6_inHeart 4 = .ok (.aload_n 0, 1) := by decide +kernel
theorem dX6_inHeart_5 : decode cX6_inHeart 5 = .ok (.getfield 13, 3) := by decide +kernel
theorem dX6_inHeart_8 : decode cX6_inHeart 8 = .ok (.invokestatic 130, 3) := by decide +kernel
theorem dX6_inHeart_11 : decode cX6_inHeart 11 = .ok (.iconst 0, 1) := by decide +kernel
theorem dX6_inHeart_12 : decode cX6_inHeart 12 = .ok (.istore_n 1, 1) := by decide +kernel
theorem dX6_inHeart_13 : decode cX6_inHeart 13 = .ok (.iload_n 1, 1) := by decide +kernel
theorem dX6_inHeart_14 : decode cX6_inHeart 14 = .ok (.bipush 60, 2) := by decide +kernel
theorem dX6_inHeart_16 : decode cX6_inHeart 16 = .ok (.if_icmp .gt 31, 3) := by decide +kernel
theorem dX6_inHeart_19 : decode cX6_inHeart 19 = .ok (.aload_n 0, 1) := by decide +kernel
theorem dX6_inHeart_20 : decode cX6_inHeart 20 = .ok (.getfield 13, 3) := by decide +kernel
theorem dX6_inHeart_23 : decode cX6_inHeart 23 = .ok (.invokestatic 144, 3) := by decide +kernel
theorem dX6_inHeart_26 : decode cX6_inHeart 26 = .ok (.ifCond .lt 5, 3) := by decide +kernel
theorem dX6_inHeart_29 : decode cX6_inHeart 29 = .ok (.iload_n 1, 1) := by decide +kernel
theorem dX6_inHeart_30 : decode cX6_inHeart 30 = .ok (.ireturn, 1) := by decide +kernel
theorem dX6_inHeart_31 : decode cX6_inHeart 31 = .ok (.aload_n 0, 1) := by decide +kernel
theorem dX6_inHeart_32 : decode cX6_inHeart 32 = .ok (.aload_n 0, 1) := by decide +kernel
theorem dX6_inHeart_33 : decode cX6_inHeart 33 = .ok (.getfield 13, 3) := by decide +kernel
theorem dX6_inHeart_36 : decode cX6_inHeart 36 = .ok (.iconst 0, 1) := by decide +kernel
theorem dX6_inHeart_37 : decode cX6_inHeart 37 = .ok (.invokevirtual 84, 3) := by decide +kernel
theorem dX6_inHeart_40 : decode cX6_inHeart 40 = .ok (.istore_n 2, 1) := by decide +kernel
theorem dX6_inHeart_41 : decode cX6_inHeart 41 = .ok (.iinc 1 1, 3) := by decide +kernel
theorem dX6_inHeart_44 : decode cX6_inHeart 44 = .ok (.goto (-31), 3) := by decide +kernel
theorem dX6_inHeart_47 : decode cX6_inHeart 47 = .ok (.bipush 61, 2) := by decide +kernel
theorem dX6_inHeart_49 : decode cX6_inHeart 49 = .ok (.ireturn, 1) := by decide +kernel
theorem dX6_crop_0 : decode cX6_crop 0 = .ok (.iload_n 1, 1) := by decide +kernel
theorem dX6_crop_1 : decode cX6_crop 1 = .ok (.iconst (-1), 1) := by decide +kernel
theorem dX6_crop_2 : decode cX6_crop 2 = .ok (.if_icmp .eq 11, 3) := by decide +kernel
theorem dX6_crop_5 : decode cX6_crop 5 = .ok (.aload_n 0, 1) := by decide +kernel
theorem dX6_crop_6 : decode cX6_crop 6 = .ok (.iload_n 1, 1) := by decide +kernel
theorem dX6_crop_7 : decode cX6_crop 7 = .ok (.invokevirtual 117, 3) := by decide +kernel
theorem dX6_crop_10 : decode cX6_crop 10 = .ok (.ifCond .eq 13, 3) := by decide +kernel
theorem dX6_crop_13 : decode cX6_crop 13 = .ok (.iload_n 2, 1) := by decide +kernel
theorem dX6_crop_14 : decode cX6_crop 14 = .ok (.iconst 1, 1) := by decide +kernel
theorem dX6_crop_15 : decode cX6_crop 15 = .ok (.bipush 60, 2) := by decide +kernel
theorem dX6_crop_17 : decode cX6_crop 17 = .ok (.invokestatic 137, 3) := by decide +kernel
theorem dX6_crop_20 : decode cX6_crop 20 = .ok (.goto 4, 3) := by decide +kernel
theorem dX6_crop_23 : decode cX6_crop 23 = .ok (.iconst (-1), 1) := by decide +kernel
theorem dX6_crop_24 : decode cX6_crop 24 = .ok (.istore_n 3, 1) := by decide +kernel
theorem dX6_crop_25 : decode cX6_crop 25 = .ok (.iload_n 3, 1) := by decide +kernel
theorem dX6_crop_26 : decode cX6_crop 26 = .ok (.ifCond .eq 9, 3) := by decide +kernel
theorem dX6_crop_29 : decode cX6_crop 29 = .ok (.aload_n 0, 1) := by decide +kernel
theorem dX6_crop_30 : decode cX6_crop 30 = .ok (.iload_n 3, 1) := by decide +kernel
theorem dX6_crop_31 : decode cX6_crop 31 = .ok (.invokevirtual 48, 3) := by decide +kernel
theorem dX6_crop_34 : decode cX6_crop 34 = .ok (.ireturn, 1) := by decide +kernel
theorem dX6_crop_35 : decode cX6_crop 35 = .ok (.aload_n 0, 1) := by decide +kernel
theorem dX6_crop_36 : decode cX6_crop 36 = .ok (.iload_n 2, 1) := by decide +kernel
theorem dX6_crop_37 : decode cX6_crop 37 = .ok (.invokevirtual 141, 3) := by decide +kernel
theorem dX6_crop_40 : decode cX6_crop 40 = .ok (.istore 4, 2) := by decide +kernel
theorem dX6_crop_42 : decode cX6_crop 42 = .ok (.iload_n 1, 1) := by decide +kernel
theorem dX6_crop_43 : decode cX6_crop 43 = .ok (.ifCond .ge 8, 3) := by decide +kernel
theorem dX6_crop_46 : decode cX6_crop 46 = .ok (.iload 4, 2) := by decide +kernel
theorem dX6_crop_48 : decode cX6_crop 48 = .ok (.goto 9, 3) := by decide +kernel
theorem dX6_crop_51 : decode cX6_crop 51 = .ok (.aload_n 0, 1) := by decide +kernel
theorem dX6_crop_52 : decode cX6_crop 52 = .ok (.getfield 22, 3) := by decide +kernel
theorem dX6_crop_55 : decode cX6_crop 55 = .ok (.iload_n 1, 1) := by decide +kernel
theorem dX6_crop_56 : decode cX6_crop 56 = .ok (.iaload, 1) := by decide +kernel
theorem dX6_crop_57 : decode cX6_crop 57 = .ok (.ireturn, 1) := by decide +kernel
theorem dX6_bestStep_0 : decode cX6_bestStep 0 = .ok (.iload_n 1, 1) := by decide +kernel
theorem dX6_bestStep_1 : decode cX6_bestStep 1 = .ok (.iconst 1, 1) := by decide +kernel
theorem dX6_bestStep_2 : decode cX6_bestStep 2 = .ok (.bipush 30, 2) := by decide +kernel
theorem dX6_bestStep_4 : decode cX6_bestStep 4 = .ok (.invokestatic 137, 3) := by decide +kernel
theorem dX6_bestStep_7 : decode cX6_bestStep 7 = .ok (.istore_n 3, 1) := by decide +kernel
theorem dX6_bestStep_8 : decode cX6_bestStep 8 = .ok (.iload_n 3, 1) := by decide +kernel
theorem dX6_bestStep_9 : decode cX6_bestStep 9 = .ok (.ifCond .ne 15, 3) := by decide +kernel
theorem dX6_bestStep_12 : decode cX6_bestStep 12 = .ok (.iload_n 2, 1) := by decide +kernel
theorem dX6_bestStep_13 : decode cX6_bestStep 13 = .ok (.iconst 0, 1) := by decide +kernel
theorem dX6_bestStep_14 : decode cX6_bestStep 14 = .ok (.iconst 1, 1) := by decide +kernel
theorem dX6_bestStep_15 : decode cX6_bestStep 15 = .ok (.invokestatic 52, 3) := by decide +kernel
theorem dX6_bestStep_18 : decode cX6_bestStep 18 = .ok (.ifCond .ne 6, 3) := by decide +kernel
theorem dX6_bestStep_21 : decode cX6_bestStep 21 = .ok (.bipush (-2), 2) := by decide +kernel
theorem dX6_bestStep_23 : decode cX6_bestStep 23 = .ok (.istore_n 3, 1) := by decide +kernel
theorem dX6_bestStep_24 : decode cX6_bestStep 24 = .ok (.iload_n 3, 1) := by decide +kernel
theorem dX6_bestStep_25 : decode cX6_bestStep 25 = .ok (.ifCond .eq 9, 3) := by decide +kernel
theorem dX6_bestStep_28 : decode cX6_bestStep 28 = .ok (.aload_n 0, 1) := by decide +kernel
theorem dX6_bestStep_29 : decode cX6_bestStep 29 = .ok (.iload_n 3, 1) := by decide +kernel
theorem dX6_bestStep_30 : decode cX6_bestStep 30 = .ok (.invokevirtual 48, 3) := by decide +kernel
theorem dX6_bestStep_33 : decode cX6_bestStep 33 = .ok (.ireturn, 1) := by decide +kernel
theorem dX6_bestStep_34 : decode cX6_bestStep 34 = .ok (.iconst 0, 1) := by decide +kernel
theorem dX6_bestStep_35 : decode cX6_bestStep 35 = .ok (.istore 4, 2) := by decide +kernel
theorem dX6_bestStep_37 : decode cX6_bestStep 37 = .ok (.iconst (-1), 1) := by decide +kernel
theorem dX6_bestStep_38 : decode cX6_bestStep 38 = .ok (.istore 5, 2) := by decide +kernel
theorem dX6_bestStep_40 : decode cX6_bestStep 40 = .ok (.iconst 0, 1) := by decide +kernel
theorem dX6_bestStep_41 : decode cX6_bestStep 41 = .ok (.istore 6, 2) := by decide +kernel
theorem dX6_bestStep_43 : decode cX6_bestStep 43 = .ok (.iload 6, 2) := by decide +kernel
theorem dX6_bestStep_45 : decode cX6_bestStep 45 = .ok (.bipush 6, 2) := by decide +kernel
theorem dX6_bestStep_47 : decode cX6_bestStep 47 = .ok (.if_icmp .ge 57, 3) := by decide +kernel
theorem dX6_bestStep_50 : decode cX6_bestStep 50 = .ok (.aload_n 0, 1) := by decide +kernel
theorem dX6_bestStep_51 : decode cX6_bestStep 51 = .ok (.getfield 9, 3) := by decide +kernel
theorem dX6_bestStep_54 : decode cX6_bestStep 54 = .ok (.aload_n 0, 1) := by decide +kernel
theorem dX6_bestStep_55 : decode cX6_bestStep 55 = .ok (.getfield 13, 3) := by decide +kernel
theorem dX6_bestStep_58 : decode cX6_bestStep 58 = .ok (.invokestatic 130, 3) := by decide +kernel
theorem dX6_bestStep_61 : decode cX6_bestStep 61 = .ok (.aload_n 0, 1) := by decide +kernel
theorem dX6_bestStep_62 : decode cX6_bestStep 62 = .ok (.getfield 13, 3) := by decide +kernel
theorem dX6_bestStep_65 : decode cX6_bestStep 65 = .ok (.iconst 2, 1) := by decide +kernel
theorem dX6_bestStep_66 : decode cX6_bestStep 66 = .ok (.iload 6, 2) := by decide +kernel
theorem dX6_bestStep_68 : decode cX6_bestStep 68 = .ok (.iastore, 1) := by decide +kernel
theorem dX6_bestStep_69 : decode cX6_bestStep 69 = .ok (.aload_n 0, 1) := by decide +kernel
theorem dX6_bestStep_70 : decode cX6_bestStep 70 = .ok (.aload_n 0, 1) := by decide +kernel
theorem dX6_bestStep_71 : decode cX6_bestStep 71 = .ok (.getfield 13, 3) := by decide +kernel
theorem dX6_bestStep_74 : decode cX6_bestStep 74 = .ok (.iload_n 1, 1) := by decide +kernel
theorem dX6_bestStep_75 : decode cX6_bestStep 75 = .ok (.invokevirtual 124, 3) := by decide +kernel
theorem dX6_bestStep_78 : decode cX6_bestStep 78 = .ok (.istore 7, 2) := by decide +kernel
theorem dX6_bestStep_80 : decode cX6_bestStep 80 = .ok (.iload 7, 2) := by decide +kernel
theorem dX6_bestStep_82 : decode cX6_bestStep 82 = .ok (.iload 5, 2) := by decide +kernel
theorem dX6_bestStep_84 : decode cX6_bestStep 84 = .ok (.if_icmp .gt 6, 3) := by decide +kernel
theorem dX6_bestStep_87 : decode cX6_bestStep 87 = .ok (.goto 11, 3) := by decide +kernel
theorem dX6_bestStep_90 : decode cX6_bestStep 90 = .ok (.iload 6, 2) := by decide +kernel
theorem dX6_bestStep_92 : decode cX6_bestStep 92 = .ok (.istore 4, 2) := by decide +kernel
theorem dX6_bestStep_94 : decode cX6_bestStep 94 = .ok (.iload 7, 2) := by decide +kernel
theorem dX6_bestStep_96 : decode cX6_bestStep 96 = .ok (.istore 5, 2) := by decide +kernel
theorem dX6_bestStep_98 : decode cX6_bestStep 98 = .ok (.iinc 6 1, 3) := by decide +kernel
theorem dX6_bestStep_101 : decode cX6_bestStep 101 = .ok (.goto (-58), 3) := by decide +kernel
theorem dX6_bestStep_104 : decode cX6_bestStep 104 = .ok (.iload_n 2, 1) := by decide +kernel
theorem dX6_bestStep_105 : decode cX6_bestStep 105 = .ok (.ifCond .ne 8, 3) := by decide +kernel
theorem dX6_bestStep_108 : decode cX6_bestStep 108 = .ok (.iload 4, 2) := by decide +kernel
theorem dX6_bestStep_110 : decode cX6_bestStep 110 = .ok (.goto 5, 3) := by decide +kernel
theorem dX6_bestStep_113 : decode cX6_bestStep 113 = .ok (.iload 5, 2) := by decide +kernel
theorem dX6_bestStep_115 : decode cX6_bestStep 115 = .ok (.ireturn, 1) := by decide +kernel
theorem dX6_send_0 : decode cX6_send 0 = .ok (.iload_n 1, 1) := by decide +kernel
theorem dX6_send_1 : decode cX6_send 1 = .ok (.iconst 1, 1) := by decide +kernel
theorem dX6_send_2 : decode cX6_send 2 = .ok (.bipush 30, 2) := by decide +kernel
theorem dX6_send_4 : decode cX6_send 4 = .ok (.invokestatic 137, 3) := by decide +kernel
theorem dX6_send_7 : decode cX6_send 7 = .ok (.istore_n 2, 1) := by decide +kernel
theorem dX6_send_8 : decode cX6_send 8 = .ok (.iload_n 2, 1) := by decide +kernel
theorem dX6_send_9 : decode cX6_send 9 = .ok (.ifCond .eq 9, 3) := by decide +kernel
theorem dX6_send_12 : decode cX6_send 12 = .ok (.aload_n 0, 1) := by decide +kernel
theorem dX6_send_13 : decode cX6_send 13 = .ok (.iload_n 2, 1) := by decide +kernel
theorem dX6_send_14 : decode cX6_send 14 = .ok (.invokevirtual 48, 3) := by decide +kernel
theorem dX6_send_17 : decode cX6_send 17 = .ok (.ireturn, 1) := by decide +kernel
theorem dX6_send_18 : decode cX6_send 18 = .ok (.aload_n 0, 1) := by decide +kernel
theorem dX6_send_19 : decode cX6_send 19 = .ok (.iload_n 1, 1) := by decide +kernel
theorem dX6_send_20 : decode cX6_send 20 = .ok (.invokevirtual 141, 3) := by decide +kernel
theorem dX6_send_23 : decode cX6_send 23 = .ok (.istore_n 3, 1) := by decide +kernel
theorem dX6_send_24 : decode cX6_send 24 = .ok (.bipush (-9), 2) := by decide +kernel
theorem dX6_send_26 : decode cX6_send 26 = .ok (.istore 4, 2) := by decide +kernel
theorem dX6_send_28 : decode cX6_send 28 = .ok (.iconst 0, 1) := by decide +kernel
theorem dX6_send_29 : decode cX6_send 29 = .ok (.istore 5, 2) := by decide +kernel
theorem dX6_send_31 : decode cX6_send 31 = .ok (.iload 5, 2) := by decide +kernel
theorem dX6_send_33 : decode cX6_send 33 = .ok (.aload_n 0, 1) := by decide +kernel
theorem dX6_send_34 : decode cX6_send 34 = .ok (.getfield 9, 3) := by decide +kernel
theorem dX6_send_37 : decode cX6_send 37 = .ok (.iconst 1, 1) := by decide +kernel
theorem dX6_send_38 : decode cX6_send 38 = .ok (.iaload, 1) := by decide +kernel
theorem dX6_send_39 : decode cX6_send 39 = .ok (.if_icmp .ge 60, 3) := by decide +kernel
theorem dX6_send_42 : decode cX6_send 42 = .ok (.aload_n 0, 1) := by decide +kernel
theorem dX6_send_43 : decode cX6_send 43 = .ok (.getfield 9, 3) := by decide +kernel
theorem dX6_send_46 : decode cX6_send 46 = .ok (.aload_n 0, 1) := by decide +kernel
theorem dX6_send_47 : decode cX6_send 47 = .ok (.getfield 13, 3) := by decide +kernel
theorem dX6_send_50 : decode cX6_send 50 = .ok (.invokestatic 130, 3) := by decide +kernel
theorem dX6_send_53 : decode cX6_send 53 = .ok (.aload_n 0, 1) := by decide +kernel
theorem dX6_send_54 : decode cX6_send 54 = .ok (.getfield 13, 3) := by decide +kernel
theorem dX6_send_57 : decode cX6_send 57 = .ok (.iload 5, 2) := by decide +kernel
theorem dX6_send_59 : decode cX6_send 59 = .ok (.iconst 3, 1) := by decide +kernel
theorem dX6_send_60 : decode cX6_send 60 = .ok (.invokestatic 56, 3) := by decide +kernel
theorem dX6_send_63 : decode cX6_send 63 = .ok (.bipush (-9), 2) := by decide +kernel
theorem dX6_send_65 : decode cX6_send 65 = .ok (.iastore, 1) := by decide +kernel
theorem dX6_send_66 : decode cX6_send 66 = .ok (.aload_n 0, 1) := by decide +kernel
theorem dX6_send_67 : decode cX6_send 67 = .ok (.aload_n 0, 1) := by decide +kernel
theorem dX6_send_68 : decode cX6_send 68 = .ok (.getfield 13, 3) := by decide +kernel
theorem dX6_send_71 : decode cX6_send 71 = .ok (.iload_n 1, 1) := by decide +kernel
theorem dX6_send_72 : decode cX6_send 72 = .ok (.invokevirtual 124, 3) := by decide +kernel
theorem dX6_send_75 : decode cX6_send 75 = .ok (.istore 6, 2) := by decide +kernel
theorem dX6_send_77 : decode cX6_send 77 = .ok (.iload 6, 2) := by decide +kernel
theorem dX6_send_79 : decode cX6_send 79 = .ok (.iload_n 3, 1) := by decide +kernel
theorem dX6_send_80 : decode cX6_send 80 = .ok (.if_icmp .gt 6, 3) := by decide +kernel
theorem dX6_send_83 : decode cX6_send 83 = .ok (.goto 10, 3) := by decide +kernel
theorem dX6_send_86 : decode cX6_send 86 = .ok (.iload 5, 2) := by decide +kernel
theorem dX6_send_88 : decode cX6_send 88 = .ok (.istore 4, 2) := by decide +kernel
theorem dX6_send_90 : decode cX6_send 90 = .ok (.iload 6, 2) := by decide +kernel
theorem dX6_send_92 : decode cX6_send 92 = .ok (.istore_n 3, 1) := by decide +kernel
theorem dX6_send_93 : decode cX6_send 93 = .ok (.iinc 5 1, 3) := by decide +kernel
theorem dX6_send_96 : decode cX6_send 96 = .ok (.goto (-65), 3) := by decide +kernel
theorem dX6_send_99 : decode cX6_send 99 = .ok (.iload 4, 2) := by decide +kernel
theorem dX6_send_101 : decode cX6_send 101 = .ok (.ireturn, 1) := by decide +kernel
theorem dX6_change_0 : decode cX6_change 0 = .ok (.iload_n 1, 1) := by decide +kernel
theorem dX6_change_1 : decode cX6_change 1 = .ok (.iconst 1, 1) := by decide +kernel
theorem dX6_change_2 : decode cX6_change 2 = .ok (.bipush 30, 2) := by decide +kernel
theorem dX6_change_4 : decode cX6_change 4 = .ok (.invokestatic 137, 3) := by decide +kernel
theorem dX6_change_7 : decode cX6_change 7 = .ok (.istore_n 2, 1) := by decide +kernel
theorem dX6_change_8 : decode cX6_change 8 = .ok (.iload_n 2, 1) := by decide +kernel
theorem dX6_change_9 : decode cX6_change 9 = .ok (.ifCond .eq 9, 3) := by decide +kernel
theorem dX6_change_12 : decode cX6_change 12 = .ok (.aload_n 0, 1) := by decide +kernel
theorem dX6_change_13 : decode cX6_change 13 = .ok (.iload_n 2, 1) := by decide +kernel
theorem dX6_change_14 : decode cX6_change 14 = .ok (.invokevirtual 48, 3) := by decide +kernel
theorem dX6_change_17 : decode cX6_change 17 = .ok (.ireturn, 1) := by decide +kernel
theorem dX6_change_18 : decode cX6_change 18 = .ok (.aload_n 0, 1) := by decide +kernel
theorem dX6_change_19 : decode cX6_change 19 = .ok (.iload_n 1, 1) := by decide +kernel
theorem dX6_change_20 : decode cX6_change 20 = .ok (.invokevirtual 141, 3) := by decide +kernel
theorem dX6_change_23 : decode cX6_change 23 = .ok (.istore_n 3, 1) := by decide +kernel
theorem dX6_change_24 : decode cX6_change 24 = .ok (.bipush (-9), 2) := by decide +kernel
theorem dX6_change_26 : decode cX6_change 26 = .ok (.istore 4, 2) := by decide +kernel
theorem dX6_change_28 : decode cX6_change 28 = .ok (.iconst 0, 1) := by decide +kernel
theorem dX6_change_29 : decode cX6_change 29 = .ok (.istore 5, 2) := by decide +kernel
theorem dX6_change_31 : decode cX6_change 31 = .ok (.iload 5, 2) := by decide +kernel
theorem dX6_change_33 : decode cX6_change 33 = .ok (.aload_n 0, 1) := by decide +kernel
theorem dX6_change_34 : decode cX6_change 34 = .ok (.getfield 9, 3) := by decide +kernel
theorem dX6_change_37 : decode cX6_change 37 = .ok (.iconst 1, 1) := by decide +kernel
theorem dX6_change_38 : decode cX6_change 38 = .ok (.iaload, 1) := by decide +kernel
theorem dX6_change_39 : decode cX6_change 39 = .ok (.if_icmp .ge 120, 3) := by decide +kernel
theorem dX6_change_42 : decode cX6_change 42 = .ok (.iload 5, 2) := by decide +kernel
theorem dX6_change_44 : decode cX6_change 44 = .ok (.iconst 1, 1) := by decide +kernel
theorem dX6_change_45 : decode cX6_change 45 = .ok (.iadd, 1) := by decide +kernel
theorem dX6_change_46 : decode cX6_change 46 = .ok (.istore 6, 2) := by decide +kernel
theorem dX6_change_48 : decode cX6_change 48 = .ok (.iload 6, 2) := by decide +kernel
theorem dX6_change_50 : decode cX6_change 50 = .ok (.aload_n 0, 1) := by decide +kernel
theorem dX6_change_51 : decode cX6_change 51 = .ok (.getfield 9, 3) := by decide +kernel
theorem dX6_change_54 : decode cX6_change 54 = .ok (.iconst 1, 1) := by decide +kernel
theorem dX6_change_55 : decode cX6_change 55 = .ok (.iaload, 1) := by decide +kernel
theorem dX6_change_56 : decode cX6_change 56 = .ok (.if_icmp .ge 97, 3) := by decide +kernel
theorem dX6_change_59 : decode cX6_change 59 = .ok (.aload_n 0, 1) := by decide +kernel
theorem dX6_change_60 : decode cX6_change 60 = .ok (.getfield 9, 3) := by decide +kernel
theorem dX6_change_63 : decode cX6_change 63 = .ok (.aload_n 0, 1) := by decide +kernel
theorem dX6_change_64 : decode cX6_change 64 = .ok (.getfield 13, 3) := by decide +kernel
theorem dX6_change_67 : decode cX6_change 67 = .ok (.invokestatic 130, 3) := by decide +kernel
theorem dX6_change_70 : decode cX6_change 70 = .ok (.aload_n 0, 1) := by decide +kernel
theorem dX6_change_71 : decode cX6_change 71 = .ok (.getfield 13, 3) := by decide +kernel
theorem dX6_change_74 : decode cX6_change 74 = .ok (.iload 5, 2) := by decide +kernel
theorem dX6_change_76 : decode cX6_change 76 = .ok (.iconst 3, 1) := by decide +kernel
theorem dX6_change_77 : decode cX6_change 77 = .ok (.invokestatic 56, 3) := by decide +kernel
theorem dX6_change_80 : decode cX6_change 80 = .ok (.aload_n 0, 1) := by decide +kernel
theorem dX6_change_81 : decode cX6_change 81 = .ok (.getfield 9, 3) := by decide +kernel
theorem dX6_change_84 : decode cX6_change 84 = .ok (.iload 6, 2) := by decide +kernel
theorem dX6_change_86 : decode cX6_change 86 = .ok (.iconst 3, 1) := by decide +kernel
theorem dX6_change_87 : decode cX6_change 87 = .ok (.invokestatic 56, 3) := by decide +kernel
theorem dX6_change_90 : decode cX6_change 90 = .ok (.iaload, 1) := by decide +kernel
theorem dX6_change_91 : decode cX6_change 91 = .ok (.iastore, 1) := by decide +kernel
theorem dX6_change_92 : decode cX6_change 92 = .ok (.aload_n 0, 1) := by decide +kernel
theorem dX6_change_93 : decode cX6_change 93 = .ok (.getfield 13, 3) := by decide +kernel
theorem dX6_change_96 : decode cX6_change 96 = .ok (.iload 6, 2) := by decide +kernel
theorem dX6_change_98 : decode cX6_change 98 = .ok (.iconst 3, 1) := by decide +kernel
theorem dX6_change_99 : decode cX6_change 99 = .ok (.invokestatic 56, 3) := by decide +kernel
theorem dX6_change_102 : decode cX6_change 102 = .ok (.aload_n 0, 1) := by decide +kernel
theorem dX6_change_103 : decode cX6_change 103 = .ok (.getfield 9, 3) := by decide +kernel
theorem dX6_change_106 : decode cX6_change 106 = .ok (.iload 5, 2) := by decide +kernel
theorem dX6_change_108 : decode cX6_change 108 = .ok (.iconst 3, 1) := by decide +kernel
theorem dX6_change_109 : decode cX6_change 109 = .ok (.invokestatic 56, 3) := by decide +kernel
theorem dX6_change_112 : decode cX6_change 112 = .ok (.iaload, 1) := by decide +kernel
theorem dX6_change_113 : decode cX6_change 113 = .ok (.iastore, 1) := by decide +kernel
theorem dX6_change_114 : decode cX6_change 114 = .ok (.aload_n 0, 1) := by decide +kernel
theorem dX6_change_115 : decode cX6_change 115 = .ok (.aload_n 0, 1) := by decide +kernel
theorem dX6_change_116 : decode cX6_change 116 = .ok (.getfield 13, 3) := by decide +kernel
theorem dX6_change_119 : decode cX6_change 119 = .ok (.iload_n 1, 1) := by decide +kernel
theorem dX6_change_120 : decode cX6_change 120 = .ok (.invokevirtual 124, 3) := by decide +kernel
theorem dX6_change_123 : decode cX6_change 123 = .ok (.istore 7, 2) := by decide +kernel
theorem dX6_change_125 : decode cX6_change 125 = .ok (.iload 7, 2) := by decide +kernel
theorem dX6_change_127 : decode cX6_change 127 = .ok (.iload_n 3, 1) := by decide +kernel
theorem dX6_change_128 : decode cX6_change 128 = .ok (.if_icmp .gt 6, 3) := by decide +kernel
theorem dX6_change_131 : decode cX6_change 131 = .ok (.goto 16, 3) := by decide +kernel
theorem dX6_change_134 : decode cX6_change 134 = .ok (.bipush 10, 2) := by decide +kernel
theorem dX6_change_136 : decode cX6_change 136 = .ok (.iload 5, 2) := by decide +kernel
theorem dX6_change_138 : decode cX6_change 138 = .ok (.imul, 1) := by decide +kernel
theorem dX6_change_139 : decode cX6_change 139 = .ok (.iload 6, 2) := by decide +kernel
theorem dX6_change_141 : decode cX6_change 141 = .ok (.iadd, 1) := by decide +kernel
theorem dX6_change_142 : decode cX6_change 142 = .ok (.istore 4, 2) := by decide +kernel
theorem dX6_change_144 : decode cX6_change 144 = .ok (.iload 7, 2) := by decide +kernel
theorem dX6_change_146 : decode cX6_change 146 = .ok (.istore_n 3, 1) := by decide +kernel
theorem dX6_change_147 : decode cX6_change 147 = .ok (.iinc 6 1, 3) := by decide +kernel
theorem dX6_change_150 : decode cX6_change 150 = .ok (.goto (-102), 3) := by decide +kernel
theorem dX6_change_153 : decode cX6_change 153 = .ok (.iinc 5 1, 3) := by decide +kernel
theorem dX6_change_156 : decode cX6_change 156 = .ok (.goto (-125), 3) := by decide +kernel
theorem dX6_change_159 : decode cX6_change 159 = .ok (.iload 4, 2) := by decide +kernel
theorem dX6_change_161 : decode cX6_change 161 = .ok (.ireturn, 1) := by decide +kernel
theorem dX6_sets_0 : decode cX6_sets 0 = .ok (.iload_n 1, 1) := by decide +kernel
theorem dX6_sets_1 : decode cX6_sets 1 = .ok (.aload_n 0, 1) := by decide +kernel
theorem dX6_sets_2 : decode cX6_sets 2 = .ok (.getfield 9, 3) := by decide +kernel
theorem dX6_sets_5 : decode cX6_sets 5 = .ok (.iconst 1, 1) := by decide +kernel
theorem dX6_sets_6 : decode cX6_sets 6 = .ok (.iaload, 1) := by decide +kernel
theorem dX6_sets_7 : decode cX6_sets 7 = .ok (.if_icmp .ne 48, 3) := by decide +kernel
theorem dX6_sets_10 : decode cX6_sets 10 = .ok (.iload_n 3, 1) := by decide +kernel
theorem dX6_sets_11 : decode cX6_sets 11 = .ok (.aload_n 0, 1) := by decide +kernel
theorem dX6_sets_12 : decode cX6_sets 12 = .ok (.getfield 148, 3) := by decide +kernel
theorem dX6_sets_15 : decode cX6_sets 15 = .ok (.if_icmp .gt 4, 3) := by decide +kernel
theorem dX6_sets_18 : decode cX6_sets 18 = .ok (.return_, 1) := by decide +kernel
theorem dX6_sets_19 : decode cX6_sets 19 = .ok (.aload_n 0, 1) := by decide +kernel
theorem dX6_sets_20 : decode cX6_sets 20 = .ok (.iload_n 3, 1) := by decide +kernel
theorem dX6_sets_21 : decode cX6_sets 21 = .ok (.putfield 148, 3) := by decide +kernel
theorem dX6_sets_24 : decode cX6_sets 24 = .ok (.iconst 0, 1) := by decide +kernel
theorem dX6_sets_25 : decode cX6_sets 25 = .ok (.istore 4, 2) := by decide +kernel
theorem dX6_sets_27 : decode cX6_sets 27 = .ok (.iload 4, 2) := by decide +kernel
theorem dX6_sets_29 : decode cX6_sets 29 = .ok (.bipush 6, 2) := by decide +kernel
theorem dX6_sets_31 : decode cX6_sets 31 = .ok (.if_icmp .ge 23, 3) := by decide +kernel
theorem dX6_sets_34 : decode cX6_sets 34 = .ok (.aload_n 0, 1) := by decide +kernel
theorem dX6_sets_35 : decode cX6_sets 35 = .ok (.getfield 43, 3) := by decide +kernel
theorem dX6_sets_38 : decode cX6_sets 38 = .ok (.iload 4, 2) := by decide +kernel
theorem dX6_sets_40 : decode cX6_sets 40 = .ok (.aload_n 0, 1) := by decide +kernel
theorem dX6_sets_41 : decode cX6_sets 41 = .ok (.getfield 40, 3) := by decide +kernel
theorem dX6_sets_44 : decode cX6_sets 44 = .ok (.iload 4, 2) := by decide +kernel
theorem dX6_sets_46 : decode cX6_sets 46 = .ok (.iaload, 1) := by decide +kernel
theorem dX6_sets_47 : decode cX6_sets 47 = .ok (.iastore, 1) := by decide +kernel
theorem dX6_sets_48 : decode cX6_sets 48 = .ok (.iinc 4 1, 3) := by decide +kernel
theorem dX6_sets_51 : decode cX6_sets 51 = .ok (.goto (-24), 3) := by decide +kernel
theorem dX6_sets_54 : decode cX6_sets 54 = .ok (.return_, 1) := by decide +kernel
theorem dX6_sets_55 : decode cX6_sets 55 = .ok (.iconst 0, 1) := by decide +kernel
theorem dX6_sets_56 : decode cX6_sets 56 = .ok (.istore 4, 2) := by decide +kernel
theorem dX6_sets_58 : decode cX6_sets 58 = .ok (.iload 4, 2) := by decide +kernel
theorem dX6_sets_60 : decode cX6_sets 60 = .ok (.aload_n 0, 1) := by decide +kernel
theorem dX6_sets_61 : decode cX6_sets 61 = .ok (.getfield 9, 3) := by decide +kernel
theorem dX6_sets_64 : decode cX6_sets 64 = .ok (.iconst 0, 1) := by decide +kernel
theorem dX6_sets_65 : decode cX6_sets 65 = .ok (.iaload, 1) := by decide +kernel
theorem dX6_sets_66 : decode cX6_sets 66 = .ok (.if_icmp .ge 54, 3) := by decide +kernel
theorem dX6_sets_69 : decode cX6_sets 69 = .ok (.iload_n 2, 1) := by decide +kernel
theorem dX6_sets_70 : decode cX6_sets 70 = .ok (.iload 4, 2) := by decide +kernel
theorem dX6_sets_72 : decode cX6_sets 72 = .ok (.invokestatic 151, 3) := by decide +kernel
theorem dX6_sets_75 : decode cX6_sets 75 = .ok (.ifCond .eq 6, 3) := by decide +kernel
theorem dX6_sets_78 : decode cX6_sets 78 = .ok (.goto 36, 3) := by decide +kernel
theorem dX6_sets_81 : decode cX6_sets 81 = .ok (.aload_n 0, 1) := by decide +kernel
theorem dX6_sets_82 : decode cX6_sets 82 = .ok (.getfield 40, 3) := by decide +kernel
theorem dX6_sets_85 : decode cX6_sets 85 = .ok (.iload_n 1, 1) := by decide +kernel
theorem dX6_sets_86 : decode cX6_sets 86 = .ok (.iload 4, 2) := by decide +kernel
theorem dX6_sets_88 : decode cX6_sets 88 = .ok (.iastore, 1) := by decide +kernel
theorem dX6_sets_89 : decode cX6_sets 89 = .ok (.aload_n 0, 1) := by decide +kernel
theorem dX6_sets_90 : decode cX6_sets 90 = .ok (.iload_n 1, 1) := by decide +kernel
theorem dX6_sets_91 : decode cX6_sets 91 = .ok (.iconst 1, 1) := by decide +kernel
theorem dX6_sets_92 : decode cX6_sets 92 = .ok (.iadd, 1) := by decide +kernel
theorem dX6_sets_93 : decode cX6_sets 93 = .ok (.iload_n 2, 1) := by decide +kernel
theorem dX6_sets_94 : decode cX6_sets 94 = .ok (.iconst 1, 1) := by decide +kernel
theorem dX6_sets_95 : decode cX6_sets 95 = .ok (.iload 4, 2) := by decide +kernel
theorem dX6_sets_97 : decode cX6_sets 97 = .ok (.ishl, 1) := by decide +kernel
theorem dX6_sets_98 : decode cX6_sets 98 = .ok (.ior, 1) := by decide +kernel
theorem dX6_sets_99 : decode cX6_sets 99 = .ok (.iload_n 3, 1) := by decide +kernel
theorem dX6_sets_100 : decode cX6_sets 100 = .ok (.aload_n 0, 1) := by decide +kernel
theorem dX6_sets_101 : decode cX6_sets 101 = .ok (.getfield 9, 3) := by decide +kernel
theorem dX6_sets_104 : decode cX6_sets 104 = .ok (.iload_n 1, 1) := by decide +kernel
theorem dX6_sets_105 : decode cX6_sets 105 = .ok (.iload 4, 2) := by decide +kernel
theorem dX6_sets_107 : decode cX6_sets 107 = .ok (.invokestatic 70, 3) := by decide +kernel
theorem dX6_sets_110 : decode cX6_sets 110 = .ok (.iadd, 1) := by decide +kernel
theorem dX6_sets_111 : decode cX6_sets 111 = .ok (.invokevirtual 154, 3) := by decide +kernel
theorem dX6_sets_114 : decode cX6_sets 114 = .ok (.iinc 4 1, 3) := by decide +kernel
theorem dX6_sets_117 : decode cX6_sets 117 = .ok (.goto (-59), 3) := by decide +kernel
theorem dX6_sets_120 : decode cX6_sets 120 = .ok (.aload_n 0, 1) := by decide +kernel
theorem dX6_sets_121 : decode cX6_sets 121 = .ok (.getfield 40, 3) := by decide +kernel
theorem dX6_sets_124 : decode cX6_sets 124 = .ok (.iload_n 1, 1) := by decide +kernel
theorem dX6_sets_125 : decode cX6_sets 125 = .ok (.bipush (-9), 2) := by decide +kernel
theorem dX6_sets_127 : decode cX6_sets 127 = .ok (.iastore, 1) := by decide +kernel
theorem dX6_sets_128 : decode cX6_sets 128 = .ok (.aload_n 0, 1) := by decide +kernel
theorem dX6_sets_129 : decode cX6_sets 129 = .ok (.iload_n 1, 1) := by decide +kernel
theorem dX6_sets_130 : decode cX6_sets 130 = .ok (.iconst 1, 1) := by decide +kernel
theorem dX6_sets_131 : decode cX6_sets 131 = .ok (.iadd, 1) := by decide +kernel
theorem dX6_sets_132 : decode cX6_sets 132 = .ok (.iload_n 2, 1) := by decide +kernel
theorem dX6_sets_133 : decode cX6_sets 133 = .ok (.iload_n 3, 1) := by decide +kernel
theorem dX6_sets_134 : decode cX6_sets 134 = .ok (.invokevirtual 154, 3) := by decide +kernel
theorem dX6_sets_137 : decode cX6_sets 137 = .ok (.return_, 1) := by decide +kernel
theorem dX6_next_0 : decode cX6_next 0 = .ok (.iload_n 1, 1) := by decide +kernel
theorem dX6_next_1 : decode cX6_next 1 = .ok (.iconst (-1), 1) := by decide +kernel
theorem dX6_next_2 : decode cX6_next 2 = .ok (.if_icmp .eq 17, 3) := by decide +kernel
theorem dX6_next_5 : decode cX6_next 5 = .ok (.aload_n 0, 1) := by decide +kernel
theorem dX6_next_6 : decode cX6_next 6 = .ok (.iload_n 1, 1) := by decide +kernel
theorem dX6_next_7 : decode cX6_next 7 = .ok (.invokevirtual 113, 3) := by decide +kernel
theorem dX6_next_10 : decode cX6_next 10 = .ok (.ifCond .ne 9, 3) := by decide +kernel
theorem dX6_next_13 : decode cX6_next 13 = .ok (.aload_n 0, 1) := by decide +kernel
theorem dX6_next_14 : decode cX6_next 14 = .ok (.iconst (-1), 1) := by decide +kernel
theorem dX6_next_15 : decode cX6_next 15 = .ok (.invokevirtual 48, 3) := by decide +kernel
theorem dX6_next_18 : decode cX6_next 18 = .ok (.ireturn, 1) := by decide +kernel
theorem dX6_next_19 : decode cX6_next 19 = .ok (.aload_n 0, 1) := by decide +kernel
theorem dX6_next_20 : decode cX6_next 20 = .ok (.iconst (-1), 1) := by decide +kernel
theorem dX6_next_21 : decode cX6_next 21 = .ok (.putfield 148, 3) := by decide +kernel
theorem dX6_next_24 : decode cX6_next 24 = .ok (.aload_n 0, 1) := by decide +kernel
theorem dX6_next_25 : decode cX6_next 25 = .ok (.iconst 0, 1) := by decide +kernel
theorem dX6_next_26 : decode cX6_next 26 = .ok (.iconst 0, 1) := by decide +kernel
theorem dX6_next_27 : decode cX6_next 27 = .ok (.iconst 0, 1) := by decide +kernel
theorem dX6_next_28 : decode cX6_next 28 = .ok (.invokevirtual 154, 3) := by decide +kernel
theorem dX6_next_31 : decode cX6_next 31 = .ok (.iload_n 1, 1) := by decide +kernel
theorem dX6_next_32 : decode cX6_next 32 = .ok (.ifCond .ge 10, 3) := by decide +kernel
theorem dX6_next_35 : decode cX6_next 35 = .ok (.aload_n 0, 1) := by decide +kernel
theorem dX6_next_36 : decode cX6_next 36 = .ok (.getfield 148, 3) := by decide +kernel
theorem dX6_next_39 : decode cX6_next 39 = .ok (.goto 9, 3) := by decide +kernel
theorem dX6_next_42 : decode cX6_next 42 = .ok (.aload_n 0, 1) := by decide +kernel
theorem dX6_next_43 : decode cX6_next 43 = .ok (.getfield 43, 3) := by decide +kernel
theorem dX6_next_46 : decode cX6_next 46 = .ok (.iload_n 1, 1) := by decide +kernel
theorem dX6_next_47 : decode cX6_next 47 = .ok (.iaload, 1) := by decide +kernel
theorem dX6_next_48 : decode cX6_next 48 = .ok (.ireturn, 1) := by decide +kernel
theorem dX6_feed_0 : decode cX6_feed 0 = .ok (.aload_n 0, 1) := by decide +kernel
theorem dX6_feed_1 : decode cX6_feed 1 = .ok (.iload_n 1, 1) := by decide +kernel
theorem dX6_feed_2 : decode cX6_feed 2 = .ok (.invokevirtual 117, 3) := by decide +kernel
theorem dX6_feed_5 : decode cX6_feed 5 = .ok (.ifCond .ne 9, 3) := by decide +kernel
theorem dX6_feed_8 : decode cX6_feed 8 = .ok (.aload_n 0, 1) := by decide +kernel
theorem dX6_feed_9 : decode cX6_feed 9 = .ok (.iconst (-1), 1) := by decide +kernel
theorem dX6_feed_10 : decode cX6_feed 10 = .ok (.invokevirtual 48, 3) := by decide +kernel
theorem dX6_feed_13 : decode cX6_feed 13 = .ok (.ireturn, 1) := by decide +kernel
theorem dX6_feed_14 : decode cX6_feed 14 = .ok (.iload_n 2, 1) := by decide +kernel
theorem dX6_feed_15 : decode cX6_feed 15 = .ok (.iconst 0, 1) := by decide +kernel
theorem dX6_feed_16 : decode cX6_feed 16 = .ok (.iconst 1, 1) := by decide +kernel
theorem dX6_feed_17 : decode cX6_feed 17 = .ok (.invokestatic 52, 3) := by decide +kernel
theorem dX6_feed_20 : decode cX6_feed 20 = .ok (.ifCond .ne 10, 3) := by decide +kernel
theorem dX6_feed_23 : decode cX6_feed 23 = .ok (.aload_n 0, 1) := by decide +kernel
theorem dX6_feed_24 : decode cX6_feed 24 = .ok (.bipush (-2), 2) := by decide +kernel
theorem dX6_feed_26 : decode cX6_feed 26 = .ok (.invokevirtual 48, 3) := by decide +kernel
theorem dX6_feed_29 : decode cX6_feed 29 = .ok (.ireturn, 1) := by decide +kernel
theorem dX6_feed_30 : decode cX6_feed 30 = .ok (.iconst 0, 1) := by decide +kernel
theorem dX6_feed_31 : decode cX6_feed 31 = .ok (.istore_n 3, 1) := by decide +kernel
theorem dX6_feed_32 : decode cX6_feed 32 = .ok (.iconst (-1), 1) := by decide +kernel
theorem dX6_feed_33 : decode cX6_feed 33 = .ok (.istore 4, 2) := by decide +kernel
theorem dX6_feed_35 : decode cX6_feed 35 = .ok (.iconst 0, 1) := by decide +kernel
theorem dX6_feed_36 : decode cX6_feed 36 = .ok (.istore 5, 2) := by decide +kernel
theorem dX6_feed_38 : decode cX6_feed 38 = .ok (.iload 5, 2) := by decide +kernel
theorem dX6_feed_40 : decode cX6_feed 40 = .ok (.bipush 6, 2) := by decide +kernel
theorem dX6_feed_42 : decode cX6_feed 42 = .ok (.if_icmp .ge 61, 3) := by decide +kernel
theorem dX6_feed_45 : decode cX6_feed 45 = .ok (.aload_n 0, 1) := by decide +kernel
theorem dX6_feed_46 : decode cX6_feed 46 = .ok (.getfield 9, 3) := by decide +kernel
theorem dX6_feed_49 : decode cX6_feed 49 = .ok (.aload_n 0, 1) := by decide +kernel
theorem dX6_feed_50 : decode cX6_feed 50 = .ok (.getfield 13, 3) := by decide +kernel
theorem dX6_feed_53 : decode cX6_feed 53 = .ok (.invokestatic 130, 3) := by decide +kernel
theorem dX6_feed_56 : decode cX6_feed 56 = .ok (.aload_n 0, 1) := by decide +kernel
theorem dX6_feed_57 : decode cX6_feed 57 = .ok (.getfield 13, 3) := by decide +kernel
theorem dX6_feed_60 : decode cX6_feed 60 = .ok (.iload 5, 2) := by decide +kernel
theorem dX6_feed_62 : decode cX6_feed 62 = .ok (.bipush 9, 2) := by decide +kernel
theorem dX6_feed_64 : decode cX6_feed 64 = .ok (.iload_n 1, 1) := by decide +kernel
theorem dX6_feed_65 : decode cX6_feed 65 = .ok (.invokestatic 74, 3) := by decide +kernel
theorem dX6_feed_68 : decode cX6_feed 68 = .ok (.aload_n 0, 1) := by decide +kernel
theorem dX6_feed_69 : decode cX6_feed 69 = .ok (.getfield 13, 3) := by decide +kernel
theorem dX6_feed_72 : decode cX6_feed 72 = .ok (.iload_n 1, 1) := by decide +kernel
theorem dX6_feed_73 : decode cX6_feed 73 = .ok (.invokestatic 88, 3) := by decide +kernel
theorem dX6_feed_76 : decode cX6_feed 76 = .ok (.iload 4, 2) := by decide +kernel
theorem dX6_feed_78 : decode cX6_feed 78 = .ok (.if_icmp .gt 6, 3) := by decide +kernel
theorem dX6_feed_81 : decode cX6_feed 81 = .ok (.goto 16, 3) := by decide +kernel
theorem dX6_feed_84 : decode cX6_feed 84 = .ok (.iload 5, 2) := by decide +kernel
theorem dX6_feed_86 : decode cX6_feed 86 = .ok (.istore_n 3, 1) := by decide +kernel
theorem dX6_feed_87 : decode cX6_feed 87 = .ok (.aload_n 0, 1) := by decide +kernel
theorem dX6_feed_88 : decode cX6_feed 88 = .ok (.getfield 13, 3) := by decide +kernel
theorem dX6_feed_91 : decode cX6_feed 91 = .ok (.iload_n 1, 1) := by decide +kernel
theorem dX6_feed_92 : decode cX6_feed 92 = .ok (.invokestatic 88, 3) := by decide +kernel
theorem dX6_feed_95 : decode cX6_feed 95 = .ok (.istore 4, 2) := by decide +kernel
theorem dX6_feed_97 : decode cX6_feed 97 = .ok (.iinc 5 1, 3) := by decide +kernel
theorem dX6_feed_100 : decode cX6_feed 100 = .ok (.goto (-62), 3) := by decide +kernel
theorem dX6_feed_103 : decode cX6_feed 103 = .ok (.iload_n 2, 1) := by decide +kernel
theorem dX6_feed_104 : decode cX6_feed 104 = .ok (.ifCond .ne 7, 3) := by decide +kernel
theorem dX6_feed_107 : decode cX6_feed 107 = .ok (.iload_n 3, 1) := by decide +kernel
theorem dX6_feed_108 : decode cX6_feed 108 = .ok (.goto 5, 3) := by decide +kernel
theorem dX6_feed_111 : decode cX6_feed 111 = .ok (.iload 4, 2) := by decide +kernel
theorem dX6_feed_113 : decode cX6_feed 113 = .ok (.ireturn, 1) := by decide +kernel
theorem dX6_areAlike_0 : decode cX6_areAlike 0 = .ok (.iconst 5, 1) := by decide +kernel
theorem dX6_areAlike_1 : decode cX6_areAlike 1 = .ok (.istore_n 2, 1) := by decide +kernel
theorem dX6_areAlike_2 : decode cX6_areAlike 2 = .ok (.iload_n 2, 1) := by decide +kernel
theorem dX6_areAlike_3 : decode cX6_areAlike 3 = .ok (.bipush 23, 2) := by decide +kernel
theorem dX6_areAlike_5 : decode cX6_areAlike 5 = .ok (.if_icmp .ge 20, 3) := by decide +kernel
theorem dX6_areAlike_8 : decode cX6_areAlike 8 = .ok (.aload_n 0, 1) := by decide +kernel
theorem dX6_areAlike_9 : decode cX6_areAlike 9 = .ok (.iload_n 2, 1) := by decide +kernel
theorem dX6_areAlike_10 : decode cX6_areAlike 10 = .ok (.iaload, 1) := by decide +kernel
theorem dX6_areAlike_11 : decode cX6_areAlike 11 = .ok (.aload_n 1, 1) := by decide +kernel
theorem dX6_areAlike_12 : decode cX6_areAlike 12 = .ok (.iload_n 2, 1) := by decide +kernel
theorem dX6_areAlike_13 : decode cX6_areAlike 13 = .ok (.iaload, 1) := by decide +kernel
theorem dX6_areAlike_14 : decode cX6_areAlike 14 = .ok (.if_icmp .eq 5, 3) := by decide +kernel
theorem dX6_areAlike_17 : decode cX6_areAlike 17 = .ok (.iconst 0, 1) := by decide +kernel
theorem dX6_areAlike_18 : decode cX6_areAlike 18 = .ok (.ireturn, 1) := by decide +kernel
theorem dX6_areAlike_19 : decode cX6_areAlike 19 = .ok (.iinc 2 1, 3) := by decide +kernel
theorem dX6_areAlike_22 : decode cX6_areAlike 22 = .ok (.goto (-20), 3) := by decide +kernel
theorem dX6_areAlike_25 : decode cX6_areAlike 25 = .ok (.iconst 0, 1) := by decide +kernel
theorem dX6_areAlike_26 : decode cX6_areAlike 26 = .ok (.istore_n 2, 1) := by decide +kernel
theorem dX6_areAlike_27 : decode cX6_areAlike 27 = .ok (.iload_n 2, 1) := by decide +kernel
theorem dX6_areAlike_28 : decode cX6_areAlike 28 = .ok (.aload_n 0, 1) := by decide +kernel
theorem dX6_areAlike_29 : decode cX6_areAlike 29 = .ok (.iconst 1, 1) := by decide +kernel
theorem dX6_areAlike_30 : decode cX6_areAlike 30 = .ok (.iaload, 1) := by decide +kernel
theorem dX6_areAlike_31 : decode cX6_areAlike 31 = .ok (.if_icmp .ge 28, 3) := by decide +kernel
theorem dX6_areAlike_34 : decode cX6_areAlike 34 = .ok (.aload_n 0, 1) := by decide +kernel
theorem dX6_areAlike_35 : decode cX6_areAlike 35 = .ok (.iload_n 2, 1) := by decide +kernel
theorem dX6_areAlike_36 : decode cX6_areAlike 36 = .ok (.iconst 2, 1) := by decide +kernel
theorem dX6_areAlike_37 : decode cX6_areAlike 37 = .ok (.invokestatic 56, 3) := by decide +kernel
theorem dX6_areAlike_40 : decode cX6_areAlike 40 = .ok (.iaload, 1) := by decide +kernel
theorem dX6_areAlike_41 : decode cX6_areAlike 41 = .ok (.aload_n 1, 1) := by decide +kernel
theorem dX6_areAlike_42 : decode cX6_areAlike 42 = .ok (.iload_n 2, 1) := by decide +kernel
theorem dX6_areAlike_43 : decode cX6_areAlike 43 = .ok (.iconst 2, 1) := by decide +kernel
theorem dX6_areAlike_44 : decode cX6_areAlike 44 = .ok (.invokestatic 56, 3) := by decide +kernel
theorem dX6_areAlike_47 : decode cX6_areAlike 47 = .ok (.iaload, 1) := by decide +kernel
theorem dX6_areAlike_48 : decode cX6_areAlike 48 = .ok (.if_icmp .eq 5, 3) := by decide +kernel
theorem dX6_areAlike_51 : decode cX6_areAlike 51 = .ok (.iconst 0, 1) := by decide +kernel
theorem dX6_areAlike_52 : decode cX6_areAlike 52 = .ok (.ireturn, 1) := by decide +kernel
theorem dX6_areAlike_53 : decode cX6_areAlike 53 = .ok (.iinc 2 1, 3) := by decide +kernel
theorem dX6_areAlike_56 : decode cX6_areAlike 56 = .ok (.goto (-29), 3) := by decide +kernel
theorem dX6_areAlike_59 : decode cX6_areAlike 59 = .ok (.iconst 1, 1) := by decide +kernel
theorem dX6_areAlike_60 : decode cX6_areAlike 60 = .ok (.ireturn, 1) := by decide +kernel
theorem dX6_settles_0 : decode cX6_settles 0 = .ok (.aload_n 0, 1) := by decide +kernel
theorem dX6_settles_1 : decode cX6_settles 1 = .ok (.getfield 9, 3) := by decide +kernel
theorem dX6_settles_4 : decode cX6_settles 4 = .ok (.aload_n 0, 1) := by decide +kernel
theorem dX6_settles_5 : decode cX6_settles 5 = .ok (.getfield 13, 3) := by decide +kernel
theorem dX6_settles_8 : decode cX6_settles 8 = .ok (.invokestatic 130, 3) := by decide +kernel
theorem dX6_settles_11 : decode cX6_settles 11 = .ok (.iconst 0, 1) := by decide +kernel
theorem dX6_settles_12 : decode cX6_settles 12 = .ok (.istore_n 1, 1) := by decide +kernel
theorem dX6_settles_13 : decode cX6_settles 13 = .ok (.iload_n 1, 1) := by decide +kernel
theorem dX6_settles_14 : decode cX6_settles 14 = .ok (.bipush 60, 2) := by decide +kernel
theorem dX6_settles_16 : decode cX6_settles 16 = .ok (.if_icmp .gt 46, 3) := by decide +kernel
theorem dX6_settles_19 : decode cX6_settles 19 = .ok (.aload_n 0, 1) := by decide +kernel
theorem dX6_settles_20 : decode cX6_settles 20 = .ok (.getfield 13, 3) := by decide +kernel
theorem dX6_settles_23 : decode cX6_settles 23 = .ok (.aload_n 0, 1) := by decide +kernel
theorem dX6_settles_24 : decode cX6_settles 24 = .ok (.getfield 19, 3) := by decide +kernel
theorem dX6_settles_27 : decode cX6_settles 27 = .ok (.invokestatic 130, 3) := by decide +kernel
theorem dX6_settles_30 : decode cX6_settles 30 = .ok (.aload_n 0, 1) := by decide +kernel
theorem dX6_settles_31 : decode cX6_settles 31 = .ok (.aload_n 0, 1) := by decide +kernel
theorem dX6_settles_32 : decode cX6_settles 32 = .ok (.getfield 13, 3) := by decide +kernel
theorem dX6_settles_35 : decode cX6_settles 35 = .ok (.iconst 0, 1) := by decide +kernel
theorem dX6_settles_36 : decode cX6_settles 36 = .ok (.invokevirtual 84, 3) := by decide +kernel
theorem dX6_settles_39 : decode cX6_settles 39 = .ok (.istore_n 2, 1) := by decide +kernel
theorem dX6_settles_40 : decode cX6_settles 40 = .ok (.aload_n 0, 1) := by decide +kernel
theorem dX6_settles_41 : decode cX6_settles 41 = .ok (.getfield 13, 3) := by decide +kernel
theorem dX6_settles_44 : decode cX6_settles 44 = .ok (.aload_n 0, 1) := by decide +kernel
theorem dX6_settles_45 : decode cX6_settles 45 = .ok (.getfield 19, 3) := by decide +kernel
theorem dX6_settles_48 : decode cX6_settles 48 = .ok (.invokestatic 158, 3) := by decide +kernel
theorem dX6_settles_51 : decode cX6_settles 51 = .ok (.ifCond .eq 5, 3) := by decide +kernel
theorem dX6_settles_54 : decode cX6_settles 54 = .ok (.iload_n 1, 1) := by decide +kernel
theorem dX6_settles_55 : decode cX6_settles 55 = .ok (.ireturn, 1) := by decide +kernel
theorem dX6_settles_56 : decode cX6_settles 56 = .ok (.iinc 1 1, 3) := by decide +kernel
theorem dX6_settles_59 : decode cX6_settles 59 = .ok (.goto (-46), 3) := by decide +kernel
theorem dX6_settles_62 : decode cX6_settles 62 = .ok (.bipush (-9), 2) := by decide +kernel
theorem dX6_settles_64 : decode cX6_settles 64 = .ok (.ireturn, 1) := by decide +kernel
theorem dX6_areWhereTheyAre_0 : decode cX6_areWhereTheyAre 0 = .ok (.iconst 0, 1) := by decide +kernel
theorem dX6_areWhereTheyAre_1 : decode cX6_areWhereTheyAre 1 = .ok (.istore_n 1, 1) := by decide +kernel
theorem dX6_areWhereTheyAre_2 : decode cX6_areWhereTheyAre 2 = .ok (.iload_n 1, 1) := by decide +kernel
theorem dX6_areWhereTheyAre_3 : decode cX6_areWhereTheyAre 3 = .ok (.aload_n 0, 1) := by decide +kernel
theorem dX6_areWhereTheyAre_4 : decode cX6_areWhereTheyAre 4 = .ok (.getfield 9, 3) := by decide +kernel
theorem dX6_areWhereTheyAre_7 : decode cX6_areWhereTheyAre 7 = .ok (.iconst 1, 1) := by decide +kernel
theorem dX6_areWhereTheyAre_8 : decode cX6_areWhereTheyAre 8 = .ok (.iaload, 1) := by decide +kernel
theorem dX6_areWhereTheyAre_9 : decode cX6_areWhereTheyAre 9 = .ok (.if_icmp .ge 34, 3) := by decide +kernel
theorem dX6_areWhereTheyAre_12 : decode cX6_areWhereTheyAre 12 = .ok (.aload_n 0, 1) := by decide +kernel
theorem dX6_areWhereTheyAre_13 : decode cX6_areWhereTheyAre 13 = .ok (.getfield 13, 3) := by decide +kernel
theorem dX6_areWhereTheyAre_16 : decode cX6_areWhereTheyAre 16 = .ok (.iload_n 1, 1) := by decide +kernel
theorem dX6_areWhereTheyAre_17 : decode cX6_areWhereTheyAre 17 = .ok (.iconst 3, 1) := by decide +kernel
theorem dX6_areWhereTheyAre_18 : decode cX6_areWhereTheyAre 18 = .ok (.invokestatic 56, 3) := by decide +kernel
theorem dX6_areWhereTheyAre_21 : decode cX6_areWhereTheyAre 21 = .ok (.iaload, 1) := by decide +kernel
theorem dX6_areWhereTheyAre_22 : decode cX6_areWhereTheyAre 22 = .ok (.aload_n 0, 1) := by decide +kernel
theorem dX6_areWhereTheyAre_23 : decode cX6_areWhereTheyAre 23 = .ok (.getfield 9, 3) := by decide +kernel
theorem dX6_areWhereTheyAre_26 : decode cX6_areWhereTheyAre 26 = .ok (.iload_n 1, 1) := by decide +kernel
theorem dX6_areWhereTheyAre_27 : decode cX6_areWhereTheyAre 27 = .ok (.iconst 3, 1) := by decide +kernel
theorem dX6_areWhereTheyAre_28 : decode cX6_areWhereTheyAre 28 = .ok (.invokestatic 56, 3) := by decide +kernel
theorem dX6_areWhereTheyAre_31 : decode cX6_areWhereTheyAre 31 = .ok (.iaload, 1) := by decide +kernel
theorem dX6_areWhereTheyAre_32 : decode cX6_areWhereTheyAre 32 = .ok (.if_icmp .eq 5, 3) := by decide +kernel
theorem dX6_areWhereTheyAre_35 : decode cX6_areWhereTheyAre 35 = .ok (.iconst 0, 1) := by decide +kernel
theorem dX6_areWhereTheyAre_36 : decode cX6_areWhereTheyAre 36 = .ok (.ireturn, 1) := by decide +kernel
theorem dX6_areWhereTheyAre_37 : decode cX6_areWhereTheyAre 37 = .ok (.iinc 1 1, 3) := by decide +kernel
theorem dX6_areWhereTheyAre_40 : decode cX6_areWhereTheyAre 40 = .ok (.goto (-38), 3) := by decide +kernel
theorem dX6_areWhereTheyAre_43 : decode cX6_areWhereTheyAre 43 = .ok (.iconst 1, 1) := by decide +kernel
theorem dX6_areWhereTheyAre_44 : decode cX6_areWhereTheyAre 44 = .ok (.ireturn, 1) := by decide +kernel
theorem dX6_round_0 : decode cX6_round 0 = .ok (.aload_n 0, 1) := by decide +kernel
theorem dX6_round_1 : decode cX6_round 1 = .ok (.getfield 9, 3) := by decide +kernel
theorem dX6_round_4 : decode cX6_round 4 = .ok (.aload_n 0, 1) := by decide +kernel
theorem dX6_round_5 : decode cX6_round 5 = .ok (.getfield 13, 3) := by decide +kernel
theorem dX6_round_8 : decode cX6_round 8 = .ok (.invokestatic 130, 3) := by decide +kernel
theorem dX6_round_11 : decode cX6_round 11 = .ok (.iconst 1, 1) := by decide +kernel
theorem dX6_round_12 : decode cX6_round 12 = .ok (.istore_n 1, 1) := by decide +kernel
theorem dX6_round_13 : decode cX6_round 13 = .ok (.iload_n 1, 1) := by decide +kernel
theorem dX6_round_14 : decode cX6_round 14 = .ok (.bipush 60, 2) := by decide +kernel
theorem dX6_round_16 : decode cX6_round 16 = .ok (.if_icmp .gt 28, 3) := by decide +kernel
theorem dX6_round_19 : decode cX6_round 19 = .ok (.aload_n 0, 1) := by decide +kernel
theorem dX6_round_20 : decode cX6_round 20 = .ok (.aload_n 0, 1) := by decide +kernel
theorem dX6_round_21 : decode cX6_round 21 = .ok (.getfield 13, 3) := by decide +kernel
theorem dX6_round_24 : decode cX6_round 24 = .ok (.iconst 0, 1) := by decide +kernel
theorem dX6_round_25 : decode cX6_round 25 = .ok (.invokevirtual 84, 3) := by decide +kernel
theorem dX6_round_28 : decode cX6_round 28 = .ok (.istore_n 2, 1) := by decide +kernel
theorem dX6_round_29 : decode cX6_round 29 = .ok (.aload_n 0, 1) := by decide +kernel
theorem dX6_round_30 : decode cX6_round 30 = .ok (.invokevirtual 162, 3) := by decide +kernel
theorem dX6_round_33 : decode cX6_round 33 = .ok (.ifCond .eq 5, 3) := by decide +kernel
theorem dX6_round_36 : decode cX6_round 36 = .ok (.iload_n 1, 1) := by decide +kernel
theorem dX6_round_37 : decode cX6_round 37 = .ok (.ireturn, 1) := by decide +kernel
theorem dX6_round_38 : decode cX6_round 38 = .ok (.iinc 1 1, 3) := by decide +kernel
theorem dX6_round_41 : decode cX6_round 41 = .ok (.goto (-28), 3) := by decide +kernel
theorem dX6_round_44 : decode cX6_round 44 = .ok (.bipush (-9), 2) := by decide +kernel
theorem dX6_round_46 : decode cX6_round 46 = .ok (.ireturn, 1) := by decide +kernel
theorem dX6_free_0 : decode cX6_free 0 = .ok (.iload_n 1, 1) := by decide +kernel
theorem dX6_free_1 : decode cX6_free 1 = .ok (.iconst 0, 1) := by decide +kernel
theorem dX6_free_2 : decode cX6_free 2 = .ok (.iconst 2, 1) := by decide +kernel
theorem dX6_free_3 : decode cX6_free 3 = .ok (.invokestatic 52, 3) := by decide +kernel
theorem dX6_free_6 : decode cX6_free 6 = .ok (.ifCond .ne 10, 3) := by decide +kernel
theorem dX6_free_9 : decode cX6_free 9 = .ok (.aload_n 0, 1) := by decide +kernel
theorem dX6_free_10 : decode cX6_free 10 = .ok (.bipush (-2), 2) := by decide +kernel
theorem dX6_free_12 : decode cX6_free 12 = .ok (.invokevirtual 48, 3) := by decide +kernel
theorem dX6_free_15 : decode cX6_free 15 = .ok (.ireturn, 1) := by decide +kernel
theorem dX6_free_16 : decode cX6_free 16 = .ok (.iconst 0, 1) := by decide +kernel
theorem dX6_free_17 : decode cX6_free 17 = .ok (.istore_n 2, 1) := by decide +kernel
theorem dX6_free_18 : decode cX6_free 18 = .ok (.iconst 0, 1) := by decide +kernel
theorem dX6_free_19 : decode cX6_free 19 = .ok (.istore_n 3, 1) := by decide +kernel
theorem dX6_free_20 : decode cX6_free 20 = .ok (.iload_n 3, 1) := by decide +kernel
theorem dX6_free_21 : decode cX6_free 21 = .ok (.aload_n 0, 1) := by decide +kernel
theorem dX6_free_22 : decode cX6_free 22 = .ok (.getfield 9, 3) := by decide +kernel
theorem dX6_free_25 : decode cX6_free 25 = .ok (.iconst 0, 1) := by decide +kernel
theorem dX6_free_26 : decode cX6_free 26 = .ok (.iaload, 1) := by decide +kernel
theorem dX6_free_27 : decode cX6_free 27 = .ok (.if_icmp .ge 34, 3) := by decide +kernel
theorem dX6_free_30 : decode cX6_free 30 = .ok (.iload_n 1, 1) := by decide +kernel
theorem dX6_free_31 : decode cX6_free 31 = .ok (.ifCond .ne 30, 3) := by decide +kernel
theorem dX6_free_34 : decode cX6_free 34 = .ok (.iload_n 2, 1) := by decide +kernel
theorem dX6_free_35 : decode cX6_free 35 = .ok (.aload_n 0, 1) := by decide +kernel
theorem dX6_free_36 : decode cX6_free 36 = .ok (.getfield 9, 3) := by decide +kernel
theorem dX6_free_39 : decode cX6_free 39 = .ok (.iload_n 3, 1) := by decide +kernel
theorem dX6_free_40 : decode cX6_free 40 = .ok (.invokestatic 80, 3) := by decide +kernel
theorem dX6_free_43 : decode cX6_free 43 = .ok (.ifCond .ge 9, 3) := by decide +kernel
theorem dX6_free_46 : decode cX6_free 46 = .ok (.iconst 1, 1) := by decide +kernel
theorem dX6_free_47 : decode cX6_free 47 = .ok (.iload_n 3, 1) := by decide +kernel
theorem dX6_free_48 : decode cX6_free 48 = .ok (.ishl, 1) := by decide +kernel
theorem dX6_free_49 : decode cX6_free 49 = .ok (.goto 4, 3) := by decide +kernel
theorem dX6_free_52 : decode cX6_free 52 = .ok (.iconst 0, 1) := by decide +kernel
theorem dX6_free_53 : decode cX6_free 53 = .ok (.ior, 1) := by decide +kernel
theorem dX6_free_54 : decode cX6_free 54 = .ok (.istore_n 2, 1) := by decide +kernel
theorem dX6_free_55 : decode cX6_free 55 = .ok (.iinc 3 1, 3) := by decide +kernel
theorem dX6_free_58 : decode cX6_free 58 = .ok (.goto (-38), 3) := by decide +kernel
theorem dX6_free_61 : decode cX6_free 61 = .ok (.iconst 0, 1) := by decide +kernel
theorem dX6_free_62 : decode cX6_free 62 = .ok (.istore_n 3, 1) := by decide +kernel
theorem dX6_free_63 : decode cX6_free 63 = .ok (.iload_n 3, 1) := by decide +kernel
theorem dX6_free_64 : decode cX6_free 64 = .ok (.aload_n 0, 1) := by decide +kernel
theorem dX6_free_65 : decode cX6_free 65 = .ok (.getfield 9, 3) := by decide +kernel
theorem dX6_free_68 : decode cX6_free 68 = .ok (.iconst 1, 1) := by decide +kernel
theorem dX6_free_69 : decode cX6_free 69 = .ok (.iaload, 1) := by decide +kernel
theorem dX6_free_70 : decode cX6_free 70 = .ok (.if_icmp .ge 59, 3) := by decide +kernel
theorem dX6_free_73 : decode cX6_free 73 = .ok (.iload_n 1, 1) := by decide +kernel
theorem dX6_free_74 : decode cX6_free 74 = .ok (.ifCond .le 55, 3) := by decide +kernel
theorem dX6_free_77 : decode cX6_free 77 = .ok (.iload_n 2, 1) := by decide +kernel
theorem dX6_free_78 : decode cX6_free 78 = .ok (.iload_n 1, 1) := by decide +kernel
theorem dX6_free_79 : decode cX6_free 79 = .ok (.iconst 1, 1) := by decide +kernel
theorem dX6_free_80 : decode cX6_free 80 = .ok (.if_icmp .ne 19, 3) := by decide +kernel
theorem dX6_free_83 : decode cX6_free 83 = .ok (.aload_n 0, 1) := by decide +kernel
theorem dX6_free_84 : decode cX6_free 84 = .ok (.getfield 9, 3) := by decide +kernel
theorem dX6_free_87 : decode cX6_free 87 = .ok (.iload_n 3, 1) := by decide +kernel
theorem dX6_free_88 : decode cX6_free 88 = .ok (.iconst 3, 1) := by decide +kernel
theorem dX6_free_89 : decode cX6_free 89 = .ok (.invokestatic 56, 3) := by decide +kernel
theorem dX6_free_92 : decode cX6_free 92 = .ok (.iaload, 1) := by decide +kernel
theorem dX6_free_93 : decode cX6_free 93 = .ok (.ifCond .ge 27, 3) := by decide +kernel
theorem dX6_free_96 : decode cX6_free 96 = .ok (.goto 18, 3) := by decide +kernel
theorem dX6_free_99 : decode cX6_free 99 = .ok (.aload_n 0, 1) := by decide +kernel
theorem dX6_free_100 : decode cX6_free 100 = .ok (.getfield 9, 3) := by decide +kernel
theorem dX6_free_103 : decode cX6_free 103 = .ok (.iload_n 3, 1) := by decide +kernel
theorem dX6_free_104 : decode cX6_free 104 = .ok (.iconst 2, 1) := by decide +kernel
theorem dX6_free_105 : decode cX6_free 105 = .ok (.invokestatic 56, 3) := by decide +kernel
theorem dX6_free_108 : decode cX6_free 108 = .ok (.iaload, 1) := by decide +kernel
theorem dX6_free_109 : decode cX6_free 109 = .ok (.bipush 10, 2) := by decide +kernel
theorem dX6_free_111 : decode cX6_free 111 = .ok (.if_icmp .lt 9, 3) := by decide +kernel
theorem dX6_free_114 : decode cX6_free 114 = .ok (.iconst 1, 1) := by decide +kernel
theorem dX6_free_115 : decode cX6_free 115 = .ok (.iload_n 3, 1) := by decide +kernel
theorem dX6_free_116 : decode cX6_free 116 = .ok (.ishl, 1) := by decide +kernel
theorem dX6_free_117 : decode cX6_free 117 = .ok (.goto 4, 3) := by decide +kernel
theorem dX6_free_120 : decode cX6_free 120 = .ok (.iconst 0, 1) := by decide +kernel
theorem dX6_free_121 : decode cX6_free 121 = .ok (.ior, 1) := by decide +kernel
theorem dX6_free_122 : decode cX6_free 122 = .ok (.istore_n 2, 1) := by decide +kernel
theorem dX6_free_123 : decode cX6_free 123 = .ok (.iinc 3 1, 3) := by decide +kernel
theorem dX6_free_126 : decode cX6_free 126 = .ok (.goto (-63), 3) := by decide +kernel
theorem dX6_free_129 : decode cX6_free 129 = .ok (.iload_n 2, 1) := by decide +kernel
theorem dX6_free_130 : decode cX6_free 130 = .ok (.ireturn, 1) := by decide +kernel
theorem dX6_even_0 : decode cX6_even 0 = .ok (.ldc 165, 2) := by decide +kernel
theorem dX6_even_2 : decode cX6_even 2 = .ok (.istore_n 1, 1) := by decide +kernel
theorem dX6_even_3 : decode cX6_even 3 = .ok (.iconst 0, 1) := by decide +kernel
theorem dX6_even_4 : decode cX6_even 4 = .ok (.istore_n 2, 1) := by decide +kernel
theorem dX6_even_5 : decode cX6_even 5 = .ok (.iconst 0, 1) := by decide +kernel
theorem dX6_even_6 : decode cX6_even 6 = .ok (.istore_n 3, 1) := by decide +kernel
theorem dX6_even_7 : decode cX6_even 7 = .ok (.iload_n 3, 1) := by decide +kernel
theorem dX6_even_8 : decode cX6_even 8 = .ok (.aload_n 0, 1) := by decide +kernel
theorem dX6_even_9 : decode cX6_even 9 = .ok (.getfield 9, 3) := by decide +kernel
theorem dX6_even_12 : decode cX6_even 12 = .ok (.iconst 0, 1) := by decide +kernel
theorem dX6_even_13 : decode cX6_even 13 = .ok (.iaload, 1) := by decide +kernel
theorem dX6_even_14 : decode cX6_even 14 = .ok (.if_icmp .ge 59, 3) := by decide +kernel
theorem dX6_even_17 : decode cX6_even 17 = .ok (.aload_n 0, 1) := by decide +kernel
theorem dX6_even_18 : decode cX6_even 18 = .ok (.getfield 9, 3) := by decide +kernel
theorem dX6_even_21 : decode cX6_even 21 = .ok (.iload_n 3, 1) := by decide +kernel
theorem dX6_even_22 : decode cX6_even 22 = .ok (.invokestatic 88, 3) := by decide +kernel
theorem dX6_even_25 : decode cX6_even 25 = .ok (.iload_n 1, 1) := by decide +kernel
theorem dX6_even_26 : decode cX6_even 26 = .ok (.if_icmp .ge 14, 3) := by decide +kernel
theorem dX6_even_29 : decode cX6_even 29 = .ok (.aload_n 0, 1) := by decide +kernel
theorem dX6_even_30 : decode cX6_even 30 = .ok (.getfield 9, 3) := by decide +kernel
theorem dX6_even_33 : decode cX6_even 33 = .ok (.iload_n 3, 1) := by decide +kernel
theorem dX6_even_34 : decode cX6_even 34 = .ok (.invokestatic 88, 3) := by decide +kernel
theorem dX6_even_37 : decode cX6_even 37 = .ok (.goto 4, 3) := by decide +kernel
theorem dX6_even_40 : decode cX6_even 40 = .ok (.iload_n 1, 1) := by decide +kernel
theorem dX6_even_41 : decode cX6_even 41 = .ok (.istore_n 1, 1) := by decide +kernel
theorem dX6_even_42 : decode cX6_even 42 = .ok (.aload_n 0, 1) := by decide +kernel
theorem dX6_even_43 : decode cX6_even 43 = .ok (.getfield 9, 3) := by decide +kernel
theorem dX6_even_46 : decode cX6_even 46 = .ok (.iload_n 3, 1) := by decide +kernel
theorem dX6_even_47 : decode cX6_even 47 = .ok (.invokestatic 88, 3) := by decide +kernel
theorem dX6_even_50 : decode cX6_even 50 = .ok (.iload_n 2, 1) := by decide +kernel
theorem dX6_even_51 : decode cX6_even 51 = .ok (.if_icmp .le 14, 3) := by decide +kernel
theorem dX6_even_54 : decode cX6_even 54 = .ok (.aload_n 0, 1) := by decide +kernel
theorem dX6_even_55 : decode cX6_even 55 = .ok (.getfield 9, 3) := by decide +kernel
theorem dX6_even_58 : decode cX6_even 58 = .ok (.iload_n 3, 1) := by decide +kernel
theorem dX6_even_59 : decode cX6_even 59 = .ok (.invokestatic 88, 3) := by decide +kernel
theorem dX6_even_62 : decode cX6_even 62 = .ok (.goto 4, 3) := by decide +kernel
theorem dX6_even_65 : decode cX6_even 65 = .ok (.iload_n 2, 1) := by decide +kernel
theorem dX6_even_66 : decode cX6_even 66 = .ok (.istore_n 2, 1) := by decide +kernel
theorem dX6_even_67 : decode cX6_even 67 = .ok (.iinc 3 1, 3) := by decide +kernel
theorem dX6_even_70 : decode cX6_even 70 = .ok (.goto (-63), 3) := by decide +kernel
theorem dX6_even_73 : decode cX6_even 73 = .ok (.aload_n 0, 1) := by decide +kernel
theorem dX6_even_74 : decode cX6_even 74 = .ok (.getfield 9, 3) := by decide +kernel
theorem dX6_even_77 : decode cX6_even 77 = .ok (.iconst 0, 1) := by decide +kernel
theorem dX6_even_78 : decode cX6_even 78 = .ok (.iaload, 1) := by decide +kernel
theorem dX6_even_79 : decode cX6_even 79 = .ok (.ifCond .ne 7, 3) := by decide +kernel
theorem dX6_even_82 : decode cX6_even 82 = .ok (.iconst 0, 1) := by decide +kernel
theorem dX6_even_83 : decode cX6_even 83 = .ok (.goto 6, 3) := by decide +kernel
theorem dX6_even_86 : decode cX6_even 86 = .ok (.iload_n 2, 1) := by decide +kernel
theorem dX6_even_87 : decode cX6_even 87 = .ok (.iload_n 1, 1) := by decide +kernel
theorem dX6_even_88 : decode cX6_even 88 = .ok (.isub, 1) := by decide +kernel
theorem dX6_even_89 : decode cX6_even 89 = .ok (.ireturn, 1) := by decide +kernel
theorem dX6_ownBy_0 : decode cX6_ownBy 0 = .ok (.aload_n 0, 1) := by decide +kernel
theorem dX6_ownBy_1 : decode cX6_ownBy 1 = .ok (.getfield 9, 3) := by decide +kernel
theorem dX6_ownBy_4 : decode cX6_ownBy 4 = .ok (.aload_n 0, 1) := by decide +kernel
theorem dX6_ownBy_5 : decode cX6_ownBy 5 = .ok (.getfield 13, 3) := by decide +kernel
theorem dX6_ownBy_8 : decode cX6_ownBy 8 = .ok (.invokestatic 130, 3) := by decide +kernel
theorem dX6_ownBy_11 : decode cX6_ownBy 11 = .ok (.iload_n 3, 1) := by decide +kernel
theorem dX6_ownBy_12 : decode cX6_ownBy 12 = .ok (.iconst 1, 1) := by decide +kernel
theorem dX6_ownBy_13 : decode cX6_ownBy 13 = .ok (.if_icmp .ne 15, 3) := by decide +kernel
theorem dX6_ownBy_16 : decode cX6_ownBy 16 = .ok (.aload_n 0, 1) := by decide +kernel
theorem dX6_ownBy_17 : decode cX6_ownBy 17 = .ok (.getfield 13, 3) := by decide +kernel
theorem dX6_ownBy_20 : decode cX6_ownBy 20 = .ok (.iload_n 2, 1) := by decide +kernel
theorem dX6_ownBy_21 : decode cX6_ownBy 21 = .ok (.iconst 3, 1) := by decide +kernel
theorem dX6_ownBy_22 : decode cX6_ownBy 22 = .ok (.invokestatic 56, 3) := by decide +kernel
theorem dX6_ownBy_25 : decode cX6_ownBy 25 = .ok (.bipush (-9), 2) := by decide +kernel
theorem dX6_ownBy_27 : decode cX6_ownBy 27 = .ok (.iastore, 1) := by decide +kernel
theorem dX6_ownBy_28 : decode cX6_ownBy 28 = .ok (.iload 5, 2) := by decide +kernel
theorem dX6_ownBy_30 : decode cX6_ownBy 30 = .ok (.iconst 1, 1) := by decide +kernel
theorem dX6_ownBy_31 : decode cX6_ownBy 31 = .ok (.if_icmp .ne 16, 3) := by decide +kernel
theorem dX6_ownBy_34 : decode cX6_ownBy 34 = .ok (.aload_n 0, 1) := by decide +kernel
theorem dX6_ownBy_35 : decode cX6_ownBy 35 = .ok (.getfield 13, 3) := by decide +kernel
theorem dX6_ownBy_38 : decode cX6_ownBy 38 = .ok (.iload 4, 2) := by decide +kernel
theorem dX6_ownBy_40 : decode cX6_ownBy 40 = .ok (.iconst 3, 1) := by decide +kernel
theorem dX6_ownBy_41 : decode cX6_ownBy 41 = .ok (.invokestatic 56, 3) := by decide +kernel
theorem dX6_ownBy_44 : decode cX6_ownBy 44 = .ok (.bipush (-9), 2) := by decide +kernel
theorem dX6_ownBy_46 : decode cX6_ownBy 46 = .ok (.iastore, 1) := by decide +kernel
theorem dX6_ownBy_47 : decode cX6_ownBy 47 = .ok (.aload_n 0, 1) := by decide +kernel
theorem dX6_ownBy_48 : decode cX6_ownBy 48 = .ok (.aload_n 0, 1) := by decide +kernel
theorem dX6_ownBy_49 : decode cX6_ownBy 49 = .ok (.getfield 13, 3) := by decide +kernel
theorem dX6_ownBy_52 : decode cX6_ownBy 52 = .ok (.iload 6, 2) := by decide +kernel
theorem dX6_ownBy_54 : decode cX6_ownBy 54 = .ok (.invokevirtual 124, 3) := by decide +kernel
theorem dX6_ownBy_57 : decode cX6_ownBy 57 = .ok (.istore 7, 2) := by decide +kernel
theorem dX6_ownBy_59 : decode cX6_ownBy 59 = .ok (.aload_n 0, 1) := by decide +kernel
theorem dX6_ownBy_60 : decode cX6_ownBy 60 = .ok (.getfield 25, 3) := by decide +kernel
theorem dX6_ownBy_63 : decode cX6_ownBy 63 = .ok (.iload_n 1, 1) := by decide +kernel
theorem dX6_ownBy_64 : decode cX6_ownBy 64 = .ok (.iaload, 1) := by decide +kernel
theorem dX6_ownBy_65 : decode cX6_ownBy 65 = .ok (.aload_n 0, 1) := by decide +kernel
theorem dX6_ownBy_66 : decode cX6_ownBy 66 = .ok (.getfield 13, 3) := by decide +kernel
theorem dX6_ownBy_69 : decode cX6_ownBy 69 = .ok (.iload_n 1, 1) := by decide +kernel
theorem dX6_ownBy_70 : decode cX6_ownBy 70 = .ok (.iconst 2, 1) := by decide +kernel
theorem dX6_ownBy_71 : decode cX6_ownBy 71 = .ok (.invokestatic 56, 3) := by decide +kernel
theorem dX6_ownBy_74 : decode cX6_ownBy 74 = .ok (.iaload, 1) := by decide +kernel
theorem dX6_ownBy_75 : decode cX6_ownBy 75 = .ok (.isub, 1) := by decide +kernel
theorem dX6_ownBy_76 : decode cX6_ownBy 76 = .ok (.ireturn, 1) := by decide +kernel
theorem dX6_two_0 : decode cX6_two 0 = .ok (.aload_n 0, 1) := by decide +kernel
theorem dX6_two_1 : decode cX6_two 1 = .ok (.iload_n 1, 1) := by decide +kernel
theorem dX6_two_2 : decode cX6_two 2 = .ok (.invokevirtual 113, 3) := by decide +kernel
theorem dX6_two_5 : decode cX6_two 5 = .ok (.ifCond .eq 26, 3) := by decide +kernel
theorem dX6_two_8 : decode cX6_two 8 = .ok (.aload_n 0, 1) := by decide +kernel
theorem dX6_two_9 : decode cX6_two 9 = .ok (.iload_n 2, 1) := by decide +kernel
theorem dX6_two_10 : decode cX6_two 10 = .ok (.invokevirtual 113, 3) := by decide +kernel
theorem dX6_two_13 : decode cX6_two 13 = .ok (.ifCond .eq 18, 3) := by decide +kernel
theorem dX6_two_16 : decode cX6_two 16 = .ok (.iload_n 1, 1) := by decide +kernel
theorem dX6_two_17 : decode cX6_two 17 = .ok (.iload_n 2, 1) := by decide +kernel
theorem dX6_two_18 : decode cX6_two 18 = .ok (.if_icmp .eq 13, 3) := by decide +kernel
theorem dX6_two_21 : decode cX6_two 21 = .ok (.iload_n 3, 1) := by decide +kernel
theorem dX6_two_22 : decode cX6_two 22 = .ok (.iconst 1, 1) := by decide +kernel
theorem dX6_two_23 : decode cX6_two 23 = .ok (.bipush 30, 2) := by decide +kernel
theorem dX6_two_25 : decode cX6_two 25 = .ok (.invokestatic 137, 3) := by decide +kernel
theorem dX6_two_28 : decode cX6_two 28 = .ok (.goto 4, 3) := by decide +kernel
theorem dX6_two_31 : decode cX6_two 31 = .ok (.iconst (-1), 1) := by decide +kernel
theorem dX6_two_32 : decode cX6_two 32 = .ok (.istore 4, 2) := by decide +kernel
theorem dX6_two_34 : decode cX6_two 34 = .ok (.iload 4, 2) := by decide +kernel
theorem dX6_two_36 : decode cX6_two 36 = .ok (.ifCond .eq 10, 3) := by decide +kernel
theorem dX6_two_39 : decode cX6_two 39 = .ok (.aload_n 0, 1) := by decide +kernel
theorem dX6_two_40 : decode cX6_two 40 = .ok (.iload 4, 2) := by decide +kernel
theorem dX6_two_42 : decode cX6_two 42 = .ok (.invokevirtual 48, 3) := by decide +kernel
theorem dX6_two_45 : decode cX6_two 45 = .ok (.ireturn, 1) := by decide +kernel
theorem dX6_two_46 : decode cX6_two 46 = .ok (.iconst 0, 1) := by decide +kernel
theorem dX6_two_47 : decode cX6_two 47 = .ok (.istore 5, 2) := by decide +kernel
theorem dX6_two_49 : decode cX6_two 49 = .ok (.iload 5, 2) := by decide +kernel
theorem dX6_two_51 : decode cX6_two 51 = .ok (.iconst 4, 1) := by decide +kernel
theorem dX6_two_52 : decode cX6_two 52 = .ok (.if_icmp .ge 88, 3) := by decide +kernel
theorem dX6_two_55 : decode cX6_two 55 = .ok (.iload 5, 2) := by decide +kernel
theorem dX6_two_57 : decode cX6_two 57 = .ok (.iconst 2, 1) := by decide +kernel
theorem dX6_two_58 : decode cX6_two 58 = .ok (.idiv, 1) := by decide +kernel
theorem dX6_two_59 : decode cX6_two 59 = .ok (.istore 6, 2) := by decide +kernel
theorem dX6_two_61 : decode cX6_two 61 = .ok (.iload 5, 2) := by decide +kernel
theorem dX6_two_63 : decode cX6_two 63 = .ok (.iconst 2, 1) := by decide +kernel
theorem dX6_two_64 : decode cX6_two 64 = .ok (.irem, 1) := by decide +kernel
theorem dX6_two_65 : decode cX6_two 65 = .ok (.istore 7, 2) := by decide +kernel
theorem dX6_two_67 : decode cX6_two 67 = .ok (.aload_n 0, 1) := by decide +kernel
theorem dX6_two_68 : decode cX6_two 68 = .ok (.iload_n 1, 1) := by decide +kernel
theorem dX6_two_69 : decode cX6_two 69 = .ok (.iload_n 1, 1) := by decide +kernel
theorem dX6_two_70 : decode cX6_two 70 = .ok (.iconst 1, 1) := by decide +kernel
theorem dX6_two_71 : decode cX6_two 71 = .ok (.iload 6, 2) := by decide +kernel
theorem dX6_two_73 : decode cX6_two 73 = .ok (.isub, 1) := by decide +kernel
theorem dX6_two_74 : decode cX6_two 74 = .ok (.iload_n 2, 1) := by decide +kernel
theorem dX6_two_75 : decode cX6_two 75 = .ok (.iload 7, 2) := by decide +kernel
theorem dX6_two_77 : decode cX6_two 77 = .ok (.iload_n 3, 1) := by decide +kernel
theorem dX6_two_78 : decode cX6_two 78 = .ok (.invokevirtual 166, 3) := by decide +kernel
theorem dX6_two_81 : decode cX6_two 81 = .ok (.aload_n 0, 1) := by decide +kernel
theorem dX6_two_82 : decode cX6_two 82 = .ok (.iload_n 1, 1) := by decide +kernel
theorem dX6_two_83 : decode cX6_two 83 = .ok (.iload_n 1, 1) := by decide +kernel
theorem dX6_two_84 : decode cX6_two 84 = .ok (.iload 6, 2) := by decide +kernel
theorem dX6_two_86 : decode cX6_two 86 = .ok (.iload_n 2, 1) := by decide +kernel
theorem dX6_two_87 : decode cX6_two 87 = .ok (.iload 7, 2) := by decide +kernel
theorem dX6_two_89 : decode cX6_two 89 = .ok (.iload_n 3, 1) := by decide +kernel
theorem dX6_two_90 : decode cX6_two 90 = .ok (.invokevirtual 166, 3) := by decide +kernel
theorem dX6_two_93 : decode cX6_two 93 = .ok (.if_icmp .gt 41, 3) := by decide +kernel
theorem dX6_two_96 : decode cX6_two 96 = .ok (.aload_n 0, 1) := by decide +kernel
theorem dX6_two_97 : decode cX6_two 97 = .ok (.iload_n 2, 1) := by decide +kernel
theorem dX6_two_98 : decode cX6_two 98 = .ok (.iload_n 1, 1) := by decide +kernel
theorem dX6_two_99 : decode cX6_two 99 = .ok (.iload 6, 2) := by decide +kernel
theorem dX6_two_101 : decode cX6_two 101 = .ok (.iload_n 2, 1) := by decide +kernel
theorem dX6_two_102 : decode cX6_two 102 = .ok (.iconst 1, 1) := by decide +kernel
theorem dX6_two_103 : decode cX6_two 103 = .ok (.iload 7, 2) := by decide +kernel
theorem dX6_two_105 : decode cX6_two 105 = .ok (.isub, 1) := by decide +kernel
theorem dX6_two_106 : decode cX6_two 106 = .ok (.iload_n 3, 1) := by decide +kernel
theorem dX6_two_107 : decode cX6_two 107 = .ok (.invokevirtual 166, 3) := by decide +kernel
theorem dX6_two_110 : decode cX6_two 110 = .ok (.aload_n 0, 1) := by decide +kernel
theorem dX6_two_111 : decode cX6_two 111 = .ok (.iload_n 2, 1) := by decide +kernel
theorem dX6_two_112 : decode cX6_two 112 = .ok (.iload_n 1, 1) := by decide +kernel
theorem dX6_two_113 : decode cX6_two 113 = .ok (.iload 6, 2) := by decide +kernel
theorem dX6_two_115 : decode cX6_two 115 = .ok (.iload_n 2, 1) := by decide +kernel
theorem dX6_two_116 : decode cX6_two 116 = .ok (.iload 7, 2) := by decide +kernel
theorem dX6_two_118 : decode cX6_two 118 = .ok (.iload_n 3, 1) := by decide +kernel
theorem dX6_two_119 : decode cX6_two 119 = .ok (.invokevirtual 166, 3) := by decide +kernel
theorem dX6_two_122 : decode cX6_two 122 = .ok (.if_icmp .gt 12, 3) := by decide +kernel
theorem dX6_two_125 : decode cX6_two 125 = .ok (.bipush 10, 2) := by decide +kernel
theorem dX6_two_127 : decode cX6_two 127 = .ok (.iload 6, 2) := by decide +kernel
theorem dX6_two_129 : decode cX6_two 129 = .ok (.imul, 1) := by decide +kernel
theorem dX6_two_130 : decode cX6_two 130 = .ok (.iload 7, 2) := by decide +kernel
theorem dX6_two_132 : decode cX6_two 132 = .ok (.iadd, 1) := by decide +kernel
theorem dX6_two_133 : decode cX6_two 133 = .ok (.ireturn, 1) := by decide +kernel
theorem dX6_two_134 : decode cX6_two 134 = .ok (.iinc 5 1, 3) := by decide +kernel
theorem dX6_two_137 : decode cX6_two 137 = .ok (.goto (-88), 3) := by decide +kernel
theorem dX6_two_140 : decode cX6_two 140 = .ok (.bipush (-9), 2) := by decide +kernel
theorem dX6_two_142 : decode cX6_two 142 = .ok (.ireturn, 1) := by decide +kernel
theorem dX6_gcd_0 : decode cX6_gcd 0 = .ok (.lload_n 0, 1) := by decide +kernel
theorem dX6_gcd_1 : decode cX6_gcd 1 = .ok (.lstore 4, 2) := by decide +kernel
theorem dX6_gcd_3 : decode cX6_gcd 3 = .ok (.lload_n 2, 1) := by decide +kernel
theorem dX6_gcd_4 : decode cX6_gcd 4 = .ok (.lstore 6, 2) := by decide +kernel
theorem dX6_gcd_6 : decode cX6_gcd 6 = .ok (.lload 6, 2) := by decide +kernel
theorem dX6_gcd_8 : decode cX6_gcd 8 = .ok (.lconst 0, 1) := by decide +kernel
theorem dX6_gcd_9 : decode cX6_gcd 9 = .ok (.lcmp, 1) := by decide +kernel
theorem dX6_gcd_10 : decode cX6_gcd 10 = .ok (.ifCond .eq 21, 3) := by decide +kernel
theorem dX6_gcd_13 : decode cX6_gcd 13 = .ok (.lload 4, 2) := by decide +kernel
theorem dX6_gcd_15 : decode cX6_gcd 15 = .ok (.lload 6, 2) := by decide +kernel
theorem dX6_gcd_17 : decode cX6_gcd 17 = .ok (.lrem, 1) := by decide +kernel
theorem dX6_gcd_18 : decode cX6_gcd 18 = .ok (.lstore 8, 2) := by decide +kernel
theorem dX6_gcd_20 : decode cX6_gcd 20 = .ok (.lload 6, 2) := by decide +kernel
theorem dX6_gcd_22 : decode cX6_gcd 22 = .ok (.lstore 4, 2) := by decide +kernel
theorem dX6_gcd_24 : decode cX6_gcd 24 = .ok (.lload 8, 2) := by decide +kernel
theorem dX6_gcd_26 : decode cX6_gcd 26 = .ok (.lstore 6, 2) := by decide +kernel
theorem dX6_gcd_28 : decode cX6_gcd 28 = .ok (.goto (-22), 3) := by decide +kernel
theorem dX6_gcd_31 : decode cX6_gcd 31 = .ok (.lload 4, 2) := by decide +kernel
theorem dX6_gcd_33 : decode cX6_gcd 33 = .ok (.lreturn, 1) := by decide +kernel
theorem dX6_partOf_0 : decode cX6_partOf 0 = .ok (.lload_n 0, 1) := by decide +kernel
theorem dX6_partOf_1 : decode cX6_partOf 1 = .ok (.lconst 0, 1) := by decide +kernel
theorem dX6_partOf_2 : decode cX6_partOf 2 = .ok (.lcmp, 1) := by decide +kernel
theorem dX6_partOf_3 : decode cX6_partOf 3 = .ok (.ifCond .ne 7, 3) := by decide +kernel
theorem dX6_partOf_6 : decode cX6_partOf 6 = .ok (.iload 4, 2) := by decide +kernel
theorem dX6_partOf_8 : decode cX6_partOf 8 = .ok (.i2l, 1) := by decide +kernel
theorem dX6_partOf_9 : decode cX6_partOf 9 = .ok (.lreturn, 1) := by decide +kernel
theorem dX6_partOf_10 : decode cX6_partOf 10 = .ok (.iload 4, 2) := by decide +kernel
theorem dX6_partOf_12 : decode cX6_partOf 12 = .ok (.ifCond .ne 7, 3) := by decide +kernel
theorem dX6_partOf_15 : decode cX6_partOf 15 = .ok (.lload_n 0, 1) := by decide +kernel
theorem dX6_partOf_16 : decode cX6_partOf 16 = .ok (.goto 4, 3) := by decide +kernel
theorem dX6_partOf_19 : decode cX6_partOf 19 = .ok (.lload_n 2, 1) := by decide +kernel
theorem dX6_partOf_20 : decode cX6_partOf 20 = .ok (.lload_n 0, 1) := by decide +kernel
theorem dX6_partOf_21 : decode cX6_partOf 21 = .ok (.lload_n 2, 1) := by decide +kernel
theorem dX6_partOf_22 : decode cX6_partOf 22 = .ok (.invokestatic 170, 3) := by decide +kernel
theorem dX6_partOf_25 : decode cX6_partOf 25 = .ok (.ldiv, 1) := by decide +kernel
theorem dX6_partOf_26 : decode cX6_partOf 26 = .ok (.lreturn, 1) := by decide +kernel
theorem dX6_frost_0 : decode cX6_frost 0 = .ok (.iload_n 1, 1) := by decide +kernel
theorem dX6_frost_1 : decode cX6_frost 1 = .ok (.ifCond .lt 12, 3) := by decide +kernel
theorem dX6_frost_4 : decode cX6_frost 4 = .ok (.iload_n 3, 1) := by decide +kernel
theorem dX6_frost_5 : decode cX6_frost 5 = .ok (.ifCond .lt 8, 3) := by decide +kernel
theorem dX6_frost_8 : decode cX6_frost 8 = .ok (.iload_n 2, 1) := by decide +kernel
theorem dX6_frost_9 : decode cX6_frost 9 = .ok (.iconst 2, 1) := by decide +kernel
theorem dX6_frost_10 : decode cX6_frost 10 = .ok (.if_icmp .ge 10, 3) := by decide +kernel
theorem dX6_frost_13 : decode cX6_frost 13 = .ok (.aload_n 0, 1) := by decide +kernel
theorem dX6_frost_14 : decode cX6_frost 14 = .ok (.bipush (-4), 2) := by decide +kernel
theorem dX6_frost_16 : decode cX6_frost 16 = .ok (.invokevirtual 174, 3) := by decide +kernel
theorem dX6_frost_19 : decode cX6_frost 19 = .ok (.lreturn, 1) := by decide +kernel
theorem dX6_frost_20 : decode cX6_frost 20 = .ok (.iload_n 1, 1) := by decide +kernel
theorem dX6_frost_21 : decode cX6_frost 21 = .ok (.bipush 7, 2) := by decide +kernel
theorem dX6_frost_23 : decode cX6_frost 23 = .ok (.if_icmp .gt 16, 3) := by decide +kernel
theorem dX6_frost_26 : decode cX6_frost 26 = .ok (.iload_n 2, 1) := by decide +kernel
theorem dX6_frost_27 : decode cX6_frost 27 = .ok (.bipush 20, 2) := by decide +kernel
theorem dX6_frost_29 : decode cX6_frost 29 = .ok (.if_icmp .gt 10, 3) := by decide +kernel
theorem dX6_frost_32 : decode cX6_frost 32 = .ok (.iload_n 3, 1) := by decide +kernel
theorem dX6_frost_33 : decode cX6_frost 33 = .ok (.sipush 999, 3) := by decide +kernel
theorem dX6_frost_36 : decode cX6_frost 36 = .ok (.if_icmp .le 10, 3) := by decide +kernel
theorem dX6_frost_39 : decode cX6_frost 39 = .ok (.aload_n 0, 1) := by decide +kernel
theorem dX6_frost_40 : decode cX6_frost 40 = .ok (.bipush (-6), 2) := by decide +kernel
theorem dX6_frost_42 : decode cX6_frost 42 = .ok (.invokevirtual 174, 3) := by decide +kernel
theorem dX6_frost_45 : decode cX6_frost 45 = .ok (.lreturn, 1) := by decide +kernel
theorem dX6_frost_46 : decode cX6_frost 46 = .ok (.iload 4, 2) := by decide +kernel
theorem dX6_frost_48 : decode cX6_frost 48 = .ok (.iconst 0, 1) := by decide +kernel
theorem dX6_frost_49 : decode cX6_frost 49 = .ok (.iconst 1, 1) := by decide +kernel
theorem dX6_frost_50 : decode cX6_frost 50 = .ok (.invokestatic 52, 3) := by decide +kernel
theorem dX6_frost_53 : decode cX6_frost 53 = .ok (.ifCond .ne 10, 3) := by decide +kernel
theorem dX6_frost_56 : decode cX6_frost 56 = .ok (.aload_n 0, 1) := by decide +kernel
theorem dX6_frost_57 : decode cX6_frost 57 = .ok (.bipush (-2), 2) := by decide +kernel
theorem dX6_frost_59 : decode cX6_frost 59 = .ok (.invokevirtual 174, 3) := by decide +kernel
theorem dX6_frost_62 : decode cX6_frost 62 = .ok (.lreturn, 1) := by decide +kernel
theorem dX6_frost_63 : decode cX6_frost 63 = .ok (.lconst 0, 1) := by decide +kernel
theorem dX6_frost_64 : decode cX6_frost 64 = .ok (.lstore 5, 2) := by decide +kernel
theorem dX6_frost_66 : decode cX6_frost 66 = .ok (.lconst 1, 1) := by decide +kernel
theorem dX6_frost_67 : decode cX6_frost 67 = .ok (.lstore 7, 2) := by decide +kernel
theorem dX6_frost_69 : decode cX6_frost 69 = .ok (.iconst 0, 1) := by decide +kernel
theorem dX6_frost_70 : decode cX6_frost 70 = .ok (.istore 9, 2) := by decide +kernel
theorem dX6_frost_72 : decode cX6_frost 72 = .ok (.iload 9, 2) := by decide +kernel
theorem dX6_frost_74 : decode cX6_frost 74 = .ok (.iload_n 1, 1) := by decide +kernel
theorem dX6_frost_75 : decode cX6_frost 75 = .ok (.if_icmp .ge 16, 3) := by decide +kernel
theorem dX6_frost_78 : decode cX6_frost 78 = .ok (.lload 7, 2) := by decide +kernel
theorem dX6_frost_80 : decode cX6_frost 80 = .ok (.iload_n 2, 1) := by decide +kernel
theorem dX6_frost_81 : decode cX6_frost 81 = .ok (.i2l, 1) := by decide +kernel
theorem dX6_frost_82 : decode cX6_frost 82 = .ok (.lmul, 1) := by decide +kernel
theorem dX6_frost_83 : decode cX6_frost 83 = .ok (.lstore 7, 2) := by decide +kernel
theorem dX6_frost_85 : decode cX6_frost 85 = .ok (.iinc 9 1, 3) := by decide +kernel
theorem dX6_frost_88 : decode cX6_frost 88 = .ok (.goto (-16), 3) := by decide +kernel
theorem dX6_frost_91 : decode cX6_frost 91 = .ok (.iconst 0, 1) := by decide +kernel
theorem dX6_frost_92 : decode cX6_frost 92 = .ok (.istore 9, 2) := by decide +kernel
theorem dX6_frost_94 : decode cX6_frost 94 = .ok (.iload 9, 2) := by decide +kernel
theorem dX6_frost_96 : decode cX6_frost 96 = .ok (.iconst 1, 1) := by decide +kernel
theorem dX6_frost_97 : decode cX6_frost 97 = .ok (.iload_n 1, 1) := by decide +kernel
theorem dX6_frost_98 : decode cX6_frost 98 = .ok (.ishl, 1) := by decide +kernel
theorem dX6_frost_99 : decode cX6_frost 99 = .ok (.if_icmp .ge 101, 3) := by decide +kernel
theorem dX6_frost_102 : decode cX6_frost 102 = .ok (.lconst 1, 1) := by decide +kernel
theorem dX6_frost_103 : decode cX6_frost 103 = .ok (.lstore 10, 2) := by decide +kernel
theorem dX6_frost_105 : decode cX6_frost 105 = .ok (.iconst 0, 1) := by decide +kernel
theorem dX6_frost_106 : decode cX6_frost 106 = .ok (.istore 12, 2) := by decide +kernel
theorem dX6_frost_108 : decode cX6_frost 108 = .ok (.aload_n 0, 1) := by decide +kernel
theorem dX6_frost_109 : decode cX6_frost 109 = .ok (.getfield 9, 3) := by decide +kernel
theorem dX6_frost_112 : decode cX6_frost 112 = .ok (.aload_n 0, 1) := by decide +kernel
theorem dX6_frost_113 : decode cX6_frost 113 = .ok (.getfield 13, 3) := by decide +kernel
theorem dX6_frost_116 : decode cX6_frost 116 = .ok (.invokestatic 130, 3) := by decide +kernel
theorem dX6_frost_119 : decode cX6_frost 119 = .ok (.iconst 0, 1) := by decide +kernel
theorem dX6_frost_120 : decode cX6_frost 120 = .ok (.istore 13, 2) := by decide +kernel
theorem dX6_frost_122 : decode cX6_frost 122 = .ok (.iload 13, 2) := by decide +kernel
theorem dX6_frost_124 : decode cX6_frost 124 = .ok (.iload_n 1, 1) := by decide +kernel
theorem dX6_frost_125 : decode cX6_frost 125 = .ok (.if_icmp .ge 52, 3) := by decide +kernel
theorem dX6_frost_128 : decode cX6_frost 128 = .ok (.lload 10, 2) := by decide +kernel
theorem dX6_frost_130 : decode cX6_frost 130 = .ok (.iload 9, 2) := by decide +kernel
theorem dX6_frost_132 : decode cX6_frost 132 = .ok (.iload 13, 2) := by decide +kernel
theorem dX6_frost_134 : decode cX6_frost 134 = .ok (.invokestatic 151, 3) := by decide +kernel
theorem dX6_frost_137 : decode cX6_frost 137 = .ok (.ifCond .eq 7, 3) := by decide +kernel
theorem dX6_frost_140 : decode cX6_frost 140 = .ok (.lconst 1, 1) := by decide +kernel
theorem dX6_frost_141 : decode cX6_frost 141 = .ok (.goto 7, 3) := by decide +kernel
theorem dX6_frost_144 : decode cX6_frost 144 = .ok (.iload_n 2, 1) := by decide +kernel
theorem dX6_frost_145 : decode cX6_frost 145 = .ok (.iconst 1, 1) := by decide +kernel
theorem dX6_frost_146 : decode cX6_frost 146 = .ok (.isub, 1) := by decide +kernel
theorem dX6_frost_147 : decode cX6_frost 147 = .ok (.i2l, 1) := by decide +kernel
theorem dX6_frost_148 : decode cX6_frost 148 = .ok (.lmul, 1) := by decide +kernel
theorem dX6_frost_149 : decode cX6_frost 149 = .ok (.lstore 10, 2) := by decide +kernel
theorem dX6_frost_151 : decode cX6_frost 151 = .ok (.iload 12, 2) := by decide +kernel
theorem dX6_frost_153 : decode cX6_frost 153 = .ok (.aload_n 0, 1) := by decide +kernel
theorem dX6_frost_154 : decode cX6_frost 154 = .ok (.aload_n 0, 1) := by decide +kernel
theorem dX6_frost_155 : decode cX6_frost 155 = .ok (.getfield 13, 3) := by decide +kernel
theorem dX6_frost_158 : decode cX6_frost 158 = .ok (.iload 9, 2) := by decide +kernel
theorem dX6_frost_160 : decode cX6_frost 160 = .ok (.iload 13, 2) := by decide +kernel
theorem dX6_frost_162 : decode cX6_frost 162 = .ok (.invokestatic 151, 3) := by decide +kernel
theorem dX6_frost_165 : decode cX6_frost 165 = .ok (.invokevirtual 84, 3) := by decide +kernel
theorem dX6_frost_168 : decode cX6_frost 168 = .ok (.iadd, 1) := by decide +kernel
theorem dX6_frost_169 : decode cX6_frost 169 = .ok (.istore 12, 2) := by decide +kernel
theorem dX6_frost_171 : decode cX6_frost 171 = .ok (.iinc 13 1, 3) := by decide +kernel
theorem dX6_frost_174 : decode cX6_frost 174 = .ok (.goto (-52), 3) := by decide +kernel
theorem dX6_frost_177 : decode cX6_frost 177 = .ok (.lload 5, 2) := by decide +kernel
theorem dX6_frost_179 : decode cX6_frost 179 = .ok (.iload 12, 2) := by decide +kernel
theorem dX6_frost_181 : decode cX6_frost 181 = .ok (.iload_n 3, 1) := by decide +kernel
theorem dX6_frost_182 : decode cX6_frost 182 = .ok (.if_icmp .lt 8, 3) := by decide +kernel
theorem dX6_frost_185 : decode cX6_frost 185 = .ok (.lload 10, 2) := by decide +kernel
theorem dX6_frost_187 : decode cX6_frost 187 = .ok (.goto 4, 3) := by decide +kernel
theorem dX6_frost_190 : decode cX6_frost 190 = .ok (.lconst 0, 1) := by decide +kernel
theorem dX6_frost_191 : decode cX6_frost 191 = .ok (.ladd, 1) := by decide +kernel
theorem dX6_frost_192 : decode cX6_frost 192 = .ok (.lstore 5, 2) := by decide +kernel
theorem dX6_frost_194 : decode cX6_frost 194 = .ok (.iinc 9 1, 3) := by decide +kernel
theorem dX6_frost_197 : decode cX6_frost 197 = .ok (.goto (-103), 3) := by decide +kernel
theorem dX6_frost_200 : decode cX6_frost 200 = .ok (.lload 5, 2) := by decide +kernel
theorem dX6_frost_202 : decode cX6_frost 202 = .ok (.lload 7, 2) := by decide +kernel
theorem dX6_frost_204 : decode cX6_frost 204 = .ok (.iload 4, 2) := by decide +kernel
theorem dX6_frost_206 : decode cX6_frost 206 = .ok (.invokestatic 178, 3) := by decide +kernel
theorem dX6_frost_209 : decode cX6_frost 209 = .ok (.lreturn, 1) := by decide +kernel
theorem dX6_mean_0 : decode cX6_mean 0 = .ok (.iload_n 1, 1) := by decide +kernel
theorem dX6_mean_1 : decode cX6_mean 1 = .ok (.iconst 0, 1) := by decide +kernel
theorem dX6_mean_2 : decode cX6_mean 2 = .ok (.iconst 1, 1) := by decide +kernel
theorem dX6_mean_3 : decode cX6_mean 3 = .ok (.invokestatic 52, 3) := by decide +kernel
theorem dX6_mean_6 : decode cX6_mean 6 = .ok (.ifCond .eq 25, 3) := by decide +kernel
theorem dX6_mean_9 : decode cX6_mean 9 = .ok (.aload_n 0, 1) := by decide +kernel
theorem dX6_mean_10 : decode cX6_mean 10 = .ok (.getfield 9, 3) := by decide +kernel
theorem dX6_mean_13 : decode cX6_mean 13 = .ok (.invokestatic 182, 3) := by decide +kernel
theorem dX6_mean_16 : decode cX6_mean 16 = .ok (.i2l, 1) := by decide +kernel
theorem dX6_mean_17 : decode cX6_mean 17 = .ok (.aload_n 0, 1) := by decide +kernel
theorem dX6_mean_18 : decode cX6_mean 18 = .ok (.getfield 9, 3) := by decide +kernel
theorem dX6_mean_21 : decode cX6_mean 21 = .ok (.iconst 0, 1) := by decide +kernel
theorem dX6_mean_22 : decode cX6_mean 22 = .ok (.iaload, 1) := by decide +kernel
theorem dX6_mean_23 : decode cX6_mean 23 = .ok (.i2l, 1) := by decide +kernel
theorem dX6_mean_24 : decode cX6_mean 24 = .ok (.iload_n 1, 1) := by decide +kernel
theorem dX6_mean_25 : decode cX6_mean 25 = .ok (.invokestatic 178, 3) := by decide +kernel
theorem dX6_mean_28 : decode cX6_mean 28 = .ok (.goto 9, 3) := by decide +kernel
theorem dX6_mean_31 : decode cX6_mean 31 = .ok (.aload_n 0, 1) := by decide +kernel
theorem dX6_mean_32 : decode cX6_mean 32 = .ok (.bipush (-2), 2) := by decide +kernel
theorem dX6_mean_34 : decode cX6_mean 34 = .ok (.invokevirtual 174, 3) := by decide +kernel
theorem dX6_mean_37 : decode cX6_mean 37 = .ok (.lreturn, 1) := by decide +kernel
theorem dX6_whoSat_0 : decode cX6_whoSat 0 = .ok (.aload_n 0, 1) := by decide +kernel
theorem dX6_whoSat_1 : decode cX6_whoSat 1 = .ok (.iload_n 1, 1) := by decide +kernel
theorem dX6_whoSat_2 : decode cX6_whoSat 2 = .ok (.invokevirtual 117, 3) := by decide +kernel
theorem dX6_whoSat_5 : decode cX6_whoSat 5 = .ok (.ifCond .eq 11, 3) := by decide +kernel
theorem dX6_whoSat_8 : decode cX6_whoSat 8 = .ok (.aload_n 0, 1) := by decide +kernel
theorem dX6_whoSat_9 : decode cX6_whoSat 9 = .ok (.iload_n 2, 1) := by decide +kernel
theorem dX6_whoSat_10 : decode cX6_whoSat 10 = .ok (.invokevirtual 113, 3) := by decide +kernel
theorem dX6_whoSat_13 : decode cX6_whoSat 13 = .ok (.ifCond .ne 9, 3) := by decide +kernel
theorem dX6_whoSat_16 : decode cX6_whoSat 16 = .ok (.aload_n 0, 1) := by decide +kernel
theorem dX6_whoSat_17 : decode cX6_whoSat 17 = .ok (.iconst (-1), 1) := by decide +kernel
theorem dX6_whoSat_18 : decode cX6_whoSat 18 = .ok (.invokevirtual 48, 3) := by decide +kernel
theorem dX6_whoSat_21 : decode cX6_whoSat 21 = .ok (.ireturn, 1) := by decide +kernel
theorem dX6_whoSat_22 : decode cX6_whoSat 22 = .ok (.iload_n 3, 1) := by decide +kernel
theorem dX6_whoSat_23 : decode cX6_whoSat 23 = .ok (.iconst 0, 1) := by decide +kernel
theorem dX6_whoSat_24 : decode cX6_whoSat 24 = .ok (.iconst 1, 1) := by decide +kernel
theorem dX6_whoSat_25 : decode cX6_whoSat 25 = .ok (.invokestatic 52, 3) := by decide +kernel
theorem dX6_whoSat_28 : decode cX6_whoSat 28 = .ok (.ifCond .ne 10, 3) := by decide +kernel
theorem dX6_whoSat_31 : decode cX6_whoSat 31 = .ok (.aload_n 0, 1) := by decide +kernel
theorem dX6_whoSat_32 : decode cX6_whoSat 32 = .ok (.bipush (-2), 2) := by decide +kernel
theorem dX6_whoSat_34 : decode cX6_whoSat 34 = .ok (.invokevirtual 48, 3) := by decide +kernel
theorem dX6_whoSat_37 : decode cX6_whoSat 37 = .ok (.ireturn, 1) := by decide +kernel
theorem dX6_whoSat_38 : decode cX6_whoSat 38 = .ok (.iconst 0, 1) := by decide +kernel
theorem dX6_whoSat_39 : decode cX6_whoSat 39 = .ok (.istore 4, 2) := by decide +kernel
theorem dX6_whoSat_41 : decode cX6_whoSat 41 = .ok (.iconst 0, 1) := by decide +kernel
theorem dX6_whoSat_42 : decode cX6_whoSat 42 = .ok (.istore 5, 2) := by decide +kernel
theorem dX6_whoSat_44 : decode cX6_whoSat 44 = .ok (.iload 5, 2) := by decide +kernel
theorem dX6_whoSat_46 : decode cX6_whoSat 46 = .ok (.iload_n 3, 1) := by decide +kernel
theorem dX6_whoSat_47 : decode cX6_whoSat 47 = .ok (.ifCond .ne 8, 3) := by decide +kernel
theorem dX6_whoSat_50 : decode cX6_whoSat 50 = .ok (.bipush 6, 2) := by decide +kernel
theorem dX6_whoSat_52 : decode cX6_whoSat 52 = .ok (.goto 5, 3) := by decide +kernel
theorem dX6_whoSat_55 : decode cX6_whoSat 55 = .ok (.bipush 10, 2) := by decide +kernel
theorem dX6_whoSat_57 : decode cX6_whoSat 57 = .ok (.if_icmp .ge 110, 3) := by decide +kernel
theorem dX6_whoSat_60 : decode cX6_whoSat 60 = .ok (.iconst 1, 1) := by decide +kernel
theorem dX6_whoSat_61 : decode cX6_whoSat 61 = .ok (.istore 6, 2) := by decide +kernel
theorem dX6_whoSat_63 : decode cX6_whoSat 63 = .ok (.aload_n 0, 1) := by decide +kernel
theorem dX6_whoSat_64 : decode cX6_whoSat 64 = .ok (.getfield 9, 3) := by decide +kernel
theorem dX6_whoSat_67 : decode cX6_whoSat 67 = .ok (.aload_n 0, 1) := by decide +kernel
theorem dX6_whoSat_68 : decode cX6_whoSat 68 = .ok (.getfield 13, 3) := by decide +kernel
theorem dX6_whoSat_71 : decode cX6_whoSat 71 = .ok (.invokestatic 130, 3) := by decide +kernel
theorem dX6_whoSat_74 : decode cX6_whoSat 74 = .ok (.aload_n 0, 1) := by decide +kernel
theorem dX6_whoSat_75 : decode cX6_whoSat 75 = .ok (.getfield 13, 3) := by decide +kernel
theorem dX6_whoSat_78 : decode cX6_whoSat 78 = .ok (.iload_n 2, 1) := by decide +kernel
theorem dX6_whoSat_79 : decode cX6_whoSat 79 = .ok (.iload_n 3, 1) := by decide +kernel
theorem dX6_whoSat_80 : decode cX6_whoSat 80 = .ok (.invokestatic 56, 3) := by decide +kernel
theorem dX6_whoSat_83 : decode cX6_whoSat 83 = .ok (.iload 5, 2) := by decide +kernel
theorem dX6_whoSat_85 : decode cX6_whoSat 85 = .ok (.iastore, 1) := by decide +kernel
theorem dX6_whoSat_86 : decode cX6_whoSat 86 = .ok (.iconst 0, 1) := by decide +kernel
theorem dX6_whoSat_87 : decode cX6_whoSat 87 = .ok (.istore 7, 2) := by decide +kernel
theorem dX6_whoSat_89 : decode cX6_whoSat 89 = .ok (.iload 7, 2) := by decide +kernel
theorem dX6_whoSat_91 : decode cX6_whoSat 91 = .ok (.aload_n 0, 1) := by decide +kernel
theorem dX6_whoSat_92 : decode cX6_whoSat 92 = .ok (.getfield 185, 3) := by decide +kernel
theorem dX6_whoSat_95 : decode cX6_whoSat 95 = .ok (.if_icmp .ge 48, 3) := by decide +kernel
theorem dX6_whoSat_98 : decode cX6_whoSat 98 = .ok (.iload 6, 2) := by decide +kernel
theorem dX6_whoSat_100 : decode cX6_whoSat 100 = .ok (.aload_n 0, 1) := by decide +kernel
theorem dX6_whoSat_101 : decode cX6_whoSat 101 = .ok (.getfield 13, 3) := by decide +kernel
theorem dX6_whoSat_104 : decode cX6_whoSat 104 = .ok (.iload_n 1, 1) := by decide +kernel
theorem dX6_whoSat_105 : decode cX6_whoSat 105 = .ok (.invokestatic 88, 3) := by decide +kernel
theorem dX6_whoSat_108 : decode cX6_whoSat 108 = .ok (.aload_n 0, 1) := by decide +kernel
theorem dX6_whoSat_109 : decode cX6_whoSat 109 = .ok (.getfield 31, 3) := by decide +kernel
theorem dX6_whoSat_112 : decode cX6_whoSat 112 = .ok (.iload 7, 2) := by decide +kernel
theorem dX6_whoSat_114 : decode cX6_whoSat 114 = .ok (.iaload, 1) := by decide +kernel
theorem dX6_whoSat_115 : decode cX6_whoSat 115 = .ok (.if_icmp .ne 7, 3) := by decide +kernel
theorem dX6_whoSat_118 : decode cX6_whoSat 118 = .ok (.iconst 1, 1) := by decide +kernel
theorem dX6_whoSat_119 : decode cX6_whoSat 119 = .ok (.goto 4, 3) := by decide +kernel
theorem dX6_whoSat_122 : decode cX6_whoSat 122 = .ok (.iconst 0, 1) := by decide +kernel
theorem dX6_whoSat_123 : decode cX6_whoSat 123 = .ok (.iand, 1) := by decide +kernel
theorem dX6_whoSat_124 : decode cX6_whoSat 124 = .ok (.istore 6, 2) := by decide +kernel
theorem dX6_whoSat_126 : decode cX6_whoSat 126 = .ok (.aload_n 0, 1) := by decide +kernel
theorem dX6_whoSat_127 : decode cX6_whoSat 127 = .ok (.aload_n 0, 1) := by decide +kernel
theorem dX6_whoSat_128 : decode cX6_whoSat 128 = .ok (.getfield 13, 3) := by decide +kernel
theorem dX6_whoSat_131 : decode cX6_whoSat 131 = .ok (.iconst 0, 1) := by decide +kernel
theorem dX6_whoSat_132 : decode cX6_whoSat 132 = .ok (.invokevirtual 84, 3) := by decide +kernel
theorem dX6_whoSat_135 : decode cX6_whoSat 135 = .ok (.istore 8, 2) := by decide +kernel
theorem dX6_whoSat_137 : decode cX6_whoSat 137 = .ok (.iinc 7 1, 3) := by decide +kernel
theorem dX6_whoSat_140 : decode cX6_whoSat 140 = .ok (.goto (-51), 3) := by decide +kernel
theorem dX6_whoSat_143 : decode cX6_whoSat 143 = .ok (.iload 4, 2) := by decide +kernel
theorem dX6_whoSat_145 : decode cX6_whoSat 145 = .ok (.iload 6, 2) := by decide +kernel
theorem dX6_whoSat_147 : decode cX6_whoSat 147 = .ok (.ifCond .eq 10, 3) := by decide +kernel
theorem dX6_whoSat_150 : decode cX6_whoSat 150 = .ok (.iconst 1, 1) := by decide +kernel
theorem dX6_whoSat_151 : decode cX6_whoSat 151 = .ok (.iload 5, 2) := by decide +kernel
theorem dX6_whoSat_153 : decode cX6_whoSat 153 = .ok (.ishl, 1) := by decide +kernel
theorem dX6_whoSat_154 : decode cX6_whoSat 154 = .ok (.goto 4, 3) := by decide +kernel
theorem dX6_whoSat_157 : decode cX6_whoSat 157 = .ok (.iconst 0, 1) := by decide +kernel
theorem dX6_whoSat_158 : decode cX6_whoSat 158 = .ok (.ior, 1) := by decide +kernel
theorem dX6_whoSat_159 : decode cX6_whoSat 159 = .ok (.istore 4, 2) := by decide +kernel
theorem dX6_whoSat_161 : decode cX6_whoSat 161 = .ok (.iinc 5 1, 3) := by decide +kernel
theorem dX6_whoSat_164 : decode cX6_whoSat 164 = .ok (.goto (-120), 3) := by decide +kernel
theorem dX6_whoSat_167 : decode cX6_whoSat 167 = .ok (.iload 4, 2) := by decide +kernel
theorem dX6_whoSat_169 : decode cX6_whoSat 169 = .ok (.ireturn, 1) := by decide +kernel
theorem dX6_row_0 : decode cX6_row 0 = .ok (.iload_n 1, 1) := by decide +kernel
theorem dX6_row_1 : decode cX6_row 1 = .ok (.iconst 0, 1) := by decide +kernel
theorem dX6_row_2 : decode cX6_row 2 = .ok (.bipush 99, 2) := by decide +kernel
theorem dX6_row_4 : decode cX6_row 4 = .ok (.invokestatic 137, 3) := by decide +kernel
theorem dX6_row_7 : decode cX6_row 7 = .ok (.istore_n 2, 1) := by decide +kernel
theorem dX6_row_8 : decode cX6_row 8 = .ok (.iload_n 2, 1) := by decide +kernel
theorem dX6_row_9 : decode cX6_row 9 = .ok (.ifCond .ne 15, 3) := by decide +kernel
theorem dX6_row_12 : decode cX6_row 12 = .ok (.aload_n 0, 1) := by decide +kernel
theorem dX6_row_13 : decode cX6_row 13 = .ok (.getfield 185, 3) := by decide +kernel
theorem dX6_row_16 : decode cX6_row 16 = .ok (.bipush 16, 2) := by decide +kernel
theorem dX6_row_18 : decode cX6_row 18 = .ok (.if_icmp .ne 6, 3) := by decide +kernel
theorem dX6_row_21 : decode cX6_row 21 = .ok (.bipush (-6), 2) := by decide +kernel
theorem dX6_row_23 : decode cX6_row 23 = .ok (.istore_n 2, 1) := by decide +kernel
theorem dX6_row_24 : decode cX6_row 24 = .ok (.iload_n 2, 1) := by decide +kernel
theorem dX6_row_25 : decode cX6_row 25 = .ok (.ifCond .eq 9, 3) := by decide +kernel
theorem dX6_row_28 : decode cX6_row 28 = .ok (.aload_n 0, 1) := by decide +kernel
theorem dX6_row_29 : decode cX6_row 29 = .ok (.iload_n 2, 1) := by decide +kernel
theorem dX6_row_30 : decode cX6_row 30 = .ok (.invokevirtual 48, 3) := by decide +kernel
theorem dX6_row_33 : decode cX6_row 33 = .ok (.ireturn, 1) := by decide +kernel
theorem dX6_row_34 : decode cX6_row 34 = .ok (.aload_n 0, 1) := by decide +kernel
theorem dX6_row_35 : decode cX6_row 35 = .ok (.getfield 31, 3) := by decide +kernel
theorem dX6_row_38 : decode cX6_row 38 = .ok (.aload_n 0, 1) := by decide +kernel
theorem dX6_row_39 : decode cX6_row 39 = .ok (.getfield 185, 3) := by decide +kernel
theorem dX6_row_42 : decode cX6_row 42 = .ok (.iload_n 1, 1) := by decide +kernel
theorem dX6_row_43 : decode cX6_row 43 = .ok (.iastore, 1) := by decide +kernel
theorem dX6_row_44 : decode cX6_row 44 = .ok (.aload_n 0, 1) := by decide +kernel
theorem dX6_row_45 : decode cX6_row 45 = .ok (.dup, 1) := by decide +kernel
theorem dX6_row_46 : decode cX6_row 46 = .ok (.getfield 185, 3) := by decide +kernel
theorem dX6_row_49 : decode cX6_row 49 = .ok (.iconst 1, 1) := by decide +kernel
theorem dX6_row_50 : decode cX6_row 50 = .ok (.iadd, 1) := by decide +kernel
theorem dX6_row_51 : decode cX6_row 51 = .ok (.putfield 185, 3) := by decide +kernel
theorem dX6_row_54 : decode cX6_row 54 = .ok (.aload_n 0, 1) := by decide +kernel
theorem dX6_row_55 : decode cX6_row 55 = .ok (.getfield 185, 3) := by decide +kernel
theorem dX6_row_58 : decode cX6_row 58 = .ok (.ireturn, 1) := by decide +kernel
theorem dX6_judge_0 : decode cX6_judge 0 = .ok (.aload_n 0, 1) := by decide +kernel
theorem dX6_judge_1 : decode cX6_judge 1 = .ok (.getfield 185, 3) := by decide +kernel
theorem dX6_judge_4 : decode cX6_judge 4 = .ok (.istore_n 1, 1) := by decide +kernel
theorem dX6_judge_5 : decode cX6_judge 5 = .ok (.aload_n 0, 1) := by decide +kernel
theorem dX6_judge_6 : decode cX6_judge 6 = .ok (.iconst 0, 1) := by decide +kernel
theorem dX6_judge_7 : decode cX6_judge 7 = .ok (.putfield 185, 3) := by decide +kernel
theorem dX6_judge_10 : decode cX6_judge 10 = .ok (.aload_n 0, 1) := by decide +kernel
theorem dX6_judge_11 : decode cX6_judge 11 = .ok (.getfield 9, 3) := by decide +kernel
theorem dX6_judge_14 : decode cX6_judge 14 = .ok (.aload_n 0, 1) := by decide +kernel
theorem dX6_judge_15 : decode cX6_judge 15 = .ok (.getfield 13, 3) := by decide +kernel
theorem dX6_judge_18 : decode cX6_judge 18 = .ok (.invokestatic 130, 3) := by decide +kernel
theorem dX6_judge_21 : decode cX6_judge 21 = .ok (.iconst 0, 1) := by decide +kernel
theorem dX6_judge_22 : decode cX6_judge 22 = .ok (.istore_n 2, 1) := by decide +kernel
theorem dX6_judge_23 : decode cX6_judge 23 = .ok (.iload_n 2, 1) := by decide +kernel
theorem dX6_judge_24 : decode cX6_judge 24 = .ok (.iload_n 1, 1) := by decide +kernel
theorem dX6_judge_25 : decode cX6_judge 25 = .ok (.if_icmp .ge 29, 3) := by decide +kernel
theorem dX6_judge_28 : decode cX6_judge 28 = .ok (.aload_n 0, 1) := by decide +kernel
theorem dX6_judge_29 : decode cX6_judge 29 = .ok (.aload_n 0, 1) := by decide +kernel
theorem dX6_judge_30 : decode cX6_judge 30 = .ok (.getfield 13, 3) := by decide +kernel
theorem dX6_judge_33 : decode cX6_judge 33 = .ok (.iconst 0, 1) := by decide +kernel
theorem dX6_judge_34 : decode cX6_judge 34 = .ok (.invokevirtual 84, 3) := by decide +kernel
theorem dX6_judge_37 : decode cX6_judge 37 = .ok (.aload_n 0, 1) := by decide +kernel
theorem dX6_judge_38 : decode cX6_judge 38 = .ok (.getfield 31, 3) := by decide +kernel
theorem dX6_judge_41 : decode cX6_judge 41 = .ok (.iload_n 2, 1) := by decide +kernel
theorem dX6_judge_42 : decode cX6_judge 42 = .ok (.iaload, 1) := by decide +kernel
theorem dX6_judge_43 : decode cX6_judge 43 = .ok (.if_icmp .eq 5, 3) := by decide +kernel
theorem dX6_judge_46 : decode cX6_judge 46 = .ok (.iload_n 2, 1) := by decide +kernel
theorem dX6_judge_47 : decode cX6_judge 47 = .ok (.ireturn, 1) := by decide +kernel
theorem dX6_judge_48 : decode cX6_judge 48 = .ok (.iinc 2 1, 3) := by decide +kernel
theorem dX6_judge_51 : decode cX6_judge 51 = .ok (.goto (-28), 3) := by decide +kernel
theorem dX6_judge_54 : decode cX6_judge 54 = .ok (.bipush (-9), 2) := by decide +kernel
theorem dX6_judge_56 : decode cX6_judge 56 = .ok (.ireturn, 1) := by decide +kernel
theorem dX6_clear_0 : decode cX6_clear 0 = .ok (.aload_n 0, 1) := by decide +kernel
theorem dX6_clear_1 : decode cX6_clear 1 = .ok (.getfield 185, 3) := by decide +kernel
theorem dX6_clear_4 : decode cX6_clear 4 = .ok (.istore_n 1, 1) := by decide +kernel
theorem dX6_clear_5 : decode cX6_clear 5 = .ok (.aload_n 0, 1) := by decide +kernel
theorem dX6_clear_6 : decode cX6_clear 6 = .ok (.iconst 0, 1) := by decide +kernel
theorem dX6_clear_7 : decode cX6_clear 7 = .ok (.putfield 185, 3) := by decide +kernel
theorem dX6_clear_10 : decode cX6_clear 10 = .ok (.iload_n 1, 1) := by decide +kernel
theorem dX6_clear_11 : decode cX6_clear 11 = .ok (.ireturn, 1) := by decide +kernel
theorem dX6_drawn_0 : decode cX6_drawn 0 = .ok (.aload_n 0, 1) := by decide +kernel
theorem dX6_drawn_1 : decode cX6_drawn 1 = .ok (.aload_n 0, 1) := by decide +kernel
theorem dX6_drawn_2 : decode cX6_drawn 2 = .ok (.getfield 188, 3) := by decide +kernel
theorem dX6_drawn_5 : decode cX6_drawn 5 = .ok (.ldc 191, 2) := by decide +kernel
theorem dX6_drawn_7 : decode cX6_drawn 7 = .ok (.imul, 1) := by decide +kernel
theorem dX6_drawn_8 : decode cX6_drawn 8 = .ok (.ldc 192, 2) := by decide +kernel
theorem dX6_drawn_10 : decode cX6_drawn 10 = .ok (.iadd, 1) := by decide +kernel
theorem dX6_drawn_11 : decode cX6_drawn 11 = .ok (.putfield 188, 3) := by decide +kernel
theorem dX6_drawn_14 : decode cX6_drawn 14 = .ok (.aload_n 0, 1) := by decide +kernel
theorem dX6_drawn_15 : decode cX6_drawn 15 = .ok (.getfield 188, 3) := by decide +kernel
theorem dX6_drawn_18 : decode cX6_drawn 18 = .ok (.ldc 193, 2) := by decide +kernel
theorem dX6_drawn_20 : decode cX6_drawn 20 = .ok (.iand, 1) := by decide +kernel
theorem dX6_drawn_21 : decode cX6_drawn 21 = .ok (.sipush 256, 3) := by decide +kernel
theorem dX6_drawn_24 : decode cX6_drawn 24 = .ok (.idiv, 1) := by decide +kernel
theorem dX6_drawn_25 : decode cX6_drawn 25 = .ok (.iload_n 1, 1) := by decide +kernel
theorem dX6_drawn_26 : decode cX6_drawn 26 = .ok (.irem, 1) := by decide +kernel
theorem dX6_drawn_27 : decode cX6_drawn 27 = .ok (.ireturn, 1) := by decide +kernel
theorem dX6_lots_0 : decode cX6_lots 0 = .ok (.iload_n 1, 1) := by decide +kernel
theorem dX6_lots_1 : decode cX6_lots 1 = .ok (.iconst 1, 1) := by decide +kernel
theorem dX6_lots_2 : decode cX6_lots 2 = .ok (.if_icmp .ge 10, 3) := by decide +kernel
theorem dX6_lots_5 : decode cX6_lots 5 = .ok (.aload_n 0, 1) := by decide +kernel
theorem dX6_lots_6 : decode cX6_lots 6 = .ok (.bipush (-4), 2) := by decide +kernel
theorem dX6_lots_8 : decode cX6_lots 8 = .ok (.invokevirtual 48, 3) := by decide +kernel
theorem dX6_lots_11 : decode cX6_lots 11 = .ok (.ireturn, 1) := by decide +kernel
theorem dX6_lots_12 : decode cX6_lots 12 = .ok (.iload_n 1, 1) := by decide +kernel
theorem dX6_lots_13 : decode cX6_lots 13 = .ok (.bipush 20, 2) := by decide +kernel
theorem dX6_lots_15 : decode cX6_lots 15 = .ok (.if_icmp .le 10, 3) := by decide +kernel
theorem dX6_lots_18 : decode cX6_lots 18 = .ok (.aload_n 0, 1) := by decide +kernel
theorem dX6_lots_19 : decode cX6_lots 19 = .ok (.bipush (-6), 2) := by decide +kernel
theorem dX6_lots_21 : decode cX6_lots 21 = .ok (.invokevirtual 48, 3) := by decide +kernel
theorem dX6_lots_24 : decode cX6_lots 24 = .ok (.ireturn, 1) := by decide +kernel
theorem dX6_lots_25 : decode cX6_lots 25 = .ok (.iload_n 3, 1) := by decide +kernel
theorem dX6_lots_26 : decode cX6_lots 26 = .ok (.iconst 0, 1) := by decide +kernel
theorem dX6_lots_27 : decode cX6_lots 27 = .ok (.iconst 1, 1) := by decide +kernel
theorem dX6_lots_28 : decode cX6_lots 28 = .ok (.invokestatic 52, 3) := by decide +kernel
theorem dX6_lots_31 : decode cX6_lots 31 = .ok (.ifCond .ne 10, 3) := by decide +kernel
theorem dX6_lots_34 : decode cX6_lots 34 = .ok (.aload_n 0, 1) := by decide +kernel
theorem dX6_lots_35 : decode cX6_lots 35 = .ok (.bipush (-2), 2) := by decide +kernel
theorem dX6_lots_37 : decode cX6_lots 37 = .ok (.invokevirtual 48, 3) := by decide +kernel
theorem dX6_lots_40 : decode cX6_lots 40 = .ok (.ireturn, 1) := by decide +kernel
theorem dX6_lots_41 : decode cX6_lots 41 = .ok (.aload_n 0, 1) := by decide +kernel
theorem dX6_lots_42 : decode cX6_lots 42 = .ok (.iload_n 2, 1) := by decide +kernel
theorem dX6_lots_43 : decode cX6_lots 43 = .ok (.putfield 188, 3) := by decide +kernel
theorem dX6_lots_46 : decode cX6_lots 46 = .ok (.iconst 0, 1) := by decide +kernel
theorem dX6_lots_47 : decode cX6_lots 47 = .ok (.istore 4, 2) := by decide +kernel
theorem dX6_lots_49 : decode cX6_lots 49 = .ok (.iconst 0, 1) := by decide +kernel
theorem dX6_lots_50 : decode cX6_lots 50 = .ok (.istore 5, 2) := by decide +kernel
theorem dX6_lots_52 : decode cX6_lots 52 = .ok (.iload 5, 2) := by decide +kernel
theorem dX6_lots_54 : decode cX6_lots 54 = .ok (.iload_n 1, 1) := by decide +kernel
theorem dX6_lots_55 : decode cX6_lots 55 = .ok (.if_icmp .ge 106, 3) := by decide +kernel
theorem dX6_lots_58 : decode cX6_lots 58 = .ok (.aload_n 0, 1) := by decide +kernel
theorem dX6_lots_59 : decode cX6_lots 59 = .ok (.getfield 9, 3) := by decide +kernel
theorem dX6_lots_62 : decode cX6_lots 62 = .ok (.aload_n 0, 1) := by decide +kernel
theorem dX6_lots_63 : decode cX6_lots 63 = .ok (.getfield 13, 3) := by decide +kernel
theorem dX6_lots_66 : decode cX6_lots 66 = .ok (.invokestatic 130, 3) := by decide +kernel
theorem dX6_lots_69 : decode cX6_lots 69 = .ok (.iconst 0, 1) := by decide +kernel
theorem dX6_lots_70 : decode cX6_lots 70 = .ok (.istore 6, 2) := by decide +kernel
theorem dX6_lots_72 : decode cX6_lots 72 = .ok (.iload 6, 2) := by decide +kernel
theorem dX6_lots_74 : decode cX6_lots 74 = .ok (.aload_n 0, 1) := by decide +kernel
theorem dX6_lots_75 : decode cX6_lots 75 = .ok (.getfield 9, 3) := by decide +kernel
theorem dX6_lots_78 : decode cX6_lots 78 = .ok (.iconst 0, 1) := by decide +kernel
theorem dX6_lots_79 : decode cX6_lots 79 = .ok (.iaload, 1) := by decide +kernel
theorem dX6_lots_80 : decode cX6_lots 80 = .ok (.if_icmp .ge 42, 3) := by decide +kernel
theorem dX6_lots_83 : decode cX6_lots 83 = .ok (.iconst 0, 1) := by decide +kernel
theorem dX6_lots_84 : decode cX6_lots 84 = .ok (.istore 7, 2) := by decide +kernel
theorem dX6_lots_86 : decode cX6_lots 86 = .ok (.iload 7, 2) := by decide +kernel
theorem dX6_lots_88 : decode cX6_lots 88 = .ok (.iconst 3, 1) := by decide +kernel
theorem dX6_lots_89 : decode cX6_lots 89 = .ok (.if_icmp .ge 27, 3) := by decide +kernel
theorem dX6_lots_92 : decode cX6_lots 92 = .ok (.aload_n 0, 1) := by decide +kernel
theorem dX6_lots_93 : decode cX6_lots 93 = .ok (.getfield 13, 3) := by decide +kernel
theorem dX6_lots_96 : decode cX6_lots 96 = .ok (.iload 6, 2) := by decide +kernel
theorem dX6_lots_98 : decode cX6_lots 98 = .ok (.iload 7, 2) := by decide +kernel
theorem dX6_lots_100 : decode cX6_lots 100 = .ok (.invokestatic 60, 3) := by decide +kernel
theorem dX6_lots_103 : decode cX6_lots 103 = .ok (.aload_n 0, 1) := by decide +kernel
theorem dX6_lots_104 : decode cX6_lots 104 = .ok (.bipush 31, 2) := by decide +kernel
theorem dX6_lots_106 : decode cX6_lots 106 = .ok (.invokevirtual 194, 3) := by decide +kernel
theorem dX6_lots_109 : decode cX6_lots 109 = .ok (.iastore, 1) := by decide +kernel
theorem dX6_lots_110 : decode cX6_lots 110 = .ok (.iinc 7 1, 3) := by decide +kernel
theorem dX6_lots_113 : decode cX6_lots 113 = .ok (.goto (-27), 3) := by decide +kernel
theorem dX6_lots_116 : decode cX6_lots 116 = .ok (.iinc 6 1, 3) := by decide +kernel
theorem dX6_lots_119 : decode cX6_lots 119 = .ok (.goto (-47), 3) := by decide +kernel
theorem dX6_lots_122 : decode cX6_lots 122 = .ok (.aload_n 0, 1) := by decide +kernel
theorem dX6_lots_123 : decode cX6_lots 123 = .ok (.aload_n 0, 1) := by decide +kernel
theorem dX6_lots_124 : decode cX6_lots 124 = .ok (.getfield 13, 3) := by decide +kernel
theorem dX6_lots_127 : decode cX6_lots 127 = .ok (.bipush 10, 2) := by decide +kernel
theorem dX6_lots_129 : decode cX6_lots 129 = .ok (.invokevirtual 124, 3) := by decide +kernel
theorem dX6_lots_132 : decode cX6_lots 132 = .ok (.istore 6, 2) := by decide +kernel
theorem dX6_lots_134 : decode cX6_lots 134 = .ok (.iload 4, 2) := by decide +kernel
theorem dX6_lots_136 : decode cX6_lots 136 = .ok (.iload_n 3, 1) := by decide +kernel
theorem dX6_lots_137 : decode cX6_lots 137 = .ok (.ifCond .ne 8, 3) := by decide +kernel
theorem dX6_lots_140 : decode cX6_lots 140 = .ok (.iload 6, 2) := by decide +kernel
theorem dX6_lots_142 : decode cX6_lots 142 = .ok (.goto 10, 3) := by decide +kernel
theorem dX6_lots_145 : decode cX6_lots 145 = .ok (.aload_n 0, 1) := by decide +kernel
theorem dX6_lots_146 : decode cX6_lots 146 = .ok (.getfield 13, 3) := by decide +kernel
theorem dX6_lots_149 : decode cX6_lots 149 = .ok (.invokestatic 182, 3) := by decide +kernel
theorem dX6_lots_152 : decode cX6_lots 152 = .ok (.iadd, 1) := by decide +kernel
theorem dX6_lots_153 : decode cX6_lots 153 = .ok (.istore 4, 2) := by decide +kernel
theorem dX6_lots_155 : decode cX6_lots 155 = .ok (.iinc 5 1, 3) := by decide +kernel
theorem dX6_lots_158 : decode cX6_lots 158 = .ok (.goto (-106), 3) := by decide +kernel
theorem dX6_lots_161 : decode cX6_lots 161 = .ok (.iload 4, 2) := by decide +kernel
theorem dX6_lots_163 : decode cX6_lots 163 = .ok (.ireturn, 1) := by decide +kernel
theorem dX6_image_0 : decode cX6_image 0 = .ok (.aload_n 0, 1) := by decide +kernel
theorem dX6_image_1 : decode cX6_image 1 = .ok (.getfield 9, 3) := by decide +kernel
theorem dX6_image_4 : decode cX6_image 4 = .ok (.aload_n 0, 1) := by decide +kernel
theorem dX6_image_5 : decode cX6_image 5 = .ok (.getfield 16, 3) := by decide +kernel
theorem dX6_image_8 : decode cX6_image 8 = .ok (.invokestatic 130, 3) := by decide +kernel
theorem dX6_image_11 : decode cX6_image 11 = .ok (.aload_n 0, 1) := by decide +kernel
theorem dX6_image_12 : decode cX6_image 12 = .ok (.iconst 1, 1) := by decide +kernel
theorem dX6_image_13 : decode cX6_image 13 = .ok (.putfield 197, 3) := by decide +kernel
theorem dX6_image_16 : decode cX6_image 16 = .ok (.aload_n 0, 1) := by decide +kernel
theorem dX6_image_17 : decode cX6_image 17 = .ok (.getfield 9, 3) := by decide +kernel
theorem dX6_image_20 : decode cX6_image 20 = .ok (.iconst 4, 1) := by decide +kernel
theorem dX6_image_21 : decode cX6_image 21 = .ok (.iaload, 1) := by decide +kernel
theorem dX6_image_22 : decode cX6_image 22 = .ok (.ireturn, 1) := by decide +kernel
theorem dX6_on_0 : decode cX6_on 0 = .ok (.aload_n 0, 1) := by decide +kernel
theorem dX6_on_1 : decode cX6_on 1 = .ok (.getfield 197, 3) := by decide +kernel
theorem dX6_on_4 : decode cX6_on 4 = .ok (.ifCond .ne 10, 3) := by decide +kernel
theorem dX6_on_7 : decode cX6_on 7 = .ok (.aload_n 0, 1) := by decide +kernel
theorem dX6_on_8 : decode cX6_on 8 = .ok (.bipush (-3), 2) := by decide +kernel
theorem dX6_on_10 : decode cX6_on 10 = .ok (.invokevirtual 48, 3) := by decide +kernel
theorem dX6_on_13 : decode cX6_on 13 = .ok (.ireturn, 1) := by decide +kernel
theorem dX6_on_14 : decode cX6_on 14 = .ok (.aload_n 0, 1) := by decide +kernel
theorem dX6_on_15 : decode cX6_on 15 = .ok (.getfield 16, 3) := by decide +kernel
theorem dX6_on_18 : decode cX6_on 18 = .ok (.aload_n 0, 1) := by decide +kernel
theorem dX6_on_19 : decode cX6_on 19 = .ok (.getfield 9, 3) := by decide +kernel
theorem dX6_on_22 : decode cX6_on 22 = .ok (.invokestatic 130, 3) := by decide +kernel
theorem dX6_on_25 : decode cX6_on 25 = .ok (.aload_n 0, 1) := by decide +kernel
theorem dX6_on_26 : decode cX6_on 26 = .ok (.getfield 9, 3) := by decide +kernel
theorem dX6_on_29 : decode cX6_on 29 = .ok (.iconst 4, 1) := by decide +kernel
theorem dX6_on_30 : decode cX6_on 30 = .ok (.iaload, 1) := by decide +kernel
theorem dX6_on_31 : decode cX6_on 31 = .ok (.ireturn, 1) := by decide +kernel
theorem dX6_count_0 : decode cX6_count 0 = .ok (.iload_n 1, 1) := by decide +kernel
theorem dX6_count_1 : decode cX6_count 1 = .ok (.bipush 11, 2) := by decide +kernel
theorem dX6_count_3 : decode cX6_count 3 = .ok (.bipush 16, 2) := by decide +kernel
theorem dX6_count_5 : decode cX6_count 5 = .ok (.invokestatic 52, 3) := by decide +kernel
theorem dX6_count_8 : decode cX6_count 8 = .ok (.ifCond .eq 13, 3) := by decide +kernel
theorem dX6_count_11 : decode cX6_count 11 = .ok (.aload_n 0, 1) := by decide +kernel
theorem dX6_count_12 : decode cX6_count 12 = .ok (.getfield 34, 3) := by decide +kernel
theorem dX6_count_15 : decode cX6_count 15 = .ok (.iload_n 1, 1) := by decide +kernel
theorem dX6_count_16 : decode cX6_count 16 = .ok (.bipush 10, 2) := by decide +kernel
theorem dX6_count_18 : decode cX6_count 18 = .ok (.isub, 1) := by decide +kernel
theorem dX6_count_19 : decode cX6_count 19 = .ok (.iaload, 1) := by decide +kernel
theorem dX6_count_20 : decode cX6_count 20 = .ok (.ireturn, 1) := by decide +kernel
theorem dX6_count_21 : decode cX6_count 21 = .ok (.iload_n 1, 1) := by decide +kernel
theorem dX6_count_22 : decode cX6_count 22 = .ok (.tableswitch 99 0 7 #[46, 53, 60, 67, 74, 81, 89, 94], 46) := by decide +kernel
theorem dX6_count_68 : decode cX6_count 68 = .ok (.aload_n 0, 1) := by decide +kernel
theorem dX6_count_69 : decode cX6_count 69 = .ok (.getfield 9, 3) := by decide +kernel
theorem dX6_count_72 : decode cX6_count 72 = .ok (.iconst 0, 1) := by decide +kernel
theorem dX6_count_73 : decode cX6_count 73 = .ok (.iaload, 1) := by decide +kernel
theorem dX6_count_74 : decode cX6_count 74 = .ok (.ireturn, 1) := by decide +kernel
theorem dX6_count_75 : decode cX6_count 75 = .ok (.aload_n 0, 1) := by decide +kernel
theorem dX6_count_76 : decode cX6_count 76 = .ok (.getfield 9, 3) := by decide +kernel
theorem dX6_count_79 : decode cX6_count 79 = .ok (.iconst 1, 1) := by decide +kernel
theorem dX6_count_80 : decode cX6_count 80 = .ok (.iaload, 1) := by decide +kernel
theorem dX6_count_81 : decode cX6_count 81 = .ok (.ireturn, 1) := by decide +kernel
theorem dX6_count_82 : decode cX6_count 82 = .ok (.aload_n 0, 1) := by decide +kernel
theorem dX6_count_83 : decode cX6_count 83 = .ok (.getfield 9, 3) := by decide +kernel
theorem dX6_count_86 : decode cX6_count 86 = .ok (.iconst 4, 1) := by decide +kernel
theorem dX6_count_87 : decode cX6_count 87 = .ok (.iaload, 1) := by decide +kernel
theorem dX6_count_88 : decode cX6_count 88 = .ok (.ireturn, 1) := by decide +kernel
theorem dX6_count_89 : decode cX6_count 89 = .ok (.aload_n 0, 1) := by decide +kernel
theorem dX6_count_90 : decode cX6_count 90 = .ok (.getfield 9, 3) := by decide +kernel
theorem dX6_count_93 : decode cX6_count 93 = .ok (.iconst 2, 1) := by decide +kernel
theorem dX6_count_94 : decode cX6_count 94 = .ok (.iaload, 1) := by decide +kernel
theorem dX6_count_95 : decode cX6_count 95 = .ok (.ireturn, 1) := by decide +kernel
theorem dX6_count_96 : decode cX6_count 96 = .ok (.aload_n 0, 1) := by decide +kernel
theorem dX6_count_97 : decode cX6_count 97 = .ok (.getfield 9, 3) := by decide +kernel
theorem dX6_count_100 : decode cX6_count 100 = .ok (.iconst 3, 1) := by decide +kernel
theorem dX6_count_101 : decode cX6_count 101 = .ok (.iaload, 1) := by decide +kernel
theorem dX6_count_102 : decode cX6_count 102 = .ok (.ireturn, 1) := by decide +kernel
theorem dX6_count_103 : decode cX6_count 103 = .ok (.aload_n 0, 1) := by decide +kernel
theorem dX6_count_104 : decode cX6_count 104 = .ok (.getfield 9, 3) := by decide +kernel
theorem dX6_count_107 : decode cX6_count 107 = .ok (.invokestatic 182, 3) := by decide +kernel
theorem dX6_count_110 : decode cX6_count 110 = .ok (.ireturn, 1) := by decide +kernel
theorem dX6_count_111 : decode cX6_count 111 = .ok (.aload_n 0, 1) := by decide +kernel
theorem dX6_count_112 : decode cX6_count 112 = .ok (.getfield 185, 3) := by decide +kernel
theorem dX6_count_115 : decode cX6_count 115 = .ok (.ireturn, 1) := by decide +kernel
theorem dX6_count_116 : decode cX6_count 116 = .ok (.aload_n 0, 1) := by decide +kernel
theorem dX6_count_117 : decode cX6_count 117 = .ok (.getfield 91, 3) := by decide +kernel
theorem dX6_count_120 : decode cX6_count 120 = .ok (.ireturn, 1) := by decide +kernel
theorem dX6_count_121 : decode cX6_count 121 = .ok (.bipush (-9), 2) := by decide +kernel
theorem dX6_count_123 : decode cX6_count 123 = .ok (.ireturn, 1) := by decide +kernel
theorem dL_law_0 : decode cL_law 0 = .ok (.new 7, 3) := by decide +kernel
theorem dL_law_3 : decode cL_law 3 = .ok (.dup, 1) := by decide +kernel
theorem dL_law_4 : decode cL_law 4 = .ok (.invokespecial 9, 3) := by decide +kernel
theorem dL_law_7 : decode cL_law 7 = .ok (.astore_n 1, 1) := by decide +kernel
theorem dL_law_8 : decode cL_law 8 = .ok (.new 10, 3) := by decide +kernel
theorem dL_law_11 : decode cL_law 11 = .ok (.dup, 1) := by decide +kernel
theorem dL_law_12 : decode cL_law 12 = .ok (.invokespecial 12, 3) := by decide +kernel
theorem dL_law_15 : decode cL_law 15 = .ok (.astore_n 2, 1) := by decide +kernel
theorem dL_law_16 : decode cL_law 16 = .ok (.iconst 0, 1) := by decide +kernel
theorem dL_law_17 : decode cL_law 17 = .ok (.istore_n 3, 1) := by decide +kernel
theorem dL_law_18 : decode cL_law 18 = .ok (.iload_n 3, 1) := by decide +kernel
theorem dL_law_19 : decode cL_law 19 = .ok (.aload_n 0, 1) := by decide +kernel
theorem dL_law_20 : decode cL_law 20 = .ok (.arraylength, 1) := by decide +kernel
theorem dL_law_21 : decode cL_law 21 = .ok (.iconst 5, 1) := by decide +kernel
theorem dL_law_22 : decode cL_law 22 = .ok (.isub, 1) := by decide +kernel
theorem dL_law_23 : decode cL_law 23 = .ok (.if_icmp .gt 1199, 3) := by decide +kernel
theorem dL_law_26 : decode cL_law 26 = .ok (.aload_n 0, 1) := by decide +kernel
theorem dL_law_27 : decode cL_law 27 = .ok (.iload_n 3, 1) := by decide +kernel
theorem dL_law_28 : decode cL_law 28 = .ok (.iaload, 1) := by decide +kernel
theorem dL_law_29 : decode cL_law 29 = .ok (.bipush 63, 2) := by decide +kernel
theorem dL_law_31 : decode cL_law 31 = .ok (.iand, 1) := by decide +kernel
theorem dL_law_32 : decode cL_law 32 = .ok (.tableswitch 1184 0 37 #[168, 191, 204, 237, 270, 303, 326, 369, 392, 425, 468, 491, 534, 577, 600, 613, 636, 669, 702, 725, 748, 771, 804, 817, 830, 853, 866, 879, 922, 976, 1000, 1043, 1066, 1079, 1092, 1135, 1148, 1161], 168) := by decide +kernel
theorem dL_law_200 : decode cL_law 200 = .ok (.aload_n 1, 1) := by decide +kernel
theorem dL_law_201 : decode cL_law 201 = .ok (.aload_n 0, 1) := by decide +kernel
theorem dL_law_202 : decode cL_law 202 = .ok (.iload_n 3, 1) := by decide +kernel
theorem dL_law_203 : decode cL_law 203 = .ok (.iconst 1, 1) := by decide +kernel
theorem dL_law_204 : decode cL_law 204 = .ok (.iadd, 1) := by decide +kernel
theorem dL_law_205 : decode cL_law 205 = .ok (.iaload, 1) := by decide +kernel
theorem dL_law_206 : decode cL_law 206 = .ok (.invokevirtual 13, 3) := by decide +kernel
theorem dL_law_209 : decode cL_law 209 = .ok (.aload_n 2, 1) := by decide +kernel
theorem dL_law_210 : decode cL_law 210 = .ok (.aload_n 0, 1) := by decide +kernel
theorem dL_law_211 : decode cL_law 211 = .ok (.iload_n 3, 1) := by decide +kernel
theorem dL_law_212 : decode cL_law 212 = .ok (.iconst 1, 1) := by decide +kernel
theorem dL_law_213 : decode cL_law 213 = .ok (.iadd, 1) := by decide +kernel
theorem dL_law_214 : decode cL_law 214 = .ok (.iaload, 1) := by decide +kernel
theorem dL_law_215 : decode cL_law 215 = .ok (.invokevirtual 17, 3) := by decide +kernel
theorem dL_law_218 : decode cL_law 218 = .ok (.if_icmp .eq 998, 3) := by decide +kernel
theorem dL_law_221 : decode cL_law 221 = .ok (.iconst 0, 1) := by decide +kernel
theorem dL_law_222 : decode cL_law 222 = .ok (.ireturn, 1) := by decide +kernel
theorem dL_law_223 : decode cL_law 223 = .ok (.aload_n 1, 1) := by decide +kernel
theorem dL_law_224 : decode cL_law 224 = .ok (.invokevirtual 18, 3) := by decide +kernel
theorem dL_law_227 : decode cL_law 227 = .ok (.aload_n 2, 1) := by decide +kernel
theorem dL_law_228 : decode cL_law 228 = .ok (.invokevirtual 22, 3) := by decide +kernel
theorem dL_law_231 : decode cL_law 231 = .ok (.if_icmp .eq 985, 3) := by decide +kernel
theorem dL_law_234 : decode cL_law 234 = .ok (.iconst 0, 1) := by decide +kernel
theorem dL_law_235 : decode cL_law 235 = .ok (.ireturn, 1) := by decide +kernel
theorem dL_law_236 : decode cL_law 236 = .ok (.aload_n 1, 1) := by decide +kernel
theorem dL_law_237 : decode cL_law 237 = .ok (.aload_n 0, 1) := by decide +kernel
theorem dL_law_238 : decode cL_law 238 = .ok (.iload_n 3, 1) := by decide +kernel
theorem dL_law_239 : decode cL_law 239 = .ok (.iconst 1, 1) := by decide +kernel
theorem dL_law_240 : decode cL_law 240 = .ok (.iadd, 1) := by decide +kernel
theorem dL_law_241 : decode cL_law 241 = .ok (.iaload, 1) := by decide +kernel
theorem dL_law_242 : decode cL_law 242 = .ok (.aload_n 0, 1) := by decide +kernel
theorem dL_law_243 : decode cL_law 243 = .ok (.iload_n 3, 1) := by decide +kernel
theorem dL_law_244 : decode cL_law 244 = .ok (.iconst 2, 1) := by decide +kernel
theorem dL_law_245 : decode cL_law 245 = .ok (.iadd, 1) := by decide +kernel
theorem dL_law_246 : decode cL_law 246 = .ok (.iaload, 1) := by decide +kernel
theorem dL_law_247 : decode cL_law 247 = .ok (.invokevirtual 23, 3) := by decide +kernel
theorem dL_law_250 : decode cL_law 250 = .ok (.aload_n 2, 1) := by decide +kernel
theorem dL_law_251 : decode cL_law 251 = .ok (.aload_n 0, 1) := by decide +kernel
theorem dL_law_252 : decode cL_law 252 = .ok (.iload_n 3, 1) := by decide +kernel
theorem dL_law_253 : decode cL_law 253 = .ok (.iconst 1, 1) := by decide +kernel
theorem dL_law_254 : decode cL_law 254 = .ok (.iadd, 1) := by decide +kernel
theorem dL_law_255 : decode cL_law 255 = .ok (.iaload, 1) := by decide +kernel
theorem dL_law_256 : decode cL_law 256 = .ok (.aload_n 0, 1) := by decide +kernel
theorem dL_law_257 : decode cL_law 257 = .ok (.iload_n 3, 1) := by decide +kernel
theorem dL_law_258 : decode cL_law 258 = .ok (.iconst 2, 1) := by decide +kernel
theorem dL_law_259 : decode cL_law 259 = .ok (.iadd, 1) := by decide +kernel
theorem dL_law_260 : decode cL_law 260 = .ok (.iaload, 1) := by decide +kernel
theorem dL_law_261 : decode cL_law 261 = .ok (.invokevirtual 27, 3) := by decide +kernel
theorem dL_law_264 : decode cL_law 264 = .ok (.if_icmp .eq 952, 3) := by decide +kernel
theorem dL_law_267 : decode cL_law 267 = .ok (.iconst 0, 1) := by decide +kernel
theorem dL_law_268 : decode cL_law 268 = .ok (.ireturn, 1) := by decide +kernel
theorem dL_law_269 : decode cL_law 269 = .ok (.aload_n 1, 1) := by decide +kernel
theorem dL_law_270 : decode cL_law 270 = .ok (.aload_n 0, 1) := by decide +kernel
theorem dL_law_271 : decode cL_law 271 = .ok (.iload_n 3, 1) := by decide +kernel
theorem dL_law_272 : decode cL_law 272 = .ok (.iconst 1, 1) := by decide +kernel
theorem dL_law_273 : decode cL_law 273 = .ok (.iadd, 1) := by decide +kernel
theorem dL_law_274 : decode cL_law 274 = .ok (.iaload, 1) := by decide +kernel
theorem dL_law_275 : decode cL_law 275 = .ok (.aload_n 0, 1) := by decide +kernel
theorem dL_law_276 : decode cL_law 276 = .ok (.iload_n 3, 1) := by decide +kernel
theorem dL_law_277 : decode cL_law 277 = .ok (.iconst 2, 1) := by decide +kernel
theorem dL_law_278 : decode cL_law 278 = .ok (.iadd, 1) := by decide +kernel
theorem dL_law_279 : decode cL_law 279 = .ok (.iaload, 1) := by decide +kernel
theorem dL_law_280 : decode cL_law 280 = .ok (.invokevirtual 28, 3) := by decide +kernel
theorem dL_law_283 : decode cL_law 283 = .ok (.aload_n 2, 1) := by decide +kernel
theorem dL_law_284 : decode cL_law 284 = .ok (.aload_n 0, 1) := by decide +kernel
theorem dL_law_285 : decode cL_law 285 = .ok (.iload_n 3, 1) := by decide +kernel
theorem dL_law_286 : decode cL_law 286 = .ok (.iconst 1, 1) := by decide +kernel
theorem dL_law_287 : decode cL_law 287 = .ok (.iadd, 1) := by decide +kernel
theorem dL_law_288 : decode cL_law 288 = .ok (.iaload, 1) := by decide +kernel
theorem dL_law_289 : decode cL_law 289 = .ok (.aload_n 0, 1) := by decide +kernel
theorem dL_law_290 : decode cL_law 290 = .ok (.iload_n 3, 1) := by decide +kernel
theorem dL_law_291 : decode cL_law 291 = .ok (.iconst 2, 1) := by decide +kernel
theorem dL_law_292 : decode cL_law 292 = .ok (.iadd, 1) := by decide +kernel
theorem dL_law_293 : decode cL_law 293 = .ok (.iaload, 1) := by decide +kernel
theorem dL_law_294 : decode cL_law 294 = .ok (.invokevirtual 31, 3) := by decide +kernel
theorem dL_law_297 : decode cL_law 297 = .ok (.if_icmp .eq 919, 3) := by decide +kernel
theorem dL_law_300 : decode cL_law 300 = .ok (.iconst 0, 1) := by decide +kernel
theorem dL_law_301 : decode cL_law 301 = .ok (.ireturn, 1) := by decide +kernel
theorem dL_law_302 : decode cL_law 302 = .ok (.aload_n 1, 1) := by decide +kernel
theorem dL_law_303 : decode cL_law 303 = .ok (.aload_n 0, 1) := by decide +kernel
theorem dL_law_304 : decode cL_law 304 = .ok (.iload_n 3, 1) := by decide +kernel
theorem dL_law_305 : decode cL_law 305 = .ok (.iconst 1, 1) := by decide +kernel
theorem dL_law_306 : decode cL_law 306 = .ok (.iadd, 1) := by decide +kernel
theorem dL_law_307 : decode cL_law 307 = .ok (.iaload, 1) := by decide +kernel
theorem dL_law_308 : decode cL_law 308 = .ok (.aload_n 0, 1) := by decide +kernel
theorem dL_law_309 : decode cL_law 309 = .ok (.iload_n 3, 1) := by decide +kernel
theorem dL_law_310 : decode cL_law 310 = .ok (.iconst 2, 1) := by decide +kernel
theorem dL_law_311 : decode cL_law 311 = .ok (.iadd, 1) := by decide +kernel
theorem dL_law_312 : decode cL_law 312 = .ok (.iaload, 1) := by decide +kernel
theorem dL_law_313 : decode cL_law 313 = .ok (.invokevirtual 32, 3) := by decide +kernel
theorem dL_law_316 : decode cL_law 316 = .ok (.aload_n 2, 1) := by decide +kernel
theorem dL_law_317 : decode cL_law 317 = .ok (.aload_n 0, 1) := by decide +kernel
theorem dL_law_318 : decode cL_law 318 = .ok (.iload_n 3, 1) := by decide +kernel
theorem dL_law_319 : decode cL_law 319 = .ok (.iconst 1, 1) := by decide +kernel
theorem dL_law_320 : decode cL_law 320 = .ok (.iadd, 1) := by decide +kernel
theorem dL_law_321 : decode cL_law 321 = .ok (.iaload, 1) := by decide +kernel
theorem dL_law_322 : decode cL_law 322 = .ok (.aload_n 0, 1) := by decide +kernel
theorem dL_law_323 : decode cL_law 323 = .ok (.iload_n 3, 1) := by decide +kernel
theorem dL_law_324 : decode cL_law 324 = .ok (.iconst 2, 1) := by decide +kernel
theorem dL_law_325 : decode cL_law 325 = .ok (.iadd, 1) := by decide +kernel
theorem dL_law_326 : decode cL_law 326 = .ok (.iaload, 1) := by decide +kernel
theorem dL_law_327 : decode cL_law 327 = .ok (.invokevirtual 35, 3) := by decide +kernel
theorem dL_law_330 : decode cL_law 330 = .ok (.if_icmp .eq 886, 3) := by decide +kernel
theorem dL_law_333 : decode cL_law 333 = .ok (.iconst 0, 1) := by decide +kernel
theorem dL_law_334 : decode cL_law 334 = .ok (.ireturn, 1) := by decide +kernel
theorem dL_law_335 : decode cL_law 335 = .ok (.aload_n 1, 1) := by decide +kernel
theorem dL_law_336 : decode cL_law 336 = .ok (.aload_n 0, 1) := by decide +kernel
theorem dL_law_337 : decode cL_law 337 = .ok (.iload_n 3, 1) := by decide +kernel
theorem dL_law_338 : decode cL_law 338 = .ok (.iconst 1, 1) := by decide +kernel
theorem dL_law_339 : decode cL_law 339 = .ok (.iadd, 1) := by decide +kernel
theorem dL_law_340 : decode cL_law 340 = .ok (.iaload, 1) := by decide +kernel
theorem dL_law_341 : decode cL_law 341 = .ok (.invokevirtual 36, 3) := by decide +kernel
theorem dL_law_344 : decode cL_law 344 = .ok (.aload_n 2, 1) := by decide +kernel
theorem dL_law_345 : decode cL_law 345 = .ok (.aload_n 0, 1) := by decide +kernel
theorem dL_law_346 : decode cL_law 346 = .ok (.iload_n 3, 1) := by decide +kernel
theorem dL_law_347 : decode cL_law 347 = .ok (.iconst 1, 1) := by decide +kernel
theorem dL_law_348 : decode cL_law 348 = .ok (.iadd, 1) := by decide +kernel
theorem dL_law_349 : decode cL_law 349 = .ok (.iaload, 1) := by decide +kernel
theorem dL_law_350 : decode cL_law 350 = .ok (.invokevirtual 39, 3) := by decide +kernel
theorem dL_law_353 : decode cL_law 353 = .ok (.if_icmp .eq 863, 3) := by decide +kernel
theorem dL_law_356 : decode cL_law 356 = .ok (.iconst 0, 1) := by decide +kernel
theorem dL_law_357 : decode cL_law 357 = .ok (.ireturn, 1) := by decide +kernel
theorem dL_law_358 : decode cL_law 358 = .ok (.aload_n 1, 1) := by decide +kernel
theorem dL_law_359 : decode cL_law 359 = .ok (.aload_n 0, 1) := by decide +kernel
theorem dL_law_360 : decode cL_law 360 = .ok (.iload_n 3, 1) := by decide +kernel
theorem dL_law_361 : decode cL_law 361 = .ok (.iconst 1, 1) := by decide +kernel
theorem dL_law_362 : decode cL_law 362 = .ok (.iadd, 1) := by decide +kernel
theorem dL_law_363 : decode cL_law 363 = .ok (.iaload, 1) := by decide +kernel
theorem dL_law_364 : decode cL_law 364 = .ok (.aload_n 0, 1) := by decide +kernel
theorem dL_law_365 : decode cL_law 365 = .ok (.iload_n 3, 1) := by decide +kernel
theorem dL_law_366 : decode cL_law 366 = .ok (.iconst 2, 1) := by decide +kernel
theorem dL_law_367 : decode cL_law 367 = .ok (.iadd, 1) := by decide +kernel
theorem dL_law_368 : decode cL_law 368 = .ok (.iaload, 1) := by decide +kernel
theorem dL_law_369 : decode cL_law 369 = .ok (.aload_n 0, 1) := by decide +kernel
theorem dL_law_370 : decode cL_law 370 = .ok (.iload_n 3, 1) := by decide +kernel
theorem dL_law_371 : decode cL_law 371 = .ok (.iconst 3, 1) := by decide +kernel
theorem dL_law_372 : decode cL_law 372 = .ok (.iadd, 1) := by decide +kernel
theorem dL_law_373 : decode cL_law 373 = .ok (.iaload, 1) := by decide +kernel
theorem dL_law_374 : decode cL_law 374 = .ok (.invokevirtual 40, 3) := by decide +kernel
theorem dL_law_377 : decode cL_law 377 = .ok (.aload_n 2, 1) := by decide +kernel
theorem dL_law_378 : decode cL_law 378 = .ok (.aload_n 0, 1) := by decide +kernel
theorem dL_law_379 : decode cL_law 379 = .ok (.iload_n 3, 1) := by decide +kernel
theorem dL_law_380 : decode cL_law 380 = .ok (.iconst 1, 1) := by decide +kernel
theorem dL_law_381 : decode cL_law 381 = .ok (.iadd, 1) := by decide +kernel
theorem dL_law_382 : decode cL_law 382 = .ok (.iaload, 1) := by decide +kernel
theorem dL_law_383 : decode cL_law 383 = .ok (.aload_n 0, 1) := by decide +kernel
theorem dL_law_384 : decode cL_law 384 = .ok (.iload_n 3, 1) := by decide +kernel
theorem dL_law_385 : decode cL_law 385 = .ok (.iconst 2, 1) := by decide +kernel
theorem dL_law_386 : decode cL_law 386 = .ok (.iadd, 1) := by decide +kernel
theorem dL_law_387 : decode cL_law 387 = .ok (.iaload, 1) := by decide +kernel
theorem dL_law_388 : decode cL_law 388 = .ok (.aload_n 0, 1) := by decide +kernel
theorem dL_law_389 : decode cL_law 389 = .ok (.iload_n 3, 1) := by decide +kernel
theorem dL_law_390 : decode cL_law 390 = .ok (.iconst 3, 1) := by decide +kernel
theorem dL_law_391 : decode cL_law 391 = .ok (.iadd, 1) := by decide +kernel
theorem dL_law_392 : decode cL_law 392 = .ok (.iaload, 1) := by decide +kernel
theorem dL_law_393 : decode cL_law 393 = .ok (.invokevirtual 44, 3) := by decide +kernel
theorem dL_law_396 : decode cL_law 396 = .ok (.if_icmp .eq 820, 3) := by decide +kernel
theorem dL_law_399 : decode cL_law 399 = .ok (.iconst 0, 1) := by decide +kernel
theorem dL_law_400 : decode cL_law 400 = .ok (.ireturn, 1) := by decide +kernel
theorem dL_law_401 : decode cL_law 401 = .ok (.aload_n 1, 1) := by decide +kernel
theorem dL_law_402 : decode cL_law 402 = .ok (.aload_n 0, 1) := by decide +kernel
theorem dL_law_403 : decode cL_law 403 = .ok (.iload_n 3, 1) := by decide +kernel
theorem dL_law_404 : decode cL_law 404 = .ok (.iconst 1, 1) := by decide +kernel
theorem dL_law_405 : decode cL_law 405 = .ok (.iadd, 1) := by decide +kernel
theorem dL_law_406 : decode cL_law 406 = .ok (.iaload, 1) := by decide +kernel
theorem dL_law_407 : decode cL_law 407 = .ok (.invokevirtual 45, 3) := by decide +kernel
theorem dL_law_410 : decode cL_law 410 = .ok (.aload_n 2, 1) := by decide +kernel
theorem dL_law_411 : decode cL_law 411 = .ok (.aload_n 0, 1) := by decide +kernel
theorem dL_law_412 : decode cL_law 412 = .ok (.iload_n 3, 1) := by decide +kernel
theorem dL_law_413 : decode cL_law 413 = .ok (.iconst 1, 1) := by decide +kernel
theorem dL_law_414 : decode cL_law 414 = .ok (.iadd, 1) := by decide +kernel
theorem dL_law_415 : decode cL_law 415 = .ok (.iaload, 1) := by decide +kernel
theorem dL_law_416 : decode cL_law 416 = .ok (.invokevirtual 48, 3) := by decide +kernel
theorem dL_law_419 : decode cL_law 419 = .ok (.if_icmp .eq 797, 3) := by decide +kernel
theorem dL_law_422 : decode cL_law 422 = .ok (.iconst 0, 1) := by decide +kernel
theorem dL_law_423 : decode cL_law 423 = .ok (.ireturn, 1) := by decide +kernel
theorem dL_law_424 : decode cL_law 424 = .ok (.aload_n 1, 1) := by decide +kernel
theorem dL_law_425 : decode cL_law 425 = .ok (.aload_n 0, 1) := by decide +kernel
theorem dL_law_426 : decode cL_law 426 = .ok (.iload_n 3, 1) := by decide +kernel
theorem dL_law_427 : decode cL_law 427 = .ok (.iconst 1, 1) := by decide +kernel
theorem dL_law_428 : decode cL_law 428 = .ok (.iadd, 1) := by decide +kernel
theorem dL_law_429 : decode cL_law 429 = .ok (.iaload, 1) := by decide +kernel
theorem dL_law_430 : decode cL_law 430 = .ok (.aload_n 0, 1) := by decide +kernel
theorem dL_law_431 : decode cL_law 431 = .ok (.iload_n 3, 1) := by decide +kernel
theorem dL_law_432 : decode cL_law 432 = .ok (.iconst 2, 1) := by decide +kernel
theorem dL_law_433 : decode cL_law 433 = .ok (.iadd, 1) := by decide +kernel
theorem dL_law_434 : decode cL_law 434 = .ok (.iaload, 1) := by decide +kernel
theorem dL_law_435 : decode cL_law 435 = .ok (.invokevirtual 49, 3) := by decide +kernel
theorem dL_law_438 : decode cL_law 438 = .ok (.aload_n 2, 1) := by decide +kernel
theorem dL_law_439 : decode cL_law 439 = .ok (.aload_n 0, 1) := by decide +kernel
theorem dL_law_440 : decode cL_law 440 = .ok (.iload_n 3, 1) := by decide +kernel
theorem dL_law_441 : decode cL_law 441 = .ok (.iconst 1, 1) := by decide +kernel
theorem dL_law_442 : decode cL_law 442 = .ok (.iadd, 1) := by decide +kernel
theorem dL_law_443 : decode cL_law 443 = .ok (.iaload, 1) := by decide +kernel
theorem dL_law_444 : decode cL_law 444 = .ok (.aload_n 0, 1) := by decide +kernel
theorem dL_law_445 : decode cL_law 445 = .ok (.iload_n 3, 1) := by decide +kernel
theorem dL_law_446 : decode cL_law 446 = .ok (.iconst 2, 1) := by decide +kernel
theorem dL_law_447 : decode cL_law 447 = .ok (.iadd, 1) := by decide +kernel
theorem dL_law_448 : decode cL_law 448 = .ok (.iaload, 1) := by decide +kernel
theorem dL_law_449 : decode cL_law 449 = .ok (.invokevirtual 52, 3) := by decide +kernel
theorem dL_law_452 : decode cL_law 452 = .ok (.if_icmp .eq 764, 3) := by decide +kernel
theorem dL_law_455 : decode cL_law 455 = .ok (.iconst 0, 1) := by decide +kernel
theorem dL_law_456 : decode cL_law 456 = .ok (.ireturn, 1) := by decide +kernel
theorem dL_law_457 : decode cL_law 457 = .ok (.aload_n 1, 1) := by decide +kernel
theorem dL_law_458 : decode cL_law 458 = .ok (.aload_n 0, 1) := by decide +kernel
theorem dL_law_459 : decode cL_law 459 = .ok (.iload_n 3, 1) := by decide +kernel
theorem dL_law_460 : decode cL_law 460 = .ok (.iconst 1, 1) := by decide +kernel
theorem dL_law_461 : decode cL_law 461 = .ok (.iadd, 1) := by decide +kernel
theorem dL_law_462 : decode cL_law 462 = .ok (.iaload, 1) := by decide +kernel
theorem dL_law_463 : decode cL_law 463 = .ok (.aload_n 0, 1) := by decide +kernel
theorem dL_law_464 : decode cL_law 464 = .ok (.iload_n 3, 1) := by decide +kernel
theorem dL_law_465 : decode cL_law 465 = .ok (.iconst 2, 1) := by decide +kernel
theorem dL_law_466 : decode cL_law 466 = .ok (.iadd, 1) := by decide +kernel
theorem dL_law_467 : decode cL_law 467 = .ok (.iaload, 1) := by decide +kernel
theorem dL_law_468 : decode cL_law 468 = .ok (.aload_n 0, 1) := by decide +kernel
theorem dL_law_469 : decode cL_law 469 = .ok (.iload_n 3, 1) := by decide +kernel
theorem dL_law_470 : decode cL_law 470 = .ok (.iconst 3, 1) := by decide +kernel
theorem dL_law_471 : decode cL_law 471 = .ok (.iadd, 1) := by decide +kernel
theorem dL_law_472 : decode cL_law 472 = .ok (.iaload, 1) := by decide +kernel
theorem dL_law_473 : decode cL_law 473 = .ok (.invokevirtual 53, 3) := by decide +kernel
theorem dL_law_476 : decode cL_law 476 = .ok (.aload_n 2, 1) := by decide +kernel
theorem dL_law_477 : decode cL_law 477 = .ok (.aload_n 0, 1) := by decide +kernel
theorem dL_law_478 : decode cL_law 478 = .ok (.iload_n 3, 1) := by decide +kernel
theorem dL_law_479 : decode cL_law 479 = .ok (.iconst 1, 1) := by decide +kernel
theorem dL_law_480 : decode cL_law 480 = .ok (.iadd, 1) := by decide +kernel
theorem dL_law_481 : decode cL_law 481 = .ok (.iaload, 1) := by decide +kernel
theorem dL_law_482 : decode cL_law 482 = .ok (.aload_n 0, 1) := by decide +kernel
theorem dL_law_483 : decode cL_law 483 = .ok (.iload_n 3, 1) := by decide +kernel
theorem dL_law_484 : decode cL_law 484 = .ok (.iconst 2, 1) := by decide +kernel
theorem dL_law_485 : decode cL_law 485 = .ok (.iadd, 1) := by decide +kernel
theorem dL_law_486 : decode cL_law 486 = .ok (.iaload, 1) := by decide +kernel
theorem dL_law_487 : decode cL_law 487 = .ok (.aload_n 0, 1) := by decide +kernel
theorem dL_law_488 : decode cL_law 488 = .ok (.iload_n 3, 1) := by decide +kernel
theorem dL_law_489 : decode cL_law 489 = .ok (.iconst 3, 1) := by decide +kernel
theorem dL_law_490 : decode cL_law 490 = .ok (.iadd, 1) := by decide +kernel
theorem dL_law_491 : decode cL_law 491 = .ok (.iaload, 1) := by decide +kernel
theorem dL_law_492 : decode cL_law 492 = .ok (.invokevirtual 56, 3) := by decide +kernel
theorem dL_law_495 : decode cL_law 495 = .ok (.if_icmp .eq 721, 3) := by decide +kernel
theorem dL_law_498 : decode cL_law 498 = .ok (.iconst 0, 1) := by decide +kernel
theorem dL_law_499 : decode cL_law 499 = .ok (.ireturn, 1) := by decide +kernel
theorem dL_law_500 : decode cL_law 500 = .ok (.aload_n 1, 1) := by decide +kernel
theorem dL_law_501 : decode cL_law 501 = .ok (.aload_n 0, 1) := by decide +kernel
theorem dL_law_502 : decode cL_law 502 = .ok (.iload_n 3, 1) := by decide +kernel
theorem dL_law_503 : decode cL_law 503 = .ok (.iconst 1, 1) := by decide +kernel
theorem dL_law_504 : decode cL_law 504 = .ok (.iadd, 1) := by decide +kernel
theorem dL_law_505 : decode cL_law 505 = .ok (.iaload, 1) := by decide +kernel
theorem dL_law_506 : decode cL_law 506 = .ok (.invokevirtual 57, 3) := by decide +kernel
theorem dL_law_509 : decode cL_law 509 = .ok (.aload_n 2, 1) := by decide +kernel
theorem dL_law_510 : decode cL_law 510 = .ok (.aload_n 0, 1) := by decide +kernel
theorem dL_law_511 : decode cL_law 511 = .ok (.iload_n 3, 1) := by decide +kernel
theorem dL_law_512 : decode cL_law 512 = .ok (.iconst 1, 1) := by decide +kernel
theorem dL_law_513 : decode cL_law 513 = .ok (.iadd, 1) := by decide +kernel
theorem dL_law_514 : decode cL_law 514 = .ok (.iaload, 1) := by decide +kernel
theorem dL_law_515 : decode cL_law 515 = .ok (.invokevirtual 60, 3) := by decide +kernel
theorem dL_law_518 : decode cL_law 518 = .ok (.if_icmp .eq 698, 3) := by decide +kernel
theorem dL_law_521 : decode cL_law 521 = .ok (.iconst 0, 1) := by decide +kernel
theorem dL_law_522 : decode cL_law 522 = .ok (.ireturn, 1) := by decide +kernel
theorem dL_law_523 : decode cL_law 523 = .ok (.aload_n 1, 1) := by decide +kernel
theorem dL_law_524 : decode cL_law 524 = .ok (.aload_n 0, 1) := by decide +kernel
theorem dL_law_525 : decode cL_law 525 = .ok (.iload_n 3, 1) := by decide +kernel
theorem dL_law_526 : decode cL_law 526 = .ok (.iconst 1, 1) := by decide +kernel
theorem dL_law_527 : decode cL_law 527 = .ok (.iadd, 1) := by decide +kernel
theorem dL_law_528 : decode cL_law 528 = .ok (.iaload, 1) := by decide +kernel
theorem dL_law_529 : decode cL_law 529 = .ok (.aload_n 0, 1) := by decide +kernel
theorem dL_law_530 : decode cL_law 530 = .ok (.iload_n 3, 1) := by decide +kernel
theorem dL_law_531 : decode cL_law 531 = .ok (.iconst 2, 1) := by decide +kernel
theorem dL_law_532 : decode cL_law 532 = .ok (.iadd, 1) := by decide +kernel
theorem dL_law_533 : decode cL_law 533 = .ok (.iaload, 1) := by decide +kernel
theorem dL_law_534 : decode cL_law 534 = .ok (.aload_n 0, 1) := by decide +kernel
theorem dL_law_535 : decode cL_law 535 = .ok (.iload_n 3, 1) := by decide +kernel
theorem dL_law_536 : decode cL_law 536 = .ok (.iconst 3, 1) := by decide +kernel
theorem dL_law_537 : decode cL_law 537 = .ok (.iadd, 1) := by decide +kernel
theorem dL_law_538 : decode cL_law 538 = .ok (.iaload, 1) := by decide +kernel
theorem dL_law_539 : decode cL_law 539 = .ok (.invokevirtual 61, 3) := by decide +kernel
theorem dL_law_542 : decode cL_law 542 = .ok (.aload_n 2, 1) := by decide +kernel
theorem dL_law_543 : decode cL_law 543 = .ok (.aload_n 0, 1) := by decide +kernel
theorem dL_law_544 : decode cL_law 544 = .ok (.iload_n 3, 1) := by decide +kernel
theorem dL_law_545 : decode cL_law 545 = .ok (.iconst 1, 1) := by decide +kernel
theorem dL_law_546 : decode cL_law 546 = .ok (.iadd, 1) := by decide +kernel
theorem dL_law_547 : decode cL_law 547 = .ok (.iaload, 1) := by decide +kernel
theorem dL_law_548 : decode cL_law 548 = .ok (.aload_n 0, 1) := by decide +kernel
theorem dL_law_549 : decode cL_law 549 = .ok (.iload_n 3, 1) := by decide +kernel
theorem dL_law_550 : decode cL_law 550 = .ok (.iconst 2, 1) := by decide +kernel
theorem dL_law_551 : decode cL_law 551 = .ok (.iadd, 1) := by decide +kernel
theorem dL_law_552 : decode cL_law 552 = .ok (.iaload, 1) := by decide +kernel
theorem dL_law_553 : decode cL_law 553 = .ok (.aload_n 0, 1) := by decide +kernel
theorem dL_law_554 : decode cL_law 554 = .ok (.iload_n 3, 1) := by decide +kernel
theorem dL_law_555 : decode cL_law 555 = .ok (.iconst 3, 1) := by decide +kernel
theorem dL_law_556 : decode cL_law 556 = .ok (.iadd, 1) := by decide +kernel
theorem dL_law_557 : decode cL_law 557 = .ok (.iaload, 1) := by decide +kernel
theorem dL_law_558 : decode cL_law 558 = .ok (.invokevirtual 64, 3) := by decide +kernel
theorem dL_law_561 : decode cL_law 561 = .ok (.if_icmp .eq 655, 3) := by decide +kernel
theorem dL_law_564 : decode cL_law 564 = .ok (.iconst 0, 1) := by decide +kernel
theorem dL_law_565 : decode cL_law 565 = .ok (.ireturn, 1) := by decide +kernel
theorem dL_law_566 : decode cL_law 566 = .ok (.aload_n 1, 1) := by decide +kernel
theorem dL_law_567 : decode cL_law 567 = .ok (.aload_n 0, 1) := by decide +kernel
theorem dL_law_568 : decode cL_law 568 = .ok (.iload_n 3, 1) := by decide +kernel
theorem dL_law_569 : decode cL_law 569 = .ok (.iconst 1, 1) := by decide +kernel
theorem dL_law_570 : decode cL_law 570 = .ok (.iadd, 1) := by decide +kernel
theorem dL_law_571 : decode cL_law 571 = .ok (.iaload, 1) := by decide +kernel
theorem dL_law_572 : decode cL_law 572 = .ok (.aload_n 0, 1) := by decide +kernel
theorem dL_law_573 : decode cL_law 573 = .ok (.iload_n 3, 1) := by decide +kernel
theorem dL_law_574 : decode cL_law 574 = .ok (.iconst 2, 1) := by decide +kernel
theorem dL_law_575 : decode cL_law 575 = .ok (.iadd, 1) := by decide +kernel
theorem dL_law_576 : decode cL_law 576 = .ok (.iaload, 1) := by decide +kernel
theorem dL_law_577 : decode cL_law 577 = .ok (.aload_n 0, 1) := by decide +kernel
theorem dL_law_578 : decode cL_law 578 = .ok (.iload_n 3, 1) := by decide +kernel
theorem dL_law_579 : decode cL_law 579 = .ok (.iconst 3, 1) := by decide +kernel
theorem dL_law_580 : decode cL_law 580 = .ok (.iadd, 1) := by decide +kernel
theorem dL_law_581 : decode cL_law 581 = .ok (.iaload, 1) := by decide +kernel
theorem dL_law_582 : decode cL_law 582 = .ok (.invokevirtual 65, 3) := by decide +kernel
theorem dL_law_585 : decode cL_law 585 = .ok (.aload_n 2, 1) := by decide +kernel
theorem dL_law_586 : decode cL_law 586 = .ok (.aload_n 0, 1) := by decide +kernel
theorem dL_law_587 : decode cL_law 587 = .ok (.iload_n 3, 1) := by decide +kernel
theorem dL_law_588 : decode cL_law 588 = .ok (.iconst 1, 1) := by decide +kernel
theorem dL_law_589 : decode cL_law 589 = .ok (.iadd, 1) := by decide +kernel
theorem dL_law_590 : decode cL_law 590 = .ok (.iaload, 1) := by decide +kernel
theorem dL_law_591 : decode cL_law 591 = .ok (.aload_n 0, 1) := by decide +kernel
theorem dL_law_592 : decode cL_law 592 = .ok (.iload_n 3, 1) := by decide +kernel
theorem dL_law_593 : decode cL_law 593 = .ok (.iconst 2, 1) := by decide +kernel
theorem dL_law_594 : decode cL_law 594 = .ok (.iadd, 1) := by decide +kernel
theorem dL_law_595 : decode cL_law 595 = .ok (.iaload, 1) := by decide +kernel
theorem dL_law_596 : decode cL_law 596 = .ok (.aload_n 0, 1) := by decide +kernel
theorem dL_law_597 : decode cL_law 597 = .ok (.iload_n 3, 1) := by decide +kernel
theorem dL_law_598 : decode cL_law 598 = .ok (.iconst 3, 1) := by decide +kernel
theorem dL_law_599 : decode cL_law 599 = .ok (.iadd, 1) := by decide +kernel
theorem dL_law_600 : decode cL_law 600 = .ok (.iaload, 1) := by decide +kernel
theorem dL_law_601 : decode cL_law 601 = .ok (.invokevirtual 68, 3) := by decide +kernel
theorem dL_law_604 : decode cL_law 604 = .ok (.if_icmp .eq 612, 3) := by decide +kernel
theorem dL_law_607 : decode cL_law 607 = .ok (.iconst 0, 1) := by decide +kernel
theorem dL_law_608 : decode cL_law 608 = .ok (.ireturn, 1) := by decide +kernel
theorem dL_law_609 : decode cL_law 609 = .ok (.aload_n 1, 1) := by decide +kernel
theorem dL_law_610 : decode cL_law 610 = .ok (.aload_n 0, 1) := by decide +kernel
theorem dL_law_611 : decode cL_law 611 = .ok (.iload_n 3, 1) := by decide +kernel
theorem dL_law_612 : decode cL_law 612 = .ok (.iconst 1, 1) := by decide +kernel
theorem dL_law_613 : decode cL_law 613 = .ok (.iadd, 1) := by decide +kernel
theorem dL_law_614 : decode cL_law 614 = .ok (.iaload, 1) := by decide +kernel
theorem dL_law_615 : decode cL_law 615 = .ok (.invokevirtual 69, 3) := by decide +kernel
theorem dL_law_618 : decode cL_law 618 = .ok (.aload_n 2, 1) := by decide +kernel
theorem dL_law_619 : decode cL_law 619 = .ok (.aload_n 0, 1) := by decide +kernel
theorem dL_law_620 : decode cL_law 620 = .ok (.iload_n 3, 1) := by decide +kernel
theorem dL_law_621 : decode cL_law 621 = .ok (.iconst 1, 1) := by decide +kernel
theorem dL_law_622 : decode cL_law 622 = .ok (.iadd, 1) := by decide +kernel
theorem dL_law_623 : decode cL_law 623 = .ok (.iaload, 1) := by decide +kernel
theorem dL_law_624 : decode cL_law 624 = .ok (.invokevirtual 72, 3) := by decide +kernel
theorem dL_law_627 : decode cL_law 627 = .ok (.if_icmp .eq 589, 3) := by decide +kernel
theorem dL_law_630 : decode cL_law 630 = .ok (.iconst 0, 1) := by decide +kernel
theorem dL_law_631 : decode cL_law 631 = .ok (.ireturn, 1) := by decide +kernel
theorem dL_law_632 : decode cL_law 632 = .ok (.aload_n 1, 1) := by decide +kernel
theorem dL_law_633 : decode cL_law 633 = .ok (.invokevirtual 73, 3) := by decide +kernel
theorem dL_law_636 : decode cL_law 636 = .ok (.aload_n 2, 1) := by decide +kernel
theorem dL_law_637 : decode cL_law 637 = .ok (.invokevirtual 76, 3) := by decide +kernel
theorem dL_law_640 : decode cL_law 640 = .ok (.if_icmp .eq 576, 3) := by decide +kernel
theorem dL_law_643 : decode cL_law 643 = .ok (.iconst 0, 1) := by decide +kernel
theorem dL_law_644 : decode cL_law 644 = .ok (.ireturn, 1) := by decide +kernel
theorem dL_law_645 : decode cL_law 645 = .ok (.aload_n 1, 1) := by decide +kernel
theorem dL_law_646 : decode cL_law 646 = .ok (.aload_n 0, 1) := by decide +kernel
theorem dL_law_647 : decode cL_law 647 = .ok (.iload_n 3, 1) := by decide +kernel
theorem dL_law_648 : decode cL_law 648 = .ok (.iconst 1, 1) := by decide +kernel
theorem dL_law_649 : decode cL_law 649 = .ok (.iadd, 1) := by decide +kernel
theorem dL_law_650 : decode cL_law 650 = .ok (.iaload, 1) := by decide +kernel
theorem dL_law_651 : decode cL_law 651 = .ok (.invokevirtual 77, 3) := by decide +kernel
theorem dL_law_654 : decode cL_law 654 = .ok (.aload_n 2, 1) := by decide +kernel
theorem dL_law_655 : decode cL_law 655 = .ok (.aload_n 0, 1) := by decide +kernel
theorem dL_law_656 : decode cL_law 656 = .ok (.iload_n 3, 1) := by decide +kernel
theorem dL_law_657 : decode cL_law 657 = .ok (.iconst 1, 1) := by decide +kernel
theorem dL_law_658 : decode cL_law 658 = .ok (.iadd, 1) := by decide +kernel
theorem dL_law_659 : decode cL_law 659 = .ok (.iaload, 1) := by decide +kernel
theorem dL_law_660 : decode cL_law 660 = .ok (.invokevirtual 80, 3) := by decide +kernel
theorem dL_law_663 : decode cL_law 663 = .ok (.if_icmp .eq 553, 3) := by decide +kernel
theorem dL_law_666 : decode cL_law 666 = .ok (.iconst 0, 1) := by decide +kernel
theorem dL_law_667 : decode cL_law 667 = .ok (.ireturn, 1) := by decide +kernel
theorem dL_law_668 : decode cL_law 668 = .ok (.aload_n 1, 1) := by decide +kernel
theorem dL_law_669 : decode cL_law 669 = .ok (.aload_n 0, 1) := by decide +kernel
theorem dL_law_670 : decode cL_law 670 = .ok (.iload_n 3, 1) := by decide +kernel
theorem dL_law_671 : decode cL_law 671 = .ok (.iconst 1, 1) := by decide +kernel
theorem dL_law_672 : decode cL_law 672 = .ok (.iadd, 1) := by decide +kernel
theorem dL_law_673 : decode cL_law 673 = .ok (.iaload, 1) := by decide +kernel
theorem dL_law_674 : decode cL_law 674 = .ok (.aload_n 0, 1) := by decide +kernel
theorem dL_law_675 : decode cL_law 675 = .ok (.iload_n 3, 1) := by decide +kernel
theorem dL_law_676 : decode cL_law 676 = .ok (.iconst 2, 1) := by decide +kernel
theorem dL_law_677 : decode cL_law 677 = .ok (.iadd, 1) := by decide +kernel
theorem dL_law_678 : decode cL_law 678 = .ok (.iaload, 1) := by decide +kernel
theorem dL_law_679 : decode cL_law 679 = .ok (.invokevirtual 81, 3) := by decide +kernel
theorem dL_law_682 : decode cL_law 682 = .ok (.aload_n 2, 1) := by decide +kernel
theorem dL_law_683 : decode cL_law 683 = .ok (.aload_n 0, 1) := by decide +kernel
theorem dL_law_684 : decode cL_law 684 = .ok (.iload_n 3, 1) := by decide +kernel
theorem dL_law_685 : decode cL_law 685 = .ok (.iconst 1, 1) := by decide +kernel
theorem dL_law_686 : decode cL_law 686 = .ok (.iadd, 1) := by decide +kernel
theorem dL_law_687 : decode cL_law 687 = .ok (.iaload, 1) := by decide +kernel
theorem dL_law_688 : decode cL_law 688 = .ok (.aload_n 0, 1) := by decide +kernel
theorem dL_law_689 : decode cL_law 689 = .ok (.iload_n 3, 1) := by decide +kernel
theorem dL_law_690 : decode cL_law 690 = .ok (.iconst 2, 1) := by decide +kernel
theorem dL_law_691 : decode cL_law 691 = .ok (.iadd, 1) := by decide +kernel
theorem dL_law_692 : decode cL_law 692 = .ok (.iaload, 1) := by decide +kernel
theorem dL_law_693 : decode cL_law 693 = .ok (.invokevirtual 84, 3) := by decide +kernel
theorem dL_law_696 : decode cL_law 696 = .ok (.if_icmp .eq 520, 3) := by decide +kernel
theorem dL_law_699 : decode cL_law 699 = .ok (.iconst 0, 1) := by decide +kernel
theorem dL_law_700 : decode cL_law 700 = .ok (.ireturn, 1) := by decide +kernel
theorem dL_law_701 : decode cL_law 701 = .ok (.aload_n 1, 1) := by decide +kernel
theorem dL_law_702 : decode cL_law 702 = .ok (.aload_n 0, 1) := by decide +kernel
theorem dL_law_703 : decode cL_law 703 = .ok (.iload_n 3, 1) := by decide +kernel
theorem dL_law_704 : decode cL_law 704 = .ok (.iconst 1, 1) := by decide +kernel
theorem dL_law_705 : decode cL_law 705 = .ok (.iadd, 1) := by decide +kernel
theorem dL_law_706 : decode cL_law 706 = .ok (.iaload, 1) := by decide +kernel
theorem dL_law_707 : decode cL_law 707 = .ok (.aload_n 0, 1) := by decide +kernel
theorem dL_law_708 : decode cL_law 708 = .ok (.iload_n 3, 1) := by decide +kernel
theorem dL_law_709 : decode cL_law 709 = .ok (.iconst 2, 1) := by decide +kernel
theorem dL_law_710 : decode cL_law 710 = .ok (.iadd, 1) := by decide +kernel
theorem dL_law_711 : decode cL_law 711 = .ok (.iaload, 1) := by decide +kernel
theorem dL_law_712 : decode cL_law 712 = .ok (.invokevirtual 85, 3) := by decide +kernel
theorem dL_law_715 : decode cL_law 715 = .ok (.aload_n 2, 1) := by decide +kernel
theorem dL_law_716 : decode cL_law 716 = .ok (.aload_n 0, 1) := by decide +kernel
theorem dL_law_717 : decode cL_law 717 = .ok (.iload_n 3, 1) := by decide +kernel
theorem dL_law_718 : decode cL_law 718 = .ok (.iconst 1, 1) := by decide +kernel
theorem dL_law_719 : decode cL_law 719 = .ok (.iadd, 1) := by decide +kernel
theorem dL_law_720 : decode cL_law 720 = .ok (.iaload, 1) := by decide +kernel
theorem dL_law_721 : decode cL_law 721 = .ok (.aload_n 0, 1) := by decide +kernel
theorem dL_law_722 : decode cL_law 722 = .ok (.iload_n 3, 1) := by decide +kernel
theorem dL_law_723 : decode cL_law 723 = .ok (.iconst 2, 1) := by decide +kernel
theorem dL_law_724 : decode cL_law 724 = .ok (.iadd, 1) := by decide +kernel
theorem dL_law_725 : decode cL_law 725 = .ok (.iaload, 1) := by decide +kernel
theorem dL_law_726 : decode cL_law 726 = .ok (.invokevirtual 88, 3) := by decide +kernel
theorem dL_law_729 : decode cL_law 729 = .ok (.if_icmp .eq 487, 3) := by decide +kernel
theorem dL_law_732 : decode cL_law 732 = .ok (.iconst 0, 1) := by decide +kernel
theorem dL_law_733 : decode cL_law 733 = .ok (.ireturn, 1) := by decide +kernel
theorem dL_law_734 : decode cL_law 734 = .ok (.aload_n 1, 1) := by decide +kernel
theorem dL_law_735 : decode cL_law 735 = .ok (.aload_n 0, 1) := by decide +kernel
theorem dL_law_736 : decode cL_law 736 = .ok (.iload_n 3, 1) := by decide +kernel
theorem dL_law_737 : decode cL_law 737 = .ok (.iconst 1, 1) := by decide +kernel
theorem dL_law_738 : decode cL_law 738 = .ok (.iadd, 1) := by decide +kernel
theorem dL_law_739 : decode cL_law 739 = .ok (.iaload, 1) := by decide +kernel
theorem dL_law_740 : decode cL_law 740 = .ok (.invokevirtual 89, 3) := by decide +kernel
theorem dL_law_743 : decode cL_law 743 = .ok (.aload_n 2, 1) := by decide +kernel
theorem dL_law_744 : decode cL_law 744 = .ok (.aload_n 0, 1) := by decide +kernel
theorem dL_law_745 : decode cL_law 745 = .ok (.iload_n 3, 1) := by decide +kernel
theorem dL_law_746 : decode cL_law 746 = .ok (.iconst 1, 1) := by decide +kernel
theorem dL_law_747 : decode cL_law 747 = .ok (.iadd, 1) := by decide +kernel
theorem dL_law_748 : decode cL_law 748 = .ok (.iaload, 1) := by decide +kernel
theorem dL_law_749 : decode cL_law 749 = .ok (.invokevirtual 92, 3) := by decide +kernel
theorem dL_law_752 : decode cL_law 752 = .ok (.if_icmp .eq 464, 3) := by decide +kernel
theorem dL_law_755 : decode cL_law 755 = .ok (.iconst 0, 1) := by decide +kernel
theorem dL_law_756 : decode cL_law 756 = .ok (.ireturn, 1) := by decide +kernel
theorem dL_law_757 : decode cL_law 757 = .ok (.aload_n 1, 1) := by decide +kernel
theorem dL_law_758 : decode cL_law 758 = .ok (.aload_n 0, 1) := by decide +kernel
theorem dL_law_759 : decode cL_law 759 = .ok (.iload_n 3, 1) := by decide +kernel
theorem dL_law_760 : decode cL_law 760 = .ok (.iconst 1, 1) := by decide +kernel
theorem dL_law_761 : decode cL_law 761 = .ok (.iadd, 1) := by decide +kernel
theorem dL_law_762 : decode cL_law 762 = .ok (.iaload, 1) := by decide +kernel
theorem dL_law_763 : decode cL_law 763 = .ok (.invokevirtual 93, 3) := by decide +kernel
theorem dL_law_766 : decode cL_law 766 = .ok (.aload_n 2, 1) := by decide +kernel
theorem dL_law_767 : decode cL_law 767 = .ok (.aload_n 0, 1) := by decide +kernel
theorem dL_law_768 : decode cL_law 768 = .ok (.iload_n 3, 1) := by decide +kernel
theorem dL_law_769 : decode cL_law 769 = .ok (.iconst 1, 1) := by decide +kernel
theorem dL_law_770 : decode cL_law 770 = .ok (.iadd, 1) := by decide +kernel
theorem dL_law_771 : decode cL_law 771 = .ok (.iaload, 1) := by decide +kernel
theorem dL_law_772 : decode cL_law 772 = .ok (.invokevirtual 96, 3) := by decide +kernel
theorem dL_law_775 : decode cL_law 775 = .ok (.if_icmp .eq 441, 3) := by decide +kernel
theorem dL_law_778 : decode cL_law 778 = .ok (.iconst 0, 1) := by decide +kernel
theorem dL_law_779 : decode cL_law 779 = .ok (.ireturn, 1) := by decide +kernel
theorem dL_law_780 : decode cL_law 780 = .ok (.aload_n 1, 1) := by decide +kernel
theorem dL_law_781 : decode cL_law 781 = .ok (.aload_n 0, 1) := by decide +kernel
theorem dL_law_782 : decode cL_law 782 = .ok (.iload_n 3, 1) := by decide +kernel
theorem dL_law_783 : decode cL_law 783 = .ok (.iconst 1, 1) := by decide +kernel
theorem dL_law_784 : decode cL_law 784 = .ok (.iadd, 1) := by decide +kernel
theorem dL_law_785 : decode cL_law 785 = .ok (.iaload, 1) := by decide +kernel
theorem dL_law_786 : decode cL_law 786 = .ok (.invokevirtual 97, 3) := by decide +kernel
theorem dL_law_789 : decode cL_law 789 = .ok (.aload_n 2, 1) := by decide +kernel
theorem dL_law_790 : decode cL_law 790 = .ok (.aload_n 0, 1) := by decide +kernel
theorem dL_law_791 : decode cL_law 791 = .ok (.iload_n 3, 1) := by decide +kernel
theorem dL_law_792 : decode cL_law 792 = .ok (.iconst 1, 1) := by decide +kernel
theorem dL_law_793 : decode cL_law 793 = .ok (.iadd, 1) := by decide +kernel
theorem dL_law_794 : decode cL_law 794 = .ok (.iaload, 1) := by decide +kernel
theorem dL_law_795 : decode cL_law 795 = .ok (.invokevirtual 100, 3) := by decide +kernel
theorem dL_law_798 : decode cL_law 798 = .ok (.if_icmp .eq 418, 3) := by decide +kernel
theorem dL_law_801 : decode cL_law 801 = .ok (.iconst 0, 1) := by decide +kernel
theorem dL_law_802 : decode cL_law 802 = .ok (.ireturn, 1) := by decide +kernel
theorem dL_law_803 : decode cL_law 803 = .ok (.aload_n 1, 1) := by decide +kernel
theorem dL_law_804 : decode cL_law 804 = .ok (.aload_n 0, 1) := by decide +kernel
theorem dL_law_805 : decode cL_law 805 = .ok (.iload_n 3, 1) := by decide +kernel
theorem dL_law_806 : decode cL_law 806 = .ok (.iconst 1, 1) := by decide +kernel
theorem dL_law_807 : decode cL_law 807 = .ok (.iadd, 1) := by decide +kernel
theorem dL_law_808 : decode cL_law 808 = .ok (.iaload, 1) := by decide +kernel
theorem dL_law_809 : decode cL_law 809 = .ok (.aload_n 0, 1) := by decide +kernel
theorem dL_law_810 : decode cL_law 810 = .ok (.iload_n 3, 1) := by decide +kernel
theorem dL_law_811 : decode cL_law 811 = .ok (.iconst 2, 1) := by decide +kernel
theorem dL_law_812 : decode cL_law 812 = .ok (.iadd, 1) := by decide +kernel
theorem dL_law_813 : decode cL_law 813 = .ok (.iaload, 1) := by decide +kernel
theorem dL_law_814 : decode cL_law 814 = .ok (.invokevirtual 101, 3) := by decide +kernel
theorem dL_law_817 : decode cL_law 817 = .ok (.aload_n 2, 1) := by decide +kernel
theorem dL_law_818 : decode cL_law 818 = .ok (.aload_n 0, 1) := by decide +kernel
theorem dL_law_819 : decode cL_law 819 = .ok (.iload_n 3, 1) := by decide +kernel
theorem dL_law_820 : decode cL_law 820 = .ok (.iconst 1, 1) := by decide +kernel
theorem dL_law_821 : decode cL_law 821 = .ok (.iadd, 1) := by decide +kernel
theorem dL_law_822 : decode cL_law 822 = .ok (.iaload, 1) := by decide +kernel
theorem dL_law_823 : decode cL_law 823 = .ok (.aload_n 0, 1) := by decide +kernel
theorem dL_law_824 : decode cL_law 824 = .ok (.iload_n 3, 1) := by decide +kernel
theorem dL_law_825 : decode cL_law 825 = .ok (.iconst 2, 1) := by decide +kernel
theorem dL_law_826 : decode cL_law 826 = .ok (.iadd, 1) := by decide +kernel
theorem dL_law_827 : decode cL_law 827 = .ok (.iaload, 1) := by decide +kernel
theorem dL_law_828 : decode cL_law 828 = .ok (.invokevirtual 104, 3) := by decide +kernel
theorem dL_law_831 : decode cL_law 831 = .ok (.if_icmp .eq 385, 3) := by decide +kernel
theorem dL_law_834 : decode cL_law 834 = .ok (.iconst 0, 1) := by decide +kernel
theorem dL_law_835 : decode cL_law 835 = .ok (.ireturn, 1) := by decide +kernel
theorem dL_law_836 : decode cL_law 836 = .ok (.aload_n 1, 1) := by decide +kernel
theorem dL_law_837 : decode cL_law 837 = .ok (.invokevirtual 105, 3) := by decide +kernel
theorem dL_law_840 : decode cL_law 840 = .ok (.aload_n 2, 1) := by decide +kernel
theorem dL_law_841 : decode cL_law 841 = .ok (.invokevirtual 108, 3) := by decide +kernel
theorem dL_law_844 : decode cL_law 844 = .ok (.if_icmp .eq 372, 3) := by decide +kernel
theorem dL_law_847 : decode cL_law 847 = .ok (.iconst 0, 1) := by decide +kernel
theorem dL_law_848 : decode cL_law 848 = .ok (.ireturn, 1) := by decide +kernel
theorem dL_law_849 : decode cL_law 849 = .ok (.aload_n 1, 1) := by decide +kernel
theorem dL_law_850 : decode cL_law 850 = .ok (.invokevirtual 109, 3) := by decide +kernel
theorem dL_law_853 : decode cL_law 853 = .ok (.aload_n 2, 1) := by decide +kernel
theorem dL_law_854 : decode cL_law 854 = .ok (.invokevirtual 112, 3) := by decide +kernel
theorem dL_law_857 : decode cL_law 857 = .ok (.if_icmp .eq 359, 3) := by decide +kernel
theorem dL_law_860 : decode cL_law 860 = .ok (.iconst 0, 1) := by decide +kernel
theorem dL_law_861 : decode cL_law 861 = .ok (.ireturn, 1) := by decide +kernel
theorem dL_law_862 : decode cL_law 862 = .ok (.aload_n 1, 1) := by decide +kernel
theorem dL_law_863 : decode cL_law 863 = .ok (.aload_n 0, 1) := by decide +kernel
theorem dL_law_864 : decode cL_law 864 = .ok (.iload_n 3, 1) := by decide +kernel
theorem dL_law_865 : decode cL_law 865 = .ok (.iconst 1, 1) := by decide +kernel
theorem dL_law_866 : decode cL_law 866 = .ok (.iadd, 1) := by decide +kernel
theorem dL_law_867 : decode cL_law 867 = .ok (.iaload, 1) := by decide +kernel
theorem dL_law_868 : decode cL_law 868 = .ok (.invokevirtual 113, 3) := by decide +kernel
theorem dL_law_871 : decode cL_law 871 = .ok (.aload_n 2, 1) := by decide +kernel
theorem dL_law_872 : decode cL_law 872 = .ok (.aload_n 0, 1) := by decide +kernel
theorem dL_law_873 : decode cL_law 873 = .ok (.iload_n 3, 1) := by decide +kernel
theorem dL_law_874 : decode cL_law 874 = .ok (.iconst 1, 1) := by decide +kernel
theorem dL_law_875 : decode cL_law 875 = .ok (.iadd, 1) := by decide +kernel
theorem dL_law_876 : decode cL_law 876 = .ok (.iaload, 1) := by decide +kernel
theorem dL_law_877 : decode cL_law 877 = .ok (.invokevirtual 116, 3) := by decide +kernel
theorem dL_law_880 : decode cL_law 880 = .ok (.if_icmp .eq 336, 3) := by decide +kernel
theorem dL_law_883 : decode cL_law 883 = .ok (.iconst 0, 1) := by decide +kernel
theorem dL_law_884 : decode cL_law 884 = .ok (.ireturn, 1) := by decide +kernel
theorem dL_law_885 : decode cL_law 885 = .ok (.aload_n 1, 1) := by decide +kernel
theorem dL_law_886 : decode cL_law 886 = .ok (.invokevirtual 117, 3) := by decide +kernel
theorem dL_law_889 : decode cL_law 889 = .ok (.aload_n 2, 1) := by decide +kernel
theorem dL_law_890 : decode cL_law 890 = .ok (.invokevirtual 120, 3) := by decide +kernel
theorem dL_law_893 : decode cL_law 893 = .ok (.if_icmp .eq 323, 3) := by decide +kernel
theorem dL_law_896 : decode cL_law 896 = .ok (.iconst 0, 1) := by decide +kernel
theorem dL_law_897 : decode cL_law 897 = .ok (.ireturn, 1) := by decide +kernel
theorem dL_law_898 : decode cL_law 898 = .ok (.aload_n 1, 1) := by decide +kernel
theorem dL_law_899 : decode cL_law 899 = .ok (.invokevirtual 121, 3) := by decide +kernel
theorem dL_law_902 : decode cL_law 902 = .ok (.aload_n 2, 1) := by decide +kernel
theorem dL_law_903 : decode cL_law 903 = .ok (.invokevirtual 124, 3) := by decide +kernel
theorem dL_law_906 : decode cL_law 906 = .ok (.if_icmp .eq 310, 3) := by decide +kernel
theorem dL_law_909 : decode cL_law 909 = .ok (.iconst 0, 1) := by decide +kernel
theorem dL_law_910 : decode cL_law 910 = .ok (.ireturn, 1) := by decide +kernel
theorem dL_law_911 : decode cL_law 911 = .ok (.aload_n 1, 1) := by decide +kernel
theorem dL_law_912 : decode cL_law 912 = .ok (.aload_n 0, 1) := by decide +kernel
theorem dL_law_913 : decode cL_law 913 = .ok (.iload_n 3, 1) := by decide +kernel
theorem dL_law_914 : decode cL_law 914 = .ok (.iconst 1, 1) := by decide +kernel
theorem dL_law_915 : decode cL_law 915 = .ok (.iadd, 1) := by decide +kernel
theorem dL_law_916 : decode cL_law 916 = .ok (.iaload, 1) := by decide +kernel
theorem dL_law_917 : decode cL_law 917 = .ok (.aload_n 0, 1) := by decide +kernel
theorem dL_law_918 : decode cL_law 918 = .ok (.iload_n 3, 1) := by decide +kernel
theorem dL_law_919 : decode cL_law 919 = .ok (.iconst 2, 1) := by decide +kernel
theorem dL_law_920 : decode cL_law 920 = .ok (.iadd, 1) := by decide +kernel
theorem dL_law_921 : decode cL_law 921 = .ok (.iaload, 1) := by decide +kernel
theorem dL_law_922 : decode cL_law 922 = .ok (.aload_n 0, 1) := by decide +kernel
theorem dL_law_923 : decode cL_law 923 = .ok (.iload_n 3, 1) := by decide +kernel
theorem dL_law_924 : decode cL_law 924 = .ok (.iconst 3, 1) := by decide +kernel
theorem dL_law_925 : decode cL_law 925 = .ok (.iadd, 1) := by decide +kernel
theorem dL_law_926 : decode cL_law 926 = .ok (.iaload, 1) := by decide +kernel
theorem dL_law_927 : decode cL_law 927 = .ok (.invokevirtual 125, 3) := by decide +kernel
theorem dL_law_930 : decode cL_law 930 = .ok (.aload_n 2, 1) := by decide +kernel
theorem dL_law_931 : decode cL_law 931 = .ok (.aload_n 0, 1) := by decide +kernel
theorem dL_law_932 : decode cL_law 932 = .ok (.iload_n 3, 1) := by decide +kernel
theorem dL_law_933 : decode cL_law 933 = .ok (.iconst 1, 1) := by decide +kernel
theorem dL_law_934 : decode cL_law 934 = .ok (.iadd, 1) := by decide +kernel
theorem dL_law_935 : decode cL_law 935 = .ok (.iaload, 1) := by decide +kernel
theorem dL_law_936 : decode cL_law 936 = .ok (.aload_n 0, 1) := by decide +kernel
theorem dL_law_937 : decode cL_law 937 = .ok (.iload_n 3, 1) := by decide +kernel
theorem dL_law_938 : decode cL_law 938 = .ok (.iconst 2, 1) := by decide +kernel
theorem dL_law_939 : decode cL_law 939 = .ok (.iadd, 1) := by decide +kernel
theorem dL_law_940 : decode cL_law 940 = .ok (.iaload, 1) := by decide +kernel
theorem dL_law_941 : decode cL_law 941 = .ok (.aload_n 0, 1) := by decide +kernel
theorem dL_law_942 : decode cL_law 942 = .ok (.iload_n 3, 1) := by decide +kernel
theorem dL_law_943 : decode cL_law 943 = .ok (.iconst 3, 1) := by decide +kernel
theorem dL_law_944 : decode cL_law 944 = .ok (.iadd, 1) := by decide +kernel
theorem dL_law_945 : decode cL_law 945 = .ok (.iaload, 1) := by decide +kernel
theorem dL_law_946 : decode cL_law 946 = .ok (.invokevirtual 128, 3) := by decide +kernel
theorem dL_law_949 : decode cL_law 949 = .ok (.if_icmp .eq 267, 3) := by decide +kernel
theorem dL_law_952 : decode cL_law 952 = .ok (.iconst 0, 1) := by decide +kernel
theorem dL_law_953 : decode cL_law 953 = .ok (.ireturn, 1) := by decide +kernel
theorem dL_law_954 : decode cL_law 954 = .ok (.aload_n 1, 1) := by decide +kernel
theorem dL_law_955 : decode cL_law 955 = .ok (.aload_n 0, 1) := by decide +kernel
theorem dL_law_956 : decode cL_law 956 = .ok (.iload_n 3, 1) := by decide +kernel
theorem dL_law_957 : decode cL_law 957 = .ok (.iconst 1, 1) := by decide +kernel
theorem dL_law_958 : decode cL_law 958 = .ok (.iadd, 1) := by decide +kernel
theorem dL_law_959 : decode cL_law 959 = .ok (.iaload, 1) := by decide +kernel
theorem dL_law_960 : decode cL_law 960 = .ok (.aload_n 0, 1) := by decide +kernel
theorem dL_law_961 : decode cL_law 961 = .ok (.iload_n 3, 1) := by decide +kernel
theorem dL_law_962 : decode cL_law 962 = .ok (.iconst 2, 1) := by decide +kernel
theorem dL_law_963 : decode cL_law 963 = .ok (.iadd, 1) := by decide +kernel
theorem dL_law_964 : decode cL_law 964 = .ok (.iaload, 1) := by decide +kernel
theorem dL_law_965 : decode cL_law 965 = .ok (.aload_n 0, 1) := by decide +kernel
theorem dL_law_966 : decode cL_law 966 = .ok (.iload_n 3, 1) := by decide +kernel
theorem dL_law_967 : decode cL_law 967 = .ok (.iconst 3, 1) := by decide +kernel
theorem dL_law_968 : decode cL_law 968 = .ok (.iadd, 1) := by decide +kernel
theorem dL_law_969 : decode cL_law 969 = .ok (.iaload, 1) := by decide +kernel
theorem dL_law_970 : decode cL_law 970 = .ok (.aload_n 0, 1) := by decide +kernel
theorem dL_law_971 : decode cL_law 971 = .ok (.iload_n 3, 1) := by decide +kernel
theorem dL_law_972 : decode cL_law 972 = .ok (.iconst 4, 1) := by decide +kernel
theorem dL_law_973 : decode cL_law 973 = .ok (.iadd, 1) := by decide +kernel
theorem dL_law_974 : decode cL_law 974 = .ok (.iaload, 1) := by decide +kernel
theorem dL_law_975 : decode cL_law 975 = .ok (.invokevirtual 129, 3) := by decide +kernel
theorem dL_law_978 : decode cL_law 978 = .ok (.aload_n 2, 1) := by decide +kernel
theorem dL_law_979 : decode cL_law 979 = .ok (.aload_n 0, 1) := by decide +kernel
theorem dL_law_980 : decode cL_law 980 = .ok (.iload_n 3, 1) := by decide +kernel
theorem dL_law_981 : decode cL_law 981 = .ok (.iconst 1, 1) := by decide +kernel
theorem dL_law_982 : decode cL_law 982 = .ok (.iadd, 1) := by decide +kernel
theorem dL_law_983 : decode cL_law 983 = .ok (.iaload, 1) := by decide +kernel
theorem dL_law_984 : decode cL_law 984 = .ok (.aload_n 0, 1) := by decide +kernel
theorem dL_law_985 : decode cL_law 985 = .ok (.iload_n 3, 1) := by decide +kernel
theorem dL_law_986 : decode cL_law 986 = .ok (.iconst 2, 1) := by decide +kernel
theorem dL_law_987 : decode cL_law 987 = .ok (.iadd, 1) := by decide +kernel
theorem dL_law_988 : decode cL_law 988 = .ok (.iaload, 1) := by decide +kernel
theorem dL_law_989 : decode cL_law 989 = .ok (.aload_n 0, 1) := by decide +kernel
theorem dL_law_990 : decode cL_law 990 = .ok (.iload_n 3, 1) := by decide +kernel
theorem dL_law_991 : decode cL_law 991 = .ok (.iconst 3, 1) := by decide +kernel
theorem dL_law_992 : decode cL_law 992 = .ok (.iadd, 1) := by decide +kernel
theorem dL_law_993 : decode cL_law 993 = .ok (.iaload, 1) := by decide +kernel
theorem dL_law_994 : decode cL_law 994 = .ok (.aload_n 0, 1) := by decide +kernel
theorem dL_law_995 : decode cL_law 995 = .ok (.iload_n 3, 1) := by decide +kernel
theorem dL_law_996 : decode cL_law 996 = .ok (.iconst 4, 1) := by decide +kernel
theorem dL_law_997 : decode cL_law 997 = .ok (.iadd, 1) := by decide +kernel
theorem dL_law_998 : decode cL_law 998 = .ok (.iaload, 1) := by decide +kernel
theorem dL_law_999 : decode cL_law 999 = .ok (.invokevirtual 133, 3) := by decide +kernel
theorem dL_law_1002 : decode cL_law 1002 = .ok (.lcmp, 1) := by decide +kernel
theorem dL_law_1003 : decode cL_law 1003 = .ok (.ifCond .eq 213, 3) := by decide +kernel
theorem dL_law_1006 : decode cL_law 1006 = .ok (.iconst 0, 1) := by decide +kernel
theorem dL_law_1007 : decode cL_law 1007 = .ok (.ireturn, 1) := by decide +kernel
theorem dL_law_1008 : decode cL_law 1008 = .ok (.aload_n 1, 1) := by decide +kernel
theorem dL_law_1009 : decode cL_law 1009 = .ok (.aload_n 0, 1) := by decide +kernel
theorem dL_law_1010 : decode cL_law 1010 = .ok (.iload_n 3, 1) := by decide +kernel
theorem dL_law_1011 : decode cL_law 1011 = .ok (.iconst 1, 1) := by decide +kernel
theorem dL_law_1012 : decode cL_law 1012 = .ok (.iadd, 1) := by decide +kernel
theorem dL_law_1013 : decode cL_law 1013 = .ok (.iaload, 1) := by decide +kernel
theorem dL_law_1014 : decode cL_law 1014 = .ok (.invokevirtual 134, 3) := by decide +kernel
theorem dL_law_1017 : decode cL_law 1017 = .ok (.aload_n 2, 1) := by decide +kernel
theorem dL_law_1018 : decode cL_law 1018 = .ok (.aload_n 0, 1) := by decide +kernel
theorem dL_law_1019 : decode cL_law 1019 = .ok (.iload_n 3, 1) := by decide +kernel
theorem dL_law_1020 : decode cL_law 1020 = .ok (.iconst 1, 1) := by decide +kernel
theorem dL_law_1021 : decode cL_law 1021 = .ok (.iadd, 1) := by decide +kernel
theorem dL_law_1022 : decode cL_law 1022 = .ok (.iaload, 1) := by decide +kernel
theorem dL_law_1023 : decode cL_law 1023 = .ok (.invokevirtual 138, 3) := by decide +kernel
theorem dL_law_1026 : decode cL_law 1026 = .ok (.lcmp, 1) := by decide +kernel
theorem dL_law_1027 : decode cL_law 1027 = .ok (.ifCond .eq 189, 3) := by decide +kernel
theorem dL_law_1030 : decode cL_law 1030 = .ok (.iconst 0, 1) := by decide +kernel
theorem dL_law_1031 : decode cL_law 1031 = .ok (.ireturn, 1) := by decide +kernel
theorem dL_law_1032 : decode cL_law 1032 = .ok (.aload_n 1, 1) := by decide +kernel
theorem dL_law_1033 : decode cL_law 1033 = .ok (.aload_n 0, 1) := by decide +kernel
theorem dL_law_1034 : decode cL_law 1034 = .ok (.iload_n 3, 1) := by decide +kernel
theorem dL_law_1035 : decode cL_law 1035 = .ok (.iconst 1, 1) := by decide +kernel
theorem dL_law_1036 : decode cL_law 1036 = .ok (.iadd, 1) := by decide +kernel
theorem dL_law_1037 : decode cL_law 1037 = .ok (.iaload, 1) := by decide +kernel
theorem dL_law_1038 : decode cL_law 1038 = .ok (.aload_n 0, 1) := by decide +kernel
theorem dL_law_1039 : decode cL_law 1039 = .ok (.iload_n 3, 1) := by decide +kernel
theorem dL_law_1040 : decode cL_law 1040 = .ok (.iconst 2, 1) := by decide +kernel
theorem dL_law_1041 : decode cL_law 1041 = .ok (.iadd, 1) := by decide +kernel
theorem dL_law_1042 : decode cL_law 1042 = .ok (.iaload, 1) := by decide +kernel
theorem dL_law_1043 : decode cL_law 1043 = .ok (.aload_n 0, 1) := by decide +kernel
theorem dL_law_1044 : decode cL_law 1044 = .ok (.iload_n 3, 1) := by decide +kernel
theorem dL_law_1045 : decode cL_law 1045 = .ok (.iconst 3, 1) := by decide +kernel
theorem dL_law_1046 : decode cL_law 1046 = .ok (.iadd, 1) := by decide +kernel
theorem dL_law_1047 : decode cL_law 1047 = .ok (.iaload, 1) := by decide +kernel
theorem dL_law_1048 : decode cL_law 1048 = .ok (.invokevirtual 139, 3) := by decide +kernel
theorem dL_law_1051 : decode cL_law 1051 = .ok (.aload_n 2, 1) := by decide +kernel
theorem dL_law_1052 : decode cL_law 1052 = .ok (.aload_n 0, 1) := by decide +kernel
theorem dL_law_1053 : decode cL_law 1053 = .ok (.iload_n 3, 1) := by decide +kernel
theorem dL_law_1054 : decode cL_law 1054 = .ok (.iconst 1, 1) := by decide +kernel
theorem dL_law_1055 : decode cL_law 1055 = .ok (.iadd, 1) := by decide +kernel
theorem dL_law_1056 : decode cL_law 1056 = .ok (.iaload, 1) := by decide +kernel
theorem dL_law_1057 : decode cL_law 1057 = .ok (.aload_n 0, 1) := by decide +kernel
theorem dL_law_1058 : decode cL_law 1058 = .ok (.iload_n 3, 1) := by decide +kernel
theorem dL_law_1059 : decode cL_law 1059 = .ok (.iconst 2, 1) := by decide +kernel
theorem dL_law_1060 : decode cL_law 1060 = .ok (.iadd, 1) := by decide +kernel
theorem dL_law_1061 : decode cL_law 1061 = .ok (.iaload, 1) := by decide +kernel
theorem dL_law_1062 : decode cL_law 1062 = .ok (.aload_n 0, 1) := by decide +kernel
theorem dL_law_1063 : decode cL_law 1063 = .ok (.iload_n 3, 1) := by decide +kernel
theorem dL_law_1064 : decode cL_law 1064 = .ok (.iconst 3, 1) := by decide +kernel
theorem dL_law_1065 : decode cL_law 1065 = .ok (.iadd, 1) := by decide +kernel
theorem dL_law_1066 : decode cL_law 1066 = .ok (.iaload, 1) := by decide +kernel
theorem dL_law_1067 : decode cL_law 1067 = .ok (.invokevirtual 142, 3) := by decide +kernel
theorem dL_law_1070 : decode cL_law 1070 = .ok (.if_icmp .eq 146, 3) := by decide +kernel
theorem dL_law_1073 : decode cL_law 1073 = .ok (.iconst 0, 1) := by decide +kernel
theorem dL_law_1074 : decode cL_law 1074 = .ok (.ireturn, 1) := by decide +kernel
theorem dL_law_1075 : decode cL_law 1075 = .ok (.aload_n 1, 1) := by decide +kernel
theorem dL_law_1076 : decode cL_law 1076 = .ok (.aload_n 0, 1) := by decide +kernel
theorem dL_law_1077 : decode cL_law 1077 = .ok (.iload_n 3, 1) := by decide +kernel
theorem dL_law_1078 : decode cL_law 1078 = .ok (.iconst 1, 1) := by decide +kernel
theorem dL_law_1079 : decode cL_law 1079 = .ok (.iadd, 1) := by decide +kernel
theorem dL_law_1080 : decode cL_law 1080 = .ok (.iaload, 1) := by decide +kernel
theorem dL_law_1081 : decode cL_law 1081 = .ok (.invokevirtual 143, 3) := by decide +kernel
theorem dL_law_1084 : decode cL_law 1084 = .ok (.aload_n 2, 1) := by decide +kernel
theorem dL_law_1085 : decode cL_law 1085 = .ok (.aload_n 0, 1) := by decide +kernel
theorem dL_law_1086 : decode cL_law 1086 = .ok (.iload_n 3, 1) := by decide +kernel
theorem dL_law_1087 : decode cL_law 1087 = .ok (.iconst 1, 1) := by decide +kernel
theorem dL_law_1088 : decode cL_law 1088 = .ok (.iadd, 1) := by decide +kernel
theorem dL_law_1089 : decode cL_law 1089 = .ok (.iaload, 1) := by decide +kernel
theorem dL_law_1090 : decode cL_law 1090 = .ok (.invokevirtual 146, 3) := by decide +kernel
theorem dL_law_1093 : decode cL_law 1093 = .ok (.if_icmp .eq 123, 3) := by decide +kernel
theorem dL_law_1096 : decode cL_law 1096 = .ok (.iconst 0, 1) := by decide +kernel
theorem dL_law_1097 : decode cL_law 1097 = .ok (.ireturn, 1) := by decide +kernel
theorem dL_law_1098 : decode cL_law 1098 = .ok (.aload_n 1, 1) := by decide +kernel
theorem dL_law_1099 : decode cL_law 1099 = .ok (.invokevirtual 147, 3) := by decide +kernel
theorem dL_law_1102 : decode cL_law 1102 = .ok (.aload_n 2, 1) := by decide +kernel
theorem dL_law_1103 : decode cL_law 1103 = .ok (.invokevirtual 150, 3) := by decide +kernel
theorem dL_law_1106 : decode cL_law 1106 = .ok (.if_icmp .eq 110, 3) := by decide +kernel
theorem dL_law_1109 : decode cL_law 1109 = .ok (.iconst 0, 1) := by decide +kernel
theorem dL_law_1110 : decode cL_law 1110 = .ok (.ireturn, 1) := by decide +kernel
theorem dL_law_1111 : decode cL_law 1111 = .ok (.aload_n 1, 1) := by decide +kernel
theorem dL_law_1112 : decode cL_law 1112 = .ok (.invokevirtual 151, 3) := by decide +kernel
theorem dL_law_1115 : decode cL_law 1115 = .ok (.aload_n 2, 1) := by decide +kernel
theorem dL_law_1116 : decode cL_law 1116 = .ok (.invokevirtual 154, 3) := by decide +kernel
theorem dL_law_1119 : decode cL_law 1119 = .ok (.if_icmp .eq 97, 3) := by decide +kernel
theorem dL_law_1122 : decode cL_law 1122 = .ok (.iconst 0, 1) := by decide +kernel
theorem dL_law_1123 : decode cL_law 1123 = .ok (.ireturn, 1) := by decide +kernel
theorem dL_law_1124 : decode cL_law 1124 = .ok (.aload_n 1, 1) := by decide +kernel
theorem dL_law_1125 : decode cL_law 1125 = .ok (.aload_n 0, 1) := by decide +kernel
theorem dL_law_1126 : decode cL_law 1126 = .ok (.iload_n 3, 1) := by decide +kernel
theorem dL_law_1127 : decode cL_law 1127 = .ok (.iconst 1, 1) := by decide +kernel
theorem dL_law_1128 : decode cL_law 1128 = .ok (.iadd, 1) := by decide +kernel
theorem dL_law_1129 : decode cL_law 1129 = .ok (.iaload, 1) := by decide +kernel
theorem dL_law_1130 : decode cL_law 1130 = .ok (.aload_n 0, 1) := by decide +kernel
theorem dL_law_1131 : decode cL_law 1131 = .ok (.iload_n 3, 1) := by decide +kernel
theorem dL_law_1132 : decode cL_law 1132 = .ok (.iconst 2, 1) := by decide +kernel
theorem dL_law_1133 : decode cL_law 1133 = .ok (.iadd, 1) := by decide +kernel
theorem dL_law_1134 : decode cL_law 1134 = .ok (.iaload, 1) := by decide +kernel
theorem dL_law_1135 : decode cL_law 1135 = .ok (.aload_n 0, 1) := by decide +kernel
theorem dL_law_1136 : decode cL_law 1136 = .ok (.iload_n 3, 1) := by decide +kernel
theorem dL_law_1137 : decode cL_law 1137 = .ok (.iconst 3, 1) := by decide +kernel
theorem dL_law_1138 : decode cL_law 1138 = .ok (.iadd, 1) := by decide +kernel
theorem dL_law_1139 : decode cL_law 1139 = .ok (.iaload, 1) := by decide +kernel
theorem dL_law_1140 : decode cL_law 1140 = .ok (.invokevirtual 155, 3) := by decide +kernel
theorem dL_law_1143 : decode cL_law 1143 = .ok (.aload_n 2, 1) := by decide +kernel
theorem dL_law_1144 : decode cL_law 1144 = .ok (.aload_n 0, 1) := by decide +kernel
theorem dL_law_1145 : decode cL_law 1145 = .ok (.iload_n 3, 1) := by decide +kernel
theorem dL_law_1146 : decode cL_law 1146 = .ok (.iconst 1, 1) := by decide +kernel
theorem dL_law_1147 : decode cL_law 1147 = .ok (.iadd, 1) := by decide +kernel
theorem dL_law_1148 : decode cL_law 1148 = .ok (.iaload, 1) := by decide +kernel
theorem dL_law_1149 : decode cL_law 1149 = .ok (.aload_n 0, 1) := by decide +kernel
theorem dL_law_1150 : decode cL_law 1150 = .ok (.iload_n 3, 1) := by decide +kernel
theorem dL_law_1151 : decode cL_law 1151 = .ok (.iconst 2, 1) := by decide +kernel
theorem dL_law_1152 : decode cL_law 1152 = .ok (.iadd, 1) := by decide +kernel
theorem dL_law_1153 : decode cL_law 1153 = .ok (.iaload, 1) := by decide +kernel
theorem dL_law_1154 : decode cL_law 1154 = .ok (.aload_n 0, 1) := by decide +kernel
theorem dL_law_1155 : decode cL_law 1155 = .ok (.iload_n 3, 1) := by decide +kernel
theorem dL_law_1156 : decode cL_law 1156 = .ok (.iconst 3, 1) := by decide +kernel
theorem dL_law_1157 : decode cL_law 1157 = .ok (.iadd, 1) := by decide +kernel
theorem dL_law_1158 : decode cL_law 1158 = .ok (.iaload, 1) := by decide +kernel
theorem dL_law_1159 : decode cL_law 1159 = .ok (.invokevirtual 158, 3) := by decide +kernel
theorem dL_law_1162 : decode cL_law 1162 = .ok (.if_icmp .eq 54, 3) := by decide +kernel
theorem dL_law_1165 : decode cL_law 1165 = .ok (.iconst 0, 1) := by decide +kernel
theorem dL_law_1166 : decode cL_law 1166 = .ok (.ireturn, 1) := by decide +kernel
theorem dL_law_1167 : decode cL_law 1167 = .ok (.aload_n 1, 1) := by decide +kernel
theorem dL_law_1168 : decode cL_law 1168 = .ok (.invokevirtual 159, 3) := by decide +kernel
theorem dL_law_1171 : decode cL_law 1171 = .ok (.aload_n 2, 1) := by decide +kernel
theorem dL_law_1172 : decode cL_law 1172 = .ok (.invokevirtual 162, 3) := by decide +kernel
theorem dL_law_1175 : decode cL_law 1175 = .ok (.if_icmp .eq 41, 3) := by decide +kernel
theorem dL_law_1178 : decode cL_law 1178 = .ok (.iconst 0, 1) := by decide +kernel
theorem dL_law_1179 : decode cL_law 1179 = .ok (.ireturn, 1) := by decide +kernel
theorem dL_law_1180 : decode cL_law 1180 = .ok (.aload_n 1, 1) := by decide +kernel
theorem dL_law_1181 : decode cL_law 1181 = .ok (.invokevirtual 163, 3) := by decide +kernel
theorem dL_law_1184 : decode cL_law 1184 = .ok (.aload_n 2, 1) := by decide +kernel
theorem dL_law_1185 : decode cL_law 1185 = .ok (.invokevirtual 166, 3) := by decide +kernel
theorem dL_law_1188 : decode cL_law 1188 = .ok (.if_icmp .eq 28, 3) := by decide +kernel
theorem dL_law_1191 : decode cL_law 1191 = .ok (.iconst 0, 1) := by decide +kernel
theorem dL_law_1192 : decode cL_law 1192 = .ok (.ireturn, 1) := by decide +kernel
theorem dL_law_1193 : decode cL_law 1193 = .ok (.aload_n 1, 1) := by decide +kernel
theorem dL_law_1194 : decode cL_law 1194 = .ok (.aload_n 0, 1) := by decide +kernel
theorem dL_law_1195 : decode cL_law 1195 = .ok (.iload_n 3, 1) := by decide +kernel
theorem dL_law_1196 : decode cL_law 1196 = .ok (.iconst 1, 1) := by decide +kernel
theorem dL_law_1197 : decode cL_law 1197 = .ok (.iadd, 1) := by decide +kernel
theorem dL_law_1198 : decode cL_law 1198 = .ok (.iaload, 1) := by decide +kernel
theorem dL_law_1199 : decode cL_law 1199 = .ok (.invokevirtual 167, 3) := by decide +kernel
theorem dL_law_1202 : decode cL_law 1202 = .ok (.aload_n 2, 1) := by decide +kernel
theorem dL_law_1203 : decode cL_law 1203 = .ok (.aload_n 0, 1) := by decide +kernel
theorem dL_law_1204 : decode cL_law 1204 = .ok (.iload_n 3, 1) := by decide +kernel
theorem dL_law_1205 : decode cL_law 1205 = .ok (.iconst 1, 1) := by decide +kernel
theorem dL_law_1206 : decode cL_law 1206 = .ok (.iadd, 1) := by decide +kernel
theorem dL_law_1207 : decode cL_law 1207 = .ok (.iaload, 1) := by decide +kernel
theorem dL_law_1208 : decode cL_law 1208 = .ok (.invokevirtual 170, 3) := by decide +kernel
theorem dL_law_1211 : decode cL_law 1211 = .ok (.if_icmp .eq 5, 3) := by decide +kernel
theorem dL_law_1214 : decode cL_law 1214 = .ok (.iconst 0, 1) := by decide +kernel
theorem dL_law_1215 : decode cL_law 1215 = .ok (.ireturn, 1) := by decide +kernel
theorem dL_law_1216 : decode cL_law 1216 = .ok (.iinc 3 5, 3) := by decide +kernel
theorem dL_law_1219 : decode cL_law 1219 = .ok (.goto (-1201), 3) := by decide +kernel
theorem dL_law_1222 : decode cL_law 1222 = .ok (.iconst 1, 1) := by decide +kernel
theorem dL_law_1223 : decode cL_law 1223 = .ok (.ireturn, 1) := by decide +kernel
theorem dJ0_length_8abf5_0 : decode cJ0_length_8abf5 0 = .ok (.aload_n 0, 1) := by decide +kernel
theorem dJ0_length_8abf5_1 : decode cJ0_length_8abf5 1 = .ok (.getfield 9, 3) := by decide +kernel
theorem dJ0_length_8abf5_4 : decode cJ0_length_8abf5 4 = .ok (.arraylength, 1) := by decide +kernel
theorem dJ0_length_8abf5_5 : decode cJ0_length_8abf5 5 = .ok (.aload_n 0, 1) := by decide +kernel
theorem dJ0_length_8abf5_6 : decode cJ0_length_8abf5 6 = .ok (.invokevirtual 335, 3) := by decide +kernel
theorem dJ0_length_8abf5_9 : decode cJ0_length_8abf5 9 = .ok (.ishr, 1) := by decide +kernel
theorem dJ0_length_8abf5_10 : decode cJ0_length_8abf5 10 = .ok (.ireturn, 1) := by decide +kernel
theorem dJ0_isEmpty_aae02_0 : decode cJ0_isEmpty_aae02 0 = .ok (.aload_n 0, 1) := by decide +kernel
theorem dJ0_isEmpty_aae02_1 : decode cJ0_isEmpty_aae02 1 = .ok (.getfield 9, 3) := by decide +kernel
theorem dJ0_isEmpty_aae02_4 : decode cJ0_isEmpty_aae02 4 = .ok (.arraylength, 1) := by decide +kernel
theorem dJ0_isEmpty_aae02_5 : decode cJ0_isEmpty_aae02 5 = .ok (.ifCond .ne 7, 3) := by decide +kernel
theorem dJ0_isEmpty_aae02_8 : decode cJ0_isEmpty_aae02 8 = .ok (.iconst 1, 1) := by decide +kernel
theorem dJ0_isEmpty_aae02_9 : decode cJ0_isEmpty_aae02 9 = .ok (.goto 4, 3) := by decide +kernel
theorem dJ0_isEmpty_aae02_12 : decode cJ0_isEmpty_aae02 12 = .ok (.iconst 0, 1) := by decide +kernel
theorem dJ0_isEmpty_aae02_13 : decode cJ0_isEmpty_aae02 13 = .ok (.ireturn, 1) := by decide +kernel
theorem dJ0_charAt_5068e_0 : decode cJ0_charAt_5068e 0 = .ok (.aload_n 0, 1) := by decide +kernel
theorem dJ0_charAt_5068e_1 : decode cJ0_charAt_5068e 1 = .ok (.invokevirtual 492, 3) := by decide +kernel
theorem dJ0_charAt_5068e_4 : decode cJ0_charAt_5068e 4 = .ok (.ifCond .eq 12, 3) := by decide +kernel
theorem dJ0_charAt_5068e_7 : decode cJ0_charAt_5068e 7 = .ok (.aload_n 0, 1) := by decide +kernel
theorem dJ0_charAt_5068e_8 : decode cJ0_charAt_5068e 8 = .ok (.getfield 9, 3) := by decide +kernel
theorem dJ0_charAt_5068e_11 : decode cJ0_charAt_5068e 11 = .ok (.iload_n 1, 1) := by decide +kernel
theorem dJ0_charAt_5068e_12 : decode cJ0_charAt_5068e 12 = .ok (.invokestatic 495, 3) := by decide +kernel
theorem dJ0_charAt_5068e_15 : decode cJ0_charAt_5068e 15 = .ok (.ireturn, 1) := by decide +kernel
theorem dJ0_charAt_5068e_16 : decode cJ0_charAt_5068e 16 = .ok (.aload_n 0, 1) := by decide +kernel
theorem dJ0_charAt_5068e_17 : decode cJ0_charAt_5068e 17 = .ok (.getfield 9, 3) := by decide +kernel
theorem dJ0_charAt_5068e_20 : decode cJ0_charAt_5068e 20 = .ok (.iload_n 1, 1) := by decide +kernel
theorem dJ0_charAt_5068e_21 : decode cJ0_charAt_5068e 21 = .ok (.invokestatic 498, 3) := by decide +kernel
theorem dJ0_charAt_5068e_24 : decode cJ0_charAt_5068e 24 = .ok (.ireturn, 1) := by decide +kernel
theorem dJ0_indexOf_0f7a4_0 : decode cJ0_indexOf_0f7a4 0 = .ok (.aload_n 0, 1) := by decide +kernel
theorem dJ0_indexOf_0f7a4_1 : decode cJ0_indexOf_0f7a4 1 = .ok (.iload_n 1, 1) := by decide +kernel
theorem dJ0_indexOf_0f7a4_2 : decode cJ0_indexOf_0f7a4 2 = .ok (.iconst 0, 1) := by decide +kernel
theorem dJ0_indexOf_0f7a4_3 : decode cJ0_indexOf_0f7a4 3 = .ok (.invokevirtual 633, 3) := by decide +kernel
theorem dJ0_indexOf_0f7a4_6 : decode cJ0_indexOf_0f7a4 6 = .ok (.ireturn, 1) := by decide +kernel
theorem dJ0_indexOf_7cf53_0 : decode cJ0_indexOf_7cf53 0 = .ok (.aload_n 0, 1) := by decide +kernel
theorem dJ0_indexOf_7cf53_1 : decode cJ0_indexOf_7cf53 1 = .ok (.invokevirtual 492, 3) := by decide +kernel
theorem dJ0_indexOf_7cf53_4 : decode cJ0_indexOf_7cf53 4 = .ok (.ifCond .eq 19, 3) := by decide +kernel
theorem dJ0_indexOf_7cf53_7 : decode cJ0_indexOf_7cf53 7 = .ok (.aload_n 0, 1) := by decide +kernel
theorem dJ0_indexOf_7cf53_8 : decode cJ0_indexOf_7cf53 8 = .ok (.getfield 9, 3) := by decide +kernel
theorem dJ0_indexOf_7cf53_11 : decode cJ0_indexOf_7cf53 11 = .ok (.iload_n 1, 1) := by decide +kernel
theorem dJ0_indexOf_7cf53_12 : decode cJ0_indexOf_7cf53 12 = .ok (.iload_n 2, 1) := by decide +kernel
theorem dJ0_indexOf_7cf53_13 : decode cJ0_indexOf_7cf53 13 = .ok (.aload_n 0, 1) := by decide +kernel
theorem dJ0_indexOf_7cf53_14 : decode cJ0_indexOf_7cf53 14 = .ok (.invokevirtual 505, 3) := by decide +kernel
theorem dJ0_indexOf_7cf53_17 : decode cJ0_indexOf_7cf53 17 = .ok (.invokestatic 637, 3) := by decide +kernel
theorem dJ0_indexOf_7cf53_20 : decode cJ0_indexOf_7cf53 20 = .ok (.goto 16, 3) := by decide +kernel
theorem dJ0_indexOf_7cf53_23 : decode cJ0_indexOf_7cf53 23 = .ok (.aload_n 0, 1) := by decide +kernel
theorem dJ0_indexOf_7cf53_24 : decode cJ0_indexOf_7cf53 24 = .ok (.getfield 9, 3) := by decide +kernel
theorem dJ0_indexOf_7cf53_27 : decode cJ0_indexOf_7cf53 27 = .ok (.iload_n 1, 1) := by decide +kernel
theorem dJ0_indexOf_7cf53_28 : decode cJ0_indexOf_7cf53 28 = .ok (.iload_n 2, 1) := by decide +kernel
theorem dJ0_indexOf_7cf53_29 : decode cJ0_indexOf_7cf53 29 = .ok (.aload_n 0, 1) := by decide +kernel
theorem dJ0_indexOf_7cf53_30 : decode cJ0_indexOf_7cf53 30 = .ok (.invokevirtual 505, 3) := by decide +kernel
theorem dJ0_indexOf_7cf53_33 : decode cJ0_indexOf_7cf53 33 = .ok (.invokestatic 640, 3) := by decide +kernel
theorem dJ0_indexOf_7cf53_36 : decode cJ0_indexOf_7cf53 36 = .ok (.ireturn, 1) := by decide +kernel
theorem dJ0_coder_7d493_0 : decode cJ0_coder_7d493 0 = .ok (.getstatic 38, 3) := by decide +kernel
theorem dJ0_coder_7d493_3 : decode cJ0_coder_7d493 3 = .ok (.ifCond .eq 10, 3) := by decide +kernel
theorem dJ0_coder_7d493_6 : decode cJ0_coder_7d493 6 = .ok (.aload_n 0, 1) := by decide +kernel
theorem dJ0_coder_7d493_7 : decode cJ0_coder_7d493 7 = .ok (.getfield 15, 3) := by decide +kernel
theorem dJ0_coder_7d493_10 : decode cJ0_coder_7d493 10 = .ok (.goto 4, 3) := by decide +kernel
theorem dJ0_coder_7d493_13 : decode cJ0_coder_7d493 13 = .ok (.iconst 1, 1) := by decide +kernel
theorem dJ0_coder_7d493_14 : decode cJ0_coder_7d493 14 = .ok (.ireturn, 1) := by decide +kernel
theorem dJ0_isLatin1_aae02_0 : decode cJ0_isLatin1_aae02 0 = .ok (.getstatic 38, 3) := by decide +kernel
theorem dJ0_isLatin1_aae02_3 : decode cJ0_isLatin1_aae02 3 = .ok (.ifCond .eq 14, 3) := by decide +kernel
theorem dJ0_isLatin1_aae02_6 : decode cJ0_isLatin1_aae02 6 = .ok (.aload_n 0, 1) := by decide +kernel
theorem dJ0_isLatin1_aae02_7 : decode cJ0_isLatin1_aae02 7 = .ok (.getfield 15, 3) := by decide +kernel
theorem dJ0_isLatin1_aae02_10 : decode cJ0_isLatin1_aae02 10 = .ok (.ifCond .ne 7, 3) := by decide +kernel
theorem dJ0_isLatin1_aae02_13 : decode cJ0_isLatin1_aae02 13 = .ok (.iconst 1, 1) := by decide +kernel
theorem dJ0_isLatin1_aae02_14 : decode cJ0_isLatin1_aae02 14 = .ok (.goto 4, 3) := by decide +kernel
theorem dJ0_isLatin1_aae02_17 : decode cJ0_isLatin1_aae02 17 = .ok (.iconst 0, 1) := by decide +kernel
theorem dJ0_isLatin1_aae02_18 : decode cJ0_isLatin1_aae02 18 = .ok (.ireturn, 1) := by decide +kernel
theorem dJ0_checkIndex_df160_0 : decode cJ0_checkIndex_df160 0 = .ok (.iload_n 0, 1) := by decide +kernel
theorem dJ0_checkIndex_df160_1 : decode cJ0_checkIndex_df160 1 = .ok (.iload_n 1, 1) := by decide +kernel
theorem dJ0_checkIndex_df160_2 : decode cJ0_checkIndex_df160 2 = .ok (.getstatic 1053, 3) := by decide +kernel
theorem dJ0_checkIndex_df160_5 : decode cJ0_checkIndex_df160 5 = .ok (.invokestatic 1059, 3) := by decide +kernel
theorem dJ0_checkIndex_df160_8 : decode cJ0_checkIndex_df160 8 = .ok (.pop, 1) := by decide +kernel
theorem dJ0_checkIndex_df160_9 : decode cJ0_checkIndex_df160 9 = .ok (.return_, 1) := by decide +kernel
theorem dJ1_charAt_3b067_0 : decode cJ1_charAt_3b067 0 = .ok (.iload_n 1, 1) := by decide +kernel
theorem dJ1_charAt_3b067_1 : decode cJ1_charAt_3b067 1 = .ok (.aload_n 0, 1) := by decide +kernel
theorem dJ1_charAt_3b067_2 : decode cJ1_charAt_3b067 2 = .ok (.arraylength, 1) := by decide +kernel
theorem dJ1_charAt_3b067_3 : decode cJ1_charAt_3b067 3 = .ok (.invokestatic 9, 3) := by decide +kernel
theorem dJ1_charAt_3b067_6 : decode cJ1_charAt_3b067 6 = .ok (.aload_n 0, 1) := by decide +kernel
theorem dJ1_charAt_3b067_7 : decode cJ1_charAt_3b067 7 = .ok (.iload_n 1, 1) := by decide +kernel
theorem dJ1_charAt_3b067_8 : decode cJ1_charAt_3b067 8 = .ok (.baload, 1) := by decide +kernel
theorem dJ1_charAt_3b067_9 : decode cJ1_charAt_3b067 9 = .ok (.sipush 255, 3) := by decide +kernel
theorem dJ1_charAt_3b067_12 : decode cJ1_charAt_3b067 12 = .ok (.iand, 1) := by decide +kernel
theorem dJ1_charAt_3b067_13 : decode cJ1_charAt_3b067 13 = .ok (.i2c, 1) := by decide +kernel
theorem dJ1_charAt_3b067_14 : decode cJ1_charAt_3b067 14 = .ok (.ireturn, 1) := by decide +kernel
theorem dJ1_canEncode_9a6ad_0 : decode cJ1_canEncode_9a6ad 0 = .ok (.iload_n 0, 1) := by decide +kernel
theorem dJ1_canEncode_9a6ad_1 : decode cJ1_canEncode_9a6ad 1 = .ok (.ifCond .lt 14, 3) := by decide +kernel
theorem dJ1_canEncode_9a6ad_4 : decode cJ1_canEncode_9a6ad 4 = .ok (.iload_n 0, 1) := by decide +kernel
theorem dJ1_canEncode_9a6ad_5 : decode cJ1_canEncode_9a6ad 5 = .ok (.sipush 255, 3) := by decide +kernel
theorem dJ1_canEncode_9a6ad_8 : decode cJ1_canEncode_9a6ad 8 = .ok (.if_icmp .gt 7, 3) := by decide +kernel
theorem dJ1_canEncode_9a6ad_11 : decode cJ1_canEncode_9a6ad 11 = .ok (.iconst 1, 1) := by decide +kernel
theorem dJ1_canEncode_9a6ad_12 : decode cJ1_canEncode_9a6ad 12 = .ok (.goto 4, 3) := by decide +kernel
theorem dJ1_canEncode_9a6ad_15 : decode cJ1_canEncode_9a6ad 15 = .ok (.iconst 0, 1) := by decide +kernel
theorem dJ1_canEncode_9a6ad_16 : decode cJ1_canEncode_9a6ad 16 = .ok (.ireturn, 1) := by decide +kernel
theorem dJ1_indexOf_4cfef_0 : decode cJ1_indexOf_4cfef 0 = .ok (.iload_n 1, 1) := by decide +kernel
theorem dJ1_indexOf_4cfef_1 : decode cJ1_indexOf_4cfef 1 = .ok (.invokestatic 88, 3) := by decide +kernel
theorem dJ1_indexOf_4cfef_4 : decode cJ1_indexOf_4cfef 4 = .ok (.ifCond .ne 5, 3) := by decide +kernel
theorem dJ1_indexOf_4cfef_7 : decode cJ1_indexOf_4cfef 7 = .ok (.iconst (-1), 1) := by decide +kernel
theorem dJ1_indexOf_4cfef_8 : decode cJ1_indexOf_4cfef 8 = .ok (.ireturn, 1) := by decide +kernel
theorem dJ1_indexOf_4cfef_9 : decode cJ1_indexOf_4cfef 9 = .ok (.iload_n 2, 1) := by decide +kernel
theorem dJ1_indexOf_4cfef_10 : decode cJ1_indexOf_4cfef 10 = .ok (.iconst 0, 1) := by decide +kernel
theorem dJ1_indexOf_4cfef_11 : decode cJ1_indexOf_4cfef 11 = .ok (.invokestatic 92, 3) := by decide +kernel
theorem dJ1_indexOf_4cfef_14 : decode cJ1_indexOf_4cfef 14 = .ok (.istore_n 2, 1) := by decide +kernel
theorem dJ1_indexOf_4cfef_15 : decode cJ1_indexOf_4cfef 15 = .ok (.iload_n 3, 1) := by decide +kernel
theorem dJ1_indexOf_4cfef_16 : decode cJ1_indexOf_4cfef 16 = .ok (.aload_n 0, 1) := by decide +kernel
theorem dJ1_indexOf_4cfef_17 : decode cJ1_indexOf_4cfef 17 = .ok (.arraylength, 1) := by decide +kernel
theorem dJ1_indexOf_4cfef_18 : decode cJ1_indexOf_4cfef 18 = .ok (.invokestatic 38, 3) := by decide +kernel
theorem dJ1_indexOf_4cfef_21 : decode cJ1_indexOf_4cfef 21 = .ok (.istore_n 3, 1) := by decide +kernel
theorem dJ1_indexOf_4cfef_22 : decode cJ1_indexOf_4cfef 22 = .ok (.iload_n 2, 1) := by decide +kernel
theorem dJ1_indexOf_4cfef_23 : decode cJ1_indexOf_4cfef 23 = .ok (.iload_n 3, 1) := by decide +kernel
theorem dJ1_indexOf_4cfef_24 : decode cJ1_indexOf_4cfef 24 = .ok (.if_icmp .lt 5, 3) := by decide +kernel
theorem dJ1_indexOf_4cfef_27 : decode cJ1_indexOf_4cfef 27 = .ok (.iconst (-1), 1) := by decide +kernel
theorem dJ1_indexOf_4cfef_28 : decode cJ1_indexOf_4cfef 28 = .ok (.ireturn, 1) := by decide +kernel
theorem dJ1_indexOf_4cfef_29 : decode cJ1_indexOf_4cfef 29 = .ok (.aload_n 0, 1) := by decide +kernel
theorem dJ1_indexOf_4cfef_30 : decode cJ1_indexOf_4cfef 30 = .ok (.iload_n 1, 1) := by decide +kernel
theorem dJ1_indexOf_4cfef_31 : decode cJ1_indexOf_4cfef 31 = .ok (.iload_n 2, 1) := by decide +kernel
theorem dJ1_indexOf_4cfef_32 : decode cJ1_indexOf_4cfef 32 = .ok (.iload_n 3, 1) := by decide +kernel
theorem dJ1_indexOf_4cfef_33 : decode cJ1_indexOf_4cfef 33 = .ok (.invokestatic 95, 3) := by decide +kernel
theorem dJ1_indexOf_4cfef_36 : decode cJ1_indexOf_4cfef 36 = .ok (.ireturn, 1) := by decide +kernel
theorem dJ1_indexOfChar_4cfef_0 : decode cJ1_indexOfChar_4cfef 0 = .ok (.iload_n 1, 1) := by decide +kernel
theorem dJ1_indexOfChar_4cfef_1 : decode cJ1_indexOfChar_4cfef 1 = .ok (.i2b, 1) := by decide +kernel
theorem dJ1_indexOfChar_4cfef_2 : decode cJ1_indexOfChar_4cfef 2 = .ok (.istore 4, 2) := by decide +kernel
theorem dJ1_indexOfChar_4cfef_4 : decode cJ1_indexOfChar_4cfef 4 = .ok (.iload_n 2, 1) := by decide +kernel
theorem dJ1_indexOfChar_4cfef_5 : decode cJ1_indexOfChar_4cfef 5 = .ok (.istore 5, 2) := by decide +kernel
theorem dJ1_indexOfChar_4cfef_7 : decode cJ1_indexOfChar_4cfef 7 = .ok (.iload 5, 2) := by decide +kernel
theorem dJ1_indexOfChar_4cfef_9 : decode cJ1_indexOfChar_4cfef 9 = .ok (.iload_n 3, 1) := by decide +kernel
theorem dJ1_indexOfChar_4cfef_10 : decode cJ1_indexOfChar_4cfef 10 = .ok (.if_icmp .ge 21, 3) := by decide +kernel
theorem dJ1_indexOfChar_4cfef_13 : decode cJ1_indexOfChar_4cfef 13 = .ok (.aload_n 0, 1) := by decide +kernel
theorem dJ1_indexOfChar_4cfef_14 : decode cJ1_indexOfChar_4cfef 14 = .ok (.iload 5, 2) := by decide +kernel
theorem dJ1_indexOfChar_4cfef_16 : decode cJ1_indexOfChar_4cfef 16 = .ok (.baload, 1) := by decide +kernel
theorem dJ1_indexOfChar_4cfef_17 : decode cJ1_indexOfChar_4cfef 17 = .ok (.iload 4, 2) := by decide +kernel
theorem dJ1_indexOfChar_4cfef_19 : decode cJ1_indexOfChar_4cfef 19 = .ok (.if_icmp .ne 6, 3) := by decide +kernel
theorem dJ1_indexOfChar_4cfef_22 : decode cJ1_indexOfChar_4cfef 22 = .ok (.iload 5, 2) := by decide +kernel
theorem dJ1_indexOfChar_4cfef_24 : decode cJ1_indexOfChar_4cfef 24 = .ok (.ireturn, 1) := by decide +kernel
theorem dJ1_indexOfChar_4cfef_25 : decode cJ1_indexOfChar_4cfef 25 = .ok (.iinc 5 1, 3) := by decide +kernel
theorem dJ1_indexOfChar_4cfef_28 : decode cJ1_indexOfChar_4cfef 28 = .ok (.goto (-21), 3) := by decide +kernel
theorem dJ1_indexOfChar_4cfef_31 : decode cJ1_indexOfChar_4cfef 31 = .ok (.iconst (-1), 1) := by decide +kernel
theorem dJ1_indexOfChar_4cfef_32 : decode cJ1_indexOfChar_4cfef 32 = .ok (.ireturn, 1) := by decide +kernel
theorem dJ3_checkIndex_8e157_0 : decode cJ3_checkIndex_8e157 0 = .ok (.iload_n 0, 1) := by decide +kernel
theorem dJ3_checkIndex_8e157_1 : decode cJ3_checkIndex_8e157 1 = .ok (.ifCond .lt 8, 3) := by decide +kernel
theorem dJ3_checkIndex_8e157_4 : decode cJ3_checkIndex_8e157 4 = .ok (.iload_n 0, 1) := by decide +kernel
theorem dJ3_checkIndex_8e157_5 : decode cJ3_checkIndex_8e157 5 = .ok (.iload_n 1, 1) := by decide +kernel
theorem dJ3_checkIndex_8e157_6 : decode cJ3_checkIndex_8e157 6 = .ok (.if_icmp .lt 10, 3) := by decide +kernel
theorem dJ3_checkIndex_8e157_9 : decode cJ3_checkIndex_8e157 9 = .ok (.aload_n 2, 1) := by decide +kernel
theorem dJ3_checkIndex_8e157_10 : decode cJ3_checkIndex_8e157 10 = .ok (.iload_n 0, 1) := by decide +kernel
theorem dJ3_checkIndex_8e157_11 : decode cJ3_checkIndex_8e157 11 = .ok (.iload_n 1, 1) := by decide +kernel
theorem dJ3_checkIndex_8e157_12 : decode cJ3_checkIndex_8e157 12 = .ok (.invokestatic 95, 3) := by decide +kernel
theorem dJ3_checkIndex_8e157_15 : decode cJ3_checkIndex_8e157 15 = .ok (.athrow, 1) := by decide +kernel
theorem dJ3_checkIndex_8e157_16 : decode cJ3_checkIndex_8e157 16 = .ok (.iload_n 0, 1) := by decide +kernel
theorem dJ3_checkIndex_8e157_17 : decode cJ3_checkIndex_8e157 17 = .ok (.ireturn, 1) := by decide +kernel
