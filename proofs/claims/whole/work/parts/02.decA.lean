-- decode rows: printed by program out of the claim
theorem dX0_ofLetter_0 : decode cX0_ofLetter 0 = .ok (.ldc 9, 2) := by decide +kernel
theorem dX0_ofLetter_2 : decode cX0_ofLetter 2 = .ok (.iload_n 0, 1) := by decide +kernel
theorem dX0_ofLetter_3 : decode cX0_ofLetter 3 = .ok (.i2c, 1) := by decide +kernel
theorem dX0_ofLetter_4 : decode cX0_ofLetter 4 = .ok (.invokevirtual 11, 3) := by decide +kernel
theorem dX0_ofLetter_7 : decode cX0_ofLetter 7 = .ok (.ireturn, 1) := by decide +kernel
theorem dX0_growing_0 : decode cX0_growing 0 = .ok (.iload_n 0, 1) := by decide +kernel
theorem dX0_growing_1 : decode cX0_growing 1 = .ok (.tableswitch 51 0 3 #[31, 35, 39, 45], 31) := by decide +kernel
theorem dX0_growing_32 : decode cX0_growing 32 = .ok (.iload_n 1, 1) := by decide +kernel
theorem dX0_growing_33 : decode cX0_growing 33 = .ok (.iconst 2, 1) := by decide +kernel
theorem dX0_growing_34 : decode cX0_growing 34 = .ok (.idiv, 1) := by decide +kernel
theorem dX0_growing_35 : decode cX0_growing 35 = .ok (.ireturn, 1) := by decide +kernel
theorem dX0_growing_36 : decode cX0_growing 36 = .ok (.iload_n 2, 1) := by decide +kernel
theorem dX0_growing_37 : decode cX0_growing 37 = .ok (.iconst 2, 1) := by decide +kernel
theorem dX0_growing_38 : decode cX0_growing 38 = .ok (.idiv, 1) := by decide +kernel
theorem dX0_growing_39 : decode cX0_growing 39 = .ok (.ireturn, 1) := by decide +kernel
theorem dX0_growing_40 : decode cX0_growing 40 = .ok (.iload_n 1, 1) := by decide +kernel
theorem dX0_growing_41 : decode cX0_growing 41 = .ok (.iconst 2, 1) := by decide +kernel
theorem dX0_growing_42 : decode cX0_growing 42 = .ok (.idiv, 1) := by decide +kernel
theorem dX0_growing_43 : decode cX0_growing 43 = .ok (.iconst 3, 1) := by decide +kernel
theorem dX0_growing_44 : decode cX0_growing 44 = .ok (.iadd, 1) := by decide +kernel
theorem dX0_growing_45 : decode cX0_growing 45 = .ok (.ireturn, 1) := by decide +kernel
theorem dX0_growing_46 : decode cX0_growing 46 = .ok (.iload_n 2, 1) := by decide +kernel
theorem dX0_growing_47 : decode cX0_growing 47 = .ok (.iconst 2, 1) := by decide +kernel
theorem dX0_growing_48 : decode cX0_growing 48 = .ok (.idiv, 1) := by decide +kernel
theorem dX0_growing_49 : decode cX0_growing 49 = .ok (.iconst 2, 1) := by decide +kernel
theorem dX0_growing_50 : decode cX0_growing 50 = .ok (.idiv, 1) := by decide +kernel
theorem dX0_growing_51 : decode cX0_growing 51 = .ok (.ireturn, 1) := by decide +kernel
theorem dX0_growing_52 : decode cX0_growing 52 = .ok (.iconst 0, 1) := by decide +kernel
theorem dX0_growing_53 : decode cX0_growing 53 = .ok (.ireturn, 1) := by decide +kernel
theorem dX0_giving_0 : decode cX0_giving 0 = .ok (.iconst 3, 1) := by decide +kernel
theorem dX0_giving_1 : decode cX0_giving 1 = .ok (.iload_n 0, 1) := by decide +kernel
theorem dX0_giving_2 : decode cX0_giving 2 = .ok (.imul, 1) := by decide +kernel
theorem dX0_giving_3 : decode cX0_giving 3 = .ok (.iload_n 2, 1) := by decide +kernel
theorem dX0_giving_4 : decode cX0_giving 4 = .ok (.iadd, 1) := by decide +kernel
theorem dX0_giving_5 : decode cX0_giving 5 = .ok (.istore_n 3, 1) := by decide +kernel
theorem dX0_giving_6 : decode cX0_giving 6 = .ok (.iload_n 3, 1) := by decide +kernel
theorem dX0_giving_7 : decode cX0_giving 7 = .ok (.ifCond .lt 19, 3) := by decide +kernel
theorem dX0_giving_10 : decode cX0_giving 10 = .ok (.iload_n 3, 1) := by decide +kernel
theorem dX0_giving_11 : decode cX0_giving 11 = .ok (.getstatic 17, 3) := by decide +kernel
theorem dX0_giving_14 : decode cX0_giving 14 = .ok (.arraylength, 1) := by decide +kernel
theorem dX0_giving_15 : decode cX0_giving 15 = .ok (.if_icmp .ge 11, 3) := by decide +kernel
theorem dX0_giving_18 : decode cX0_giving 18 = .ok (.getstatic 17, 3) := by decide +kernel
theorem dX0_giving_21 : decode cX0_giving 21 = .ok (.iload_n 3, 1) := by decide +kernel
theorem dX0_giving_22 : decode cX0_giving 22 = .ok (.iaload, 1) := by decide +kernel
theorem dX0_giving_23 : decode cX0_giving 23 = .ok (.goto 4, 3) := by decide +kernel
theorem dX0_giving_26 : decode cX0_giving 26 = .ok (.iconst 0, 1) := by decide +kernel
theorem dX0_giving_27 : decode cX0_giving 27 = .ok (.istore 4, 2) := by decide +kernel
theorem dX0_giving_29 : decode cX0_giving 29 = .ok (.iload_n 0, 1) := by decide +kernel
theorem dX0_giving_30 : decode cX0_giving 30 = .ok (.iconst 4, 1) := by decide +kernel
theorem dX0_giving_31 : decode cX0_giving 31 = .ok (.if_icmp .eq 8, 3) := by decide +kernel
theorem dX0_giving_34 : decode cX0_giving 34 = .ok (.iload_n 0, 1) := by decide +kernel
theorem dX0_giving_35 : decode cX0_giving 35 = .ok (.iconst 5, 1) := by decide +kernel
theorem dX0_giving_36 : decode cX0_giving 36 = .ok (.if_icmp .ne 7, 3) := by decide +kernel
theorem dX0_giving_39 : decode cX0_giving 39 = .ok (.iconst 1, 1) := by decide +kernel
theorem dX0_giving_40 : decode cX0_giving 40 = .ok (.goto 4, 3) := by decide +kernel
theorem dX0_giving_43 : decode cX0_giving 43 = .ok (.iconst 0, 1) := by decide +kernel
theorem dX0_giving_44 : decode cX0_giving 44 = .ok (.istore 5, 2) := by decide +kernel
theorem dX0_giving_46 : decode cX0_giving 46 = .ok (.iload 5, 2) := by decide +kernel
theorem dX0_giving_48 : decode cX0_giving 48 = .ok (.ifCond .eq 14, 3) := by decide +kernel
theorem dX0_giving_51 : decode cX0_giving 51 = .ok (.iload 4, 2) := by decide +kernel
theorem dX0_giving_53 : decode cX0_giving 53 = .ok (.iload_n 1, 1) := by decide +kernel
theorem dX0_giving_54 : decode cX0_giving 54 = .ok (.iconst 3, 1) := by decide +kernel
theorem dX0_giving_55 : decode cX0_giving 55 = .ok (.idiv, 1) := by decide +kernel
theorem dX0_giving_56 : decode cX0_giving 56 = .ok (.iadd, 1) := by decide +kernel
theorem dX0_giving_57 : decode cX0_giving 57 = .ok (.iconst 1, 1) := by decide +kernel
theorem dX0_giving_58 : decode cX0_giving 58 = .ok (.iadd, 1) := by decide +kernel
theorem dX0_giving_59 : decode cX0_giving 59 = .ok (.goto 5, 3) := by decide +kernel
theorem dX0_giving_62 : decode cX0_giving 62 = .ok (.iload 4, 2) := by decide +kernel
theorem dX0_giving_64 : decode cX0_giving 64 = .ok (.ireturn, 1) := by decide +kernel
theorem dX0_tiring_0 : decode cX0_tiring 0 = .ok (.iload_n 0, 1) := by decide +kernel
theorem dX0_tiring_1 : decode cX0_tiring 1 = .ok (.ifCond .lt 19, 3) := by decide +kernel
theorem dX0_tiring_4 : decode cX0_tiring 4 = .ok (.iload_n 0, 1) := by decide +kernel
theorem dX0_tiring_5 : decode cX0_tiring 5 = .ok (.getstatic 23, 3) := by decide +kernel
theorem dX0_tiring_8 : decode cX0_tiring 8 = .ok (.arraylength, 1) := by decide +kernel
theorem dX0_tiring_9 : decode cX0_tiring 9 = .ok (.if_icmp .ge 11, 3) := by decide +kernel
theorem dX0_tiring_12 : decode cX0_tiring 12 = .ok (.getstatic 23, 3) := by decide +kernel
theorem dX0_tiring_15 : decode cX0_tiring 15 = .ok (.iload_n 0, 1) := by decide +kernel
theorem dX0_tiring_16 : decode cX0_tiring 16 = .ok (.iaload, 1) := by decide +kernel
theorem dX0_tiring_17 : decode cX0_tiring 17 = .ok (.goto 4, 3) := by decide +kernel
theorem dX0_tiring_20 : decode cX0_tiring 20 = .ok (.iconst 0, 1) := by decide +kernel
theorem dX0_tiring_21 : decode cX0_tiring 21 = .ok (.ireturn, 1) := by decide +kernel
theorem dX1_init_0 : decode cX1_init 0 = .ok (.aload_n 0, 1) := by decide +kernel
theorem dX1_init_1 : decode cX1_init 1 = .ok (.invokespecial 3, 3) := by decide +kernel
theorem dX1_init_4 : decode cX1_init 4 = .ok (.aload_n 0, 1) := by decide +kernel
theorem dX1_init_5 : decode cX1_init 5 = .ok (.iconst 1, 1) := by decide +kernel
theorem dX1_init_6 : decode cX1_init 6 = .ok (.putfield 9, 3) := by decide +kernel
theorem dX1_init_9 : decode cX1_init 9 = .ok (.aload_n 0, 1) := by decide +kernel
theorem dX1_init_10 : decode cX1_init 10 = .ok (.bipush 18, 2) := by decide +kernel
theorem dX1_init_12 : decode cX1_init 12 = .ok (.newarray .int, 2) := by decide +kernel
theorem dX1_init_14 : decode cX1_init 14 = .ok (.putfield 15, 3) := by decide +kernel
theorem dX1_init_17 : decode cX1_init 17 = .ok (.aload_n 0, 1) := by decide +kernel
theorem dX1_init_18 : decode cX1_init 18 = .ok (.bipush 6, 2) := by decide +kernel
theorem dX1_init_20 : decode cX1_init 20 = .ok (.newarray .int, 2) := by decide +kernel
theorem dX1_init_22 : decode cX1_init 22 = .ok (.putfield 19, 3) := by decide +kernel
theorem dX1_init_25 : decode cX1_init 25 = .ok (.aload_n 0, 1) := by decide +kernel
theorem dX1_init_26 : decode cX1_init 26 = .ok (.bipush 6, 2) := by decide +kernel
theorem dX1_init_28 : decode cX1_init 28 = .ok (.newarray .int, 2) := by decide +kernel
theorem dX1_init_30 : decode cX1_init 30 = .ok (.putfield 22, 3) := by decide +kernel
theorem dX1_init_33 : decode cX1_init 33 = .ok (.aload_n 0, 1) := by decide +kernel
theorem dX1_init_34 : decode cX1_init 34 = .ok (.bipush 6, 2) := by decide +kernel
theorem dX1_init_36 : decode cX1_init 36 = .ok (.newarray .int, 2) := by decide +kernel
theorem dX1_init_38 : decode cX1_init 38 = .ok (.putfield 25, 3) := by decide +kernel
theorem dX1_init_41 : decode cX1_init 41 = .ok (.aload_n 0, 1) := by decide +kernel
theorem dX1_init_42 : decode cX1_init 42 = .ok (.bipush 6, 2) := by decide +kernel
theorem dX1_init_44 : decode cX1_init 44 = .ok (.newarray .int, 2) := by decide +kernel
theorem dX1_init_46 : decode cX1_init 46 = .ok (.putfield 28, 3) := by decide +kernel
theorem dX1_init_49 : decode cX1_init 49 = .ok (.aload_n 0, 1) := by decide +kernel
theorem dX1_init_50 : decode cX1_init 50 = .ok (.bipush 6, 2) := by decide +kernel
theorem dX1_init_52 : decode cX1_init 52 = .ok (.newarray .int, 2) := by decide +kernel
theorem dX1_init_54 : decode cX1_init 54 = .ok (.putfield 31, 3) := by decide +kernel
theorem dX1_init_57 : decode cX1_init 57 = .ok (.aload_n 0, 1) := by decide +kernel
theorem dX1_init_58 : decode cX1_init 58 = .ok (.bipush 6, 2) := by decide +kernel
theorem dX1_init_60 : decode cX1_init 60 = .ok (.newarray .int, 2) := by decide +kernel
theorem dX1_init_62 : decode cX1_init 62 = .ok (.putfield 34, 3) := by decide +kernel
theorem dX1_init_65 : decode cX1_init 65 = .ok (.return_, 1) := by decide +kernel
theorem dX1_become_0 : decode cX1_become 0 = .ok (.aload_n 0, 1) := by decide +kernel
theorem dX1_become_1 : decode cX1_become 1 = .ok (.aload_n 1, 1) := by decide +kernel
theorem dX1_become_2 : decode cX1_become 2 = .ok (.getfield 37, 3) := by decide +kernel
theorem dX1_become_5 : decode cX1_become 5 = .ok (.putfield 37, 3) := by decide +kernel
theorem dX1_become_8 : decode cX1_become 8 = .ok (.aload_n 0, 1) := by decide +kernel
theorem dX1_become_9 : decode cX1_become 9 = .ok (.aload_n 1, 1) := by decide +kernel
theorem dX1_become_10 : decode cX1_become 10 = .ok (.getfield 40, 3) := by decide +kernel
theorem dX1_become_13 : decode cX1_become 13 = .ok (.putfield 40, 3) := by decide +kernel
theorem dX1_become_16 : decode cX1_become 16 = .ok (.aload_n 0, 1) := by decide +kernel
theorem dX1_become_17 : decode cX1_become 17 = .ok (.aload_n 1, 1) := by decide +kernel
theorem dX1_become_18 : decode cX1_become 18 = .ok (.getfield 9, 3) := by decide +kernel
theorem dX1_become_21 : decode cX1_become 21 = .ok (.putfield 9, 3) := by decide +kernel
theorem dX1_become_24 : decode cX1_become 24 = .ok (.aload_n 0, 1) := by decide +kernel
theorem dX1_become_25 : decode cX1_become 25 = .ok (.aload_n 1, 1) := by decide +kernel
theorem dX1_become_26 : decode cX1_become 26 = .ok (.getfield 43, 3) := by decide +kernel
theorem dX1_become_29 : decode cX1_become 29 = .ok (.putfield 43, 3) := by decide +kernel
theorem dX1_become_32 : decode cX1_become 32 = .ok (.aload_n 0, 1) := by decide +kernel
theorem dX1_become_33 : decode cX1_become 33 = .ok (.aload_n 1, 1) := by decide +kernel
theorem dX1_become_34 : decode cX1_become 34 = .ok (.getfield 46, 3) := by decide +kernel
theorem dX1_become_37 : decode cX1_become 37 = .ok (.putfield 46, 3) := by decide +kernel
theorem dX1_become_40 : decode cX1_become 40 = .ok (.aload_n 1, 1) := by decide +kernel
theorem dX1_become_41 : decode cX1_become 41 = .ok (.getfield 15, 3) := by decide +kernel
theorem dX1_become_44 : decode cX1_become 44 = .ok (.iconst 0, 1) := by decide +kernel
theorem dX1_become_45 : decode cX1_become 45 = .ok (.aload_n 0, 1) := by decide +kernel
theorem dX1_become_46 : decode cX1_become 46 = .ok (.getfield 15, 3) := by decide +kernel
theorem dX1_become_49 : decode cX1_become 49 = .ok (.iconst 0, 1) := by decide +kernel
theorem dX1_become_50 : decode cX1_become 50 = .ok (.aload_n 0, 1) := by decide +kernel
theorem dX1_become_51 : decode cX1_become 51 = .ok (.getfield 15, 3) := by decide +kernel
theorem dX1_become_54 : decode cX1_become 54 = .ok (.arraylength, 1) := by decide +kernel
theorem dX1_become_55 : decode cX1_become 55 = .ok (.invokestatic 49, 3) := by decide +kernel
theorem dX1_become_58 : decode cX1_become 58 = .ok (.aload_n 1, 1) := by decide +kernel
theorem dX1_become_59 : decode cX1_become 59 = .ok (.getfield 22, 3) := by decide +kernel
theorem dX1_become_62 : decode cX1_become 62 = .ok (.iconst 0, 1) := by decide +kernel
theorem dX1_become_63 : decode cX1_become 63 = .ok (.aload_n 0, 1) := by decide +kernel
theorem dX1_become_64 : decode cX1_become 64 = .ok (.getfield 22, 3) := by decide +kernel
theorem dX1_become_67 : decode cX1_become 67 = .ok (.iconst 0, 1) := by decide +kernel
theorem dX1_become_68 : decode cX1_become 68 = .ok (.aload_n 0, 1) := by decide +kernel
theorem dX1_become_69 : decode cX1_become 69 = .ok (.getfield 22, 3) := by decide +kernel
theorem dX1_become_72 : decode cX1_become 72 = .ok (.arraylength, 1) := by decide +kernel
theorem dX1_become_73 : decode cX1_become 73 = .ok (.invokestatic 49, 3) := by decide +kernel
theorem dX1_become_76 : decode cX1_become 76 = .ok (.aload_n 1, 1) := by decide +kernel
theorem dX1_become_77 : decode cX1_become 77 = .ok (.getfield 25, 3) := by decide +kernel
theorem dX1_become_80 : decode cX1_become 80 = .ok (.iconst 0, 1) := by decide +kernel
theorem dX1_become_81 : decode cX1_become 81 = .ok (.aload_n 0, 1) := by decide +kernel
theorem dX1_become_82 : decode cX1_become 82 = .ok (.getfield 25, 3) := by decide +kernel
theorem dX1_become_85 : decode cX1_become 85 = .ok (.iconst 0, 1) := by decide +kernel
theorem dX1_become_86 : decode cX1_become 86 = .ok (.aload_n 0, 1) := by decide +kernel
theorem dX1_become_87 : decode cX1_become 87 = .ok (.getfield 25, 3) := by decide +kernel
theorem dX1_become_90 : decode cX1_become 90 = .ok (.arraylength, 1) := by decide +kernel
theorem dX1_become_91 : decode cX1_become 91 = .ok (.invokestatic 49, 3) := by decide +kernel
theorem dX1_become_94 : decode cX1_become 94 = .ok (.aload_n 1, 1) := by decide +kernel
theorem dX1_become_95 : decode cX1_become 95 = .ok (.getfield 28, 3) := by decide +kernel
theorem dX1_become_98 : decode cX1_become 98 = .ok (.iconst 0, 1) := by decide +kernel
theorem dX1_become_99 : decode cX1_become 99 = .ok (.aload_n 0, 1) := by decide +kernel
theorem dX1_become_100 : decode cX1_become 100 = .ok (.getfield 28, 3) := by decide +kernel
theorem dX1_become_103 : decode cX1_become 103 = .ok (.iconst 0, 1) := by decide +kernel
theorem dX1_become_104 : decode cX1_become 104 = .ok (.aload_n 0, 1) := by decide +kernel
theorem dX1_become_105 : decode cX1_become 105 = .ok (.getfield 28, 3) := by decide +kernel
theorem dX1_become_108 : decode cX1_become 108 = .ok (.arraylength, 1) := by decide +kernel
theorem dX1_become_109 : decode cX1_become 109 = .ok (.invokestatic 49, 3) := by decide +kernel
theorem dX1_become_112 : decode cX1_become 112 = .ok (.aload_n 1, 1) := by decide +kernel
theorem dX1_become_113 : decode cX1_become 113 = .ok (.getfield 31, 3) := by decide +kernel
theorem dX1_become_116 : decode cX1_become 116 = .ok (.iconst 0, 1) := by decide +kernel
theorem dX1_become_117 : decode cX1_become 117 = .ok (.aload_n 0, 1) := by decide +kernel
theorem dX1_become_118 : decode cX1_become 118 = .ok (.getfield 31, 3) := by decide +kernel
theorem dX1_become_121 : decode cX1_become 121 = .ok (.iconst 0, 1) := by decide +kernel
theorem dX1_become_122 : decode cX1_become 122 = .ok (.aload_n 0, 1) := by decide +kernel
theorem dX1_become_123 : decode cX1_become 123 = .ok (.getfield 31, 3) := by decide +kernel
theorem dX1_become_126 : decode cX1_become 126 = .ok (.arraylength, 1) := by decide +kernel
theorem dX1_become_127 : decode cX1_become 127 = .ok (.invokestatic 49, 3) := by decide +kernel
theorem dX1_become_130 : decode cX1_become 130 = .ok (.return_, 1) := by decide +kernel
theorem dX1_hasFarm_0 : decode cX1_hasFarm 0 = .ok (.iload_n 1, 1) := by decide +kernel
theorem dX1_hasFarm_1 : decode cX1_hasFarm 1 = .ok (.ifCond .lt 15, 3) := by decide +kernel
theorem dX1_hasFarm_4 : decode cX1_hasFarm 4 = .ok (.iload_n 1, 1) := by decide +kernel
theorem dX1_hasFarm_5 : decode cX1_hasFarm 5 = .ok (.aload_n 0, 1) := by decide +kernel
theorem dX1_hasFarm_6 : decode cX1_hasFarm 6 = .ok (.getfield 37, 3) := by decide +kernel
theorem dX1_hasFarm_9 : decode cX1_hasFarm 9 = .ok (.if_icmp .ge 7, 3) := by decide +kernel
theorem dX1_hasFarm_12 : decode cX1_hasFarm 12 = .ok (.iconst 1, 1) := by decide +kernel
theorem dX1_hasFarm_13 : decode cX1_hasFarm 13 = .ok (.goto 4, 3) := by decide +kernel
theorem dX1_hasFarm_16 : decode cX1_hasFarm 16 = .ok (.iconst 0, 1) := by decide +kernel
theorem dX1_hasFarm_17 : decode cX1_hasFarm 17 = .ok (.ireturn, 1) := by decide +kernel
theorem dX1_hasFarmer_0 : decode cX1_hasFarmer 0 = .ok (.iload_n 1, 1) := by decide +kernel
theorem dX1_hasFarmer_1 : decode cX1_hasFarmer 1 = .ok (.ifCond .lt 15, 3) := by decide +kernel
theorem dX1_hasFarmer_4 : decode cX1_hasFarmer 4 = .ok (.iload_n 1, 1) := by decide +kernel
theorem dX1_hasFarmer_5 : decode cX1_hasFarmer 5 = .ok (.aload_n 0, 1) := by decide +kernel
theorem dX1_hasFarmer_6 : decode cX1_hasFarmer 6 = .ok (.getfield 40, 3) := by decide +kernel
theorem dX1_hasFarmer_9 : decode cX1_hasFarmer 9 = .ok (.if_icmp .ge 7, 3) := by decide +kernel
theorem dX1_hasFarmer_12 : decode cX1_hasFarmer 12 = .ok (.iconst 1, 1) := by decide +kernel
theorem dX1_hasFarmer_13 : decode cX1_hasFarmer 13 = .ok (.goto 4, 3) := by decide +kernel
theorem dX1_hasFarmer_16 : decode cX1_hasFarmer 16 = .ok (.iconst 0, 1) := by decide +kernel
theorem dX1_hasFarmer_17 : decode cX1_hasFarmer 17 = .ok (.ireturn, 1) := by decide +kernel
theorem dX1_hasSort_0 : decode cX1_hasSort 0 = .ok (.iload_n 0, 1) := by decide +kernel
theorem dX1_hasSort_1 : decode cX1_hasSort 1 = .ok (.ifCond .lt 12, 3) := by decide +kernel
theorem dX1_hasSort_4 : decode cX1_hasSort 4 = .ok (.iload_n 0, 1) := by decide +kernel
theorem dX1_hasSort_5 : decode cX1_hasSort 5 = .ok (.iconst 3, 1) := by decide +kernel
theorem dX1_hasSort_6 : decode cX1_hasSort 6 = .ok (.if_icmp .ge 7, 3) := by decide +kernel
theorem dX1_hasSort_9 : decode cX1_hasSort 9 = .ok (.iconst 1, 1) := by decide +kernel
theorem dX1_hasSort_10 : decode cX1_hasSort 10 = .ok (.goto 4, 3) := by decide +kernel
theorem dX1_hasSort_13 : decode cX1_hasSort 13 = .ok (.iconst 0, 1) := by decide +kernel
theorem dX1_hasSort_14 : decode cX1_hasSort 14 = .ok (.ireturn, 1) := by decide +kernel
theorem dX1_hasYears_0 : decode cX1_hasYears 0 = .ok (.iload_n 1, 1) := by decide +kernel
theorem dX1_hasYears_1 : decode cX1_hasYears 1 = .ok (.sipush 999, 3) := by decide +kernel
theorem dX1_hasYears_4 : decode cX1_hasYears 4 = .ok (.aload_n 0, 1) := by decide +kernel
theorem dX1_hasYears_5 : decode cX1_hasYears 5 = .ok (.getfield 46, 3) := by decide +kernel
theorem dX1_hasYears_8 : decode cX1_hasYears 8 = .ok (.isub, 1) := by decide +kernel
theorem dX1_hasYears_9 : decode cX1_hasYears 9 = .ok (.if_icmp .gt 7, 3) := by decide +kernel
theorem dX1_hasYears_12 : decode cX1_hasYears 12 = .ok (.iconst 1, 1) := by decide +kernel
theorem dX1_hasYears_13 : decode cX1_hasYears 13 = .ok (.goto 4, 3) := by decide +kernel
theorem dX1_hasYears_16 : decode cX1_hasYears 16 = .ok (.iconst 0, 1) := by decide +kernel
theorem dX1_hasYears_17 : decode cX1_hasYears 17 = .ok (.ireturn, 1) := by decide +kernel
theorem dX1_heartOf_0 : decode cX1_heartOf 0 = .ok (.iconst 3, 1) := by decide +kernel
theorem dX1_heartOf_1 : decode cX1_heartOf 1 = .ok (.iload_n 1, 1) := by decide +kernel
theorem dX1_heartOf_2 : decode cX1_heartOf 2 = .ok (.imul, 1) := by decide +kernel
theorem dX1_heartOf_3 : decode cX1_heartOf 3 = .ok (.iload_n 2, 1) := by decide +kernel
theorem dX1_heartOf_4 : decode cX1_heartOf 4 = .ok (.iadd, 1) := by decide +kernel
theorem dX1_heartOf_5 : decode cX1_heartOf 5 = .ok (.istore_n 3, 1) := by decide +kernel
theorem dX1_heartOf_6 : decode cX1_heartOf 6 = .ok (.iload_n 3, 1) := by decide +kernel
theorem dX1_heartOf_7 : decode cX1_heartOf 7 = .ok (.ifCond .lt 21, 3) := by decide +kernel
theorem dX1_heartOf_10 : decode cX1_heartOf 10 = .ok (.iload_n 3, 1) := by decide +kernel
theorem dX1_heartOf_11 : decode cX1_heartOf 11 = .ok (.aload_n 0, 1) := by decide +kernel
theorem dX1_heartOf_12 : decode cX1_heartOf 12 = .ok (.getfield 15, 3) := by decide +kernel
theorem dX1_heartOf_15 : decode cX1_heartOf 15 = .ok (.arraylength, 1) := by decide +kernel
theorem dX1_heartOf_16 : decode cX1_heartOf 16 = .ok (.if_icmp .ge 12, 3) := by decide +kernel
theorem dX1_heartOf_19 : decode cX1_heartOf 19 = .ok (.aload_n 0, 1) := by decide +kernel
theorem dX1_heartOf_20 : decode cX1_heartOf 20 = .ok (.getfield 15, 3) := by decide +kernel
theorem dX1_heartOf_23 : decode cX1_heartOf 23 = .ok (.iload_n 3, 1) := by decide +kernel
theorem dX1_heartOf_24 : decode cX1_heartOf 24 = .ok (.iaload, 1) := by decide +kernel
theorem dX1_heartOf_25 : decode cX1_heartOf 25 = .ok (.goto 4, 3) := by decide +kernel
theorem dX1_heartOf_28 : decode cX1_heartOf 28 = .ok (.iconst 0, 1) := by decide +kernel
theorem dX1_heartOf_29 : decode cX1_heartOf 29 = .ok (.ireturn, 1) := by decide +kernel
theorem dX1_setHeart_0 : decode cX1_setHeart 0 = .ok (.iconst 3, 1) := by decide +kernel
theorem dX1_setHeart_1 : decode cX1_setHeart 1 = .ok (.iload_n 1, 1) := by decide +kernel
theorem dX1_setHeart_2 : decode cX1_setHeart 2 = .ok (.imul, 1) := by decide +kernel
theorem dX1_setHeart_3 : decode cX1_setHeart 3 = .ok (.iload_n 2, 1) := by decide +kernel
theorem dX1_setHeart_4 : decode cX1_setHeart 4 = .ok (.iadd, 1) := by decide +kernel
theorem dX1_setHeart_5 : decode cX1_setHeart 5 = .ok (.istore 4, 2) := by decide +kernel
theorem dX1_setHeart_7 : decode cX1_setHeart 7 = .ok (.iload 4, 2) := by decide +kernel
theorem dX1_setHeart_9 : decode cX1_setHeart 9 = .ok (.ifCond .lt 21, 3) := by decide +kernel
theorem dX1_setHeart_12 : decode cX1_setHeart 12 = .ok (.iload 4, 2) := by decide +kernel
theorem dX1_setHeart_14 : decode cX1_setHeart 14 = .ok (.aload_n 0, 1) := by decide +kernel
theorem dX1_setHeart_15 : decode cX1_setHeart 15 = .ok (.getfield 15, 3) := by decide +kernel
theorem dX1_setHeart_18 : decode cX1_setHeart 18 = .ok (.arraylength, 1) := by decide +kernel
theorem dX1_setHeart_19 : decode cX1_setHeart 19 = .ok (.if_icmp .ge 11, 3) := by decide +kernel
theorem dX1_setHeart_22 : decode cX1_setHeart 22 = .ok (.aload_n 0, 1) := by decide +kernel
theorem dX1_setHeart_23 : decode cX1_setHeart 23 = .ok (.getfield 15, 3) := by decide +kernel
theorem dX1_setHeart_26 : decode cX1_setHeart 26 = .ok (.iload 4, 2) := by decide +kernel
theorem dX1_setHeart_28 : decode cX1_setHeart 28 = .ok (.iload_n 3, 1) := by decide +kernel
theorem dX1_setHeart_29 : decode cX1_setHeart 29 = .ok (.iastore, 1) := by decide +kernel
theorem dX1_setHeart_30 : decode cX1_setHeart 30 = .ok (.return_, 1) := by decide +kernel
theorem dX1_addFarm_0 : decode cX1_addFarm 0 = .ok (.aload_n 0, 1) := by decide +kernel
theorem dX1_addFarm_1 : decode cX1_addFarm 1 = .ok (.getfield 37, 3) := by decide +kernel
theorem dX1_addFarm_4 : decode cX1_addFarm 4 = .ok (.bipush 6, 2) := by decide +kernel
theorem dX1_addFarm_6 : decode cX1_addFarm 6 = .ok (.if_icmp .lt 4, 3) := by decide +kernel
theorem dX1_addFarm_9 : decode cX1_addFarm 9 = .ok (.return_, 1) := by decide +kernel
theorem dX1_addFarm_10 : decode cX1_addFarm 10 = .ok (.aload_n 0, 1) := by decide +kernel
theorem dX1_addFarm_11 : decode cX1_addFarm 11 = .ok (.aload_n 0, 1) := by decide +kernel
theorem dX1_addFarm_12 : decode cX1_addFarm 12 = .ok (.getfield 37, 3) := by decide +kernel
theorem dX1_addFarm_15 : decode cX1_addFarm 15 = .ok (.iconst 0, 1) := by decide +kernel
theorem dX1_addFarm_16 : decode cX1_addFarm 16 = .ok (.iload_n 1, 1) := by decide +kernel
theorem dX1_addFarm_17 : decode cX1_addFarm 17 = .ok (.invokevirtual 55, 3) := by decide +kernel
theorem dX1_addFarm_20 : decode cX1_addFarm 20 = .ok (.aload_n 0, 1) := by decide +kernel
theorem dX1_addFarm_21 : decode cX1_addFarm 21 = .ok (.aload_n 0, 1) := by decide +kernel
theorem dX1_addFarm_22 : decode cX1_addFarm 22 = .ok (.getfield 37, 3) := by decide +kernel
theorem dX1_addFarm_25 : decode cX1_addFarm 25 = .ok (.iconst 1, 1) := by decide +kernel
theorem dX1_addFarm_26 : decode cX1_addFarm 26 = .ok (.iload_n 2, 1) := by decide +kernel
theorem dX1_addFarm_27 : decode cX1_addFarm 27 = .ok (.invokevirtual 55, 3) := by decide +kernel
theorem dX1_addFarm_30 : decode cX1_addFarm 30 = .ok (.aload_n 0, 1) := by decide +kernel
theorem dX1_addFarm_31 : decode cX1_addFarm 31 = .ok (.aload_n 0, 1) := by decide +kernel
theorem dX1_addFarm_32 : decode cX1_addFarm 32 = .ok (.getfield 37, 3) := by decide +kernel
theorem dX1_addFarm_35 : decode cX1_addFarm 35 = .ok (.iconst 2, 1) := by decide +kernel
theorem dX1_addFarm_36 : decode cX1_addFarm 36 = .ok (.iload_n 3, 1) := by decide +kernel
theorem dX1_addFarm_37 : decode cX1_addFarm 37 = .ok (.invokevirtual 55, 3) := by decide +kernel
theorem dX1_addFarm_40 : decode cX1_addFarm 40 = .ok (.aload_n 0, 1) := by decide +kernel
theorem dX1_addFarm_41 : decode cX1_addFarm 41 = .ok (.dup, 1) := by decide +kernel
theorem dX1_addFarm_42 : decode cX1_addFarm 42 = .ok (.getfield 37, 3) := by decide +kernel
theorem dX1_addFarm_45 : decode cX1_addFarm 45 = .ok (.iconst 1, 1) := by decide +kernel
theorem dX1_addFarm_46 : decode cX1_addFarm 46 = .ok (.iadd, 1) := by decide +kernel
theorem dX1_addFarm_47 : decode cX1_addFarm 47 = .ok (.putfield 37, 3) := by decide +kernel
theorem dX1_addFarm_50 : decode cX1_addFarm 50 = .ok (.return_, 1) := by decide +kernel
theorem dX1_addFarmer_0 : decode cX1_addFarmer 0 = .ok (.aload_n 0, 1) := by decide +kernel
theorem dX1_addFarmer_1 : decode cX1_addFarmer 1 = .ok (.getfield 40, 3) := by decide +kernel
theorem dX1_addFarmer_4 : decode cX1_addFarmer 4 = .ok (.bipush 6, 2) := by decide +kernel
theorem dX1_addFarmer_6 : decode cX1_addFarmer 6 = .ok (.if_icmp .lt 4, 3) := by decide +kernel
theorem dX1_addFarmer_9 : decode cX1_addFarmer 9 = .ok (.return_, 1) := by decide +kernel
theorem dX1_addFarmer_10 : decode cX1_addFarmer 10 = .ok (.aload_n 0, 1) := by decide +kernel
theorem dX1_addFarmer_11 : decode cX1_addFarmer 11 = .ok (.getfield 22, 3) := by decide +kernel
theorem dX1_addFarmer_14 : decode cX1_addFarmer 14 = .ok (.aload_n 0, 1) := by decide +kernel
theorem dX1_addFarmer_15 : decode cX1_addFarmer 15 = .ok (.getfield 40, 3) := by decide +kernel
theorem dX1_addFarmer_18 : decode cX1_addFarmer 18 = .ok (.iload_n 1, 1) := by decide +kernel
theorem dX1_addFarmer_19 : decode cX1_addFarmer 19 = .ok (.iastore, 1) := by decide +kernel
theorem dX1_addFarmer_20 : decode cX1_addFarmer 20 = .ok (.aload_n 0, 1) := by decide +kernel
theorem dX1_addFarmer_21 : decode cX1_addFarmer 21 = .ok (.getfield 25, 3) := by decide +kernel
theorem dX1_addFarmer_24 : decode cX1_addFarmer 24 = .ok (.aload_n 0, 1) := by decide +kernel
theorem dX1_addFarmer_25 : decode cX1_addFarmer 25 = .ok (.getfield 40, 3) := by decide +kernel
theorem dX1_addFarmer_28 : decode cX1_addFarmer 28 = .ok (.iload_n 2, 1) := by decide +kernel
theorem dX1_addFarmer_29 : decode cX1_addFarmer 29 = .ok (.iastore, 1) := by decide +kernel
theorem dX1_addFarmer_30 : decode cX1_addFarmer 30 = .ok (.aload_n 0, 1) := by decide +kernel
theorem dX1_addFarmer_31 : decode cX1_addFarmer 31 = .ok (.getfield 28, 3) := by decide +kernel
theorem dX1_addFarmer_34 : decode cX1_addFarmer 34 = .ok (.aload_n 0, 1) := by decide +kernel
theorem dX1_addFarmer_35 : decode cX1_addFarmer 35 = .ok (.getfield 40, 3) := by decide +kernel
theorem dX1_addFarmer_38 : decode cX1_addFarmer 38 = .ok (.iconst 0, 1) := by decide +kernel
theorem dX1_addFarmer_39 : decode cX1_addFarmer 39 = .ok (.iastore, 1) := by decide +kernel
theorem dX1_addFarmer_40 : decode cX1_addFarmer 40 = .ok (.aload_n 0, 1) := by decide +kernel
theorem dX1_addFarmer_41 : decode cX1_addFarmer 41 = .ok (.getfield 31, 3) := by decide +kernel
theorem dX1_addFarmer_44 : decode cX1_addFarmer 44 = .ok (.aload_n 0, 1) := by decide +kernel
theorem dX1_addFarmer_45 : decode cX1_addFarmer 45 = .ok (.getfield 40, 3) := by decide +kernel
theorem dX1_addFarmer_48 : decode cX1_addFarmer 48 = .ok (.bipush (-9), 2) := by decide +kernel
theorem dX1_addFarmer_50 : decode cX1_addFarmer 50 = .ok (.iastore, 1) := by decide +kernel
theorem dX1_addFarmer_51 : decode cX1_addFarmer 51 = .ok (.aload_n 0, 1) := by decide +kernel
theorem dX1_addFarmer_52 : decode cX1_addFarmer 52 = .ok (.dup, 1) := by decide +kernel
theorem dX1_addFarmer_53 : decode cX1_addFarmer 53 = .ok (.getfield 40, 3) := by decide +kernel
theorem dX1_addFarmer_56 : decode cX1_addFarmer 56 = .ok (.iconst 1, 1) := by decide +kernel
theorem dX1_addFarmer_57 : decode cX1_addFarmer 57 = .ok (.iadd, 1) := by decide +kernel
theorem dX1_addFarmer_58 : decode cX1_addFarmer 58 = .ok (.putfield 40, 3) := by decide +kernel
theorem dX1_addFarmer_61 : decode cX1_addFarmer 61 = .ok (.return_, 1) := by decide +kernel
theorem dX1_seat_0 : decode cX1_seat 0 = .ok (.aload_n 0, 1) := by decide +kernel
theorem dX1_seat_1 : decode cX1_seat 1 = .ok (.iload_n 2, 1) := by decide +kernel
theorem dX1_seat_2 : decode cX1_seat 2 = .ok (.invokevirtual 59, 3) := by decide +kernel
theorem dX1_seat_5 : decode cX1_seat 5 = .ok (.istore_n 3, 1) := by decide +kernel
theorem dX1_seat_6 : decode cX1_seat 6 = .ok (.iload_n 3, 1) := by decide +kernel
theorem dX1_seat_7 : decode cX1_seat 7 = .ok (.bipush (-9), 2) := by decide +kernel
theorem dX1_seat_9 : decode cX1_seat 9 = .ok (.if_icmp .eq 11, 3) := by decide +kernel
theorem dX1_seat_12 : decode cX1_seat 12 = .ok (.aload_n 0, 1) := by decide +kernel
theorem dX1_seat_13 : decode cX1_seat 13 = .ok (.getfield 31, 3) := by decide +kernel
theorem dX1_seat_16 : decode cX1_seat 16 = .ok (.iload_n 3, 1) := by decide +kernel
theorem dX1_seat_17 : decode cX1_seat 17 = .ok (.bipush (-9), 2) := by decide +kernel
theorem dX1_seat_19 : decode cX1_seat 19 = .ok (.iastore, 1) := by decide +kernel
theorem dX1_seat_20 : decode cX1_seat 20 = .ok (.aload_n 0, 1) := by decide +kernel
theorem dX1_seat_21 : decode cX1_seat 21 = .ok (.getfield 31, 3) := by decide +kernel
theorem dX1_seat_24 : decode cX1_seat 24 = .ok (.iload_n 1, 1) := by decide +kernel
theorem dX1_seat_25 : decode cX1_seat 25 = .ok (.iload_n 2, 1) := by decide +kernel
theorem dX1_seat_26 : decode cX1_seat 26 = .ok (.iastore, 1) := by decide +kernel
theorem dX1_seat_27 : decode cX1_seat 27 = .ok (.return_, 1) := by decide +kernel
theorem dX1_exchange_0 : decode cX1_exchange 0 = .ok (.aload_n 0, 1) := by decide +kernel
theorem dX1_exchange_1 : decode cX1_exchange 1 = .ok (.getfield 31, 3) := by decide +kernel
theorem dX1_exchange_4 : decode cX1_exchange 4 = .ok (.iload_n 1, 1) := by decide +kernel
theorem dX1_exchange_5 : decode cX1_exchange 5 = .ok (.iaload, 1) := by decide +kernel
theorem dX1_exchange_6 : decode cX1_exchange 6 = .ok (.istore_n 3, 1) := by decide +kernel
theorem dX1_exchange_7 : decode cX1_exchange 7 = .ok (.aload_n 0, 1) := by decide +kernel
theorem dX1_exchange_8 : decode cX1_exchange 8 = .ok (.getfield 31, 3) := by decide +kernel
theorem dX1_exchange_11 : decode cX1_exchange 11 = .ok (.iload_n 1, 1) := by decide +kernel
theorem dX1_exchange_12 : decode cX1_exchange 12 = .ok (.aload_n 0, 1) := by decide +kernel
theorem dX1_exchange_13 : decode cX1_exchange 13 = .ok (.getfield 31, 3) := by decide +kernel
theorem dX1_exchange_16 : decode cX1_exchange 16 = .ok (.iload_n 2, 1) := by decide +kernel
theorem dX1_exchange_17 : decode cX1_exchange 17 = .ok (.iaload, 1) := by decide +kernel
theorem dX1_exchange_18 : decode cX1_exchange 18 = .ok (.iastore, 1) := by decide +kernel
theorem dX1_exchange_19 : decode cX1_exchange 19 = .ok (.aload_n 0, 1) := by decide +kernel
theorem dX1_exchange_20 : decode cX1_exchange 20 = .ok (.getfield 31, 3) := by decide +kernel
theorem dX1_exchange_23 : decode cX1_exchange 23 = .ok (.iload_n 2, 1) := by decide +kernel
theorem dX1_exchange_24 : decode cX1_exchange 24 = .ok (.iload_n 3, 1) := by decide +kernel
theorem dX1_exchange_25 : decode cX1_exchange 25 = .ok (.iastore, 1) := by decide +kernel
theorem dX1_exchange_26 : decode cX1_exchange 26 = .ok (.return_, 1) := by decide +kernel
theorem dX1_tenantOf_0 : decode cX1_tenantOf 0 = .ok (.iconst 0, 1) := by decide +kernel
theorem dX1_tenantOf_1 : decode cX1_tenantOf 1 = .ok (.istore_n 2, 1) := by decide +kernel
theorem dX1_tenantOf_2 : decode cX1_tenantOf 2 = .ok (.iload_n 2, 1) := by decide +kernel
theorem dX1_tenantOf_3 : decode cX1_tenantOf 3 = .ok (.aload_n 0, 1) := by decide +kernel
theorem dX1_tenantOf_4 : decode cX1_tenantOf 4 = .ok (.getfield 40, 3) := by decide +kernel
theorem dX1_tenantOf_7 : decode cX1_tenantOf 7 = .ok (.if_icmp .ge 21, 3) := by decide +kernel
theorem dX1_tenantOf_10 : decode cX1_tenantOf 10 = .ok (.aload_n 0, 1) := by decide +kernel
theorem dX1_tenantOf_11 : decode cX1_tenantOf 11 = .ok (.getfield 31, 3) := by decide +kernel
theorem dX1_tenantOf_14 : decode cX1_tenantOf 14 = .ok (.iload_n 2, 1) := by decide +kernel
theorem dX1_tenantOf_15 : decode cX1_tenantOf 15 = .ok (.iaload, 1) := by decide +kernel
theorem dX1_tenantOf_16 : decode cX1_tenantOf 16 = .ok (.iload_n 1, 1) := by decide +kernel
theorem dX1_tenantOf_17 : decode cX1_tenantOf 17 = .ok (.if_icmp .ne 5, 3) := by decide +kernel
theorem dX1_tenantOf_20 : decode cX1_tenantOf 20 = .ok (.iload_n 2, 1) := by decide +kernel
theorem dX1_tenantOf_21 : decode cX1_tenantOf 21 = .ok (.ireturn, 1) := by decide +kernel
theorem dX1_tenantOf_22 : decode cX1_tenantOf 22 = .ok (.iinc 2 1, 3) := by decide +kernel
theorem dX1_tenantOf_25 : decode cX1_tenantOf 25 = .ok (.goto (-23), 3) := by decide +kernel
theorem dX1_tenantOf_28 : decode cX1_tenantOf 28 = .ok (.bipush (-9), 2) := by decide +kernel
theorem dX1_tenantOf_30 : decode cX1_tenantOf 30 = .ok (.ireturn, 1) := by decide +kernel
theorem dX1_greenOf_0 : decode cX1_greenOf 0 = .ok (.aload_n 0, 1) := by decide +kernel
theorem dX1_greenOf_1 : decode cX1_greenOf 1 = .ok (.iload_n 1, 1) := by decide +kernel
theorem dX1_greenOf_2 : decode cX1_greenOf 2 = .ok (.iconst 0, 1) := by decide +kernel
theorem dX1_greenOf_3 : decode cX1_greenOf 3 = .ok (.invokevirtual 63, 3) := by decide +kernel
theorem dX1_greenOf_6 : decode cX1_greenOf 6 = .ok (.aload_n 0, 1) := by decide +kernel
theorem dX1_greenOf_7 : decode cX1_greenOf 7 = .ok (.iload_n 1, 1) := by decide +kernel
theorem dX1_greenOf_8 : decode cX1_greenOf 8 = .ok (.iconst 1, 1) := by decide +kernel
theorem dX1_greenOf_9 : decode cX1_greenOf 9 = .ok (.invokevirtual 63, 3) := by decide +kernel
theorem dX1_greenOf_12 : decode cX1_greenOf 12 = .ok (.iadd, 1) := by decide +kernel
theorem dX1_greenOf_13 : decode cX1_greenOf 13 = .ok (.aload_n 0, 1) := by decide +kernel
theorem dX1_greenOf_14 : decode cX1_greenOf 14 = .ok (.iload_n 1, 1) := by decide +kernel
theorem dX1_greenOf_15 : decode cX1_greenOf 15 = .ok (.iconst 2, 1) := by decide +kernel
theorem dX1_greenOf_16 : decode cX1_greenOf 16 = .ok (.invokevirtual 63, 3) := by decide +kernel
theorem dX1_greenOf_19 : decode cX1_greenOf 19 = .ok (.iadd, 1) := by decide +kernel
theorem dX1_greenOf_20 : decode cX1_greenOf 20 = .ok (.ireturn, 1) := by decide +kernel
theorem dX1_greenOfAll_0 : decode cX1_greenOfAll 0 = .ok (.iconst 0, 1) := by decide +kernel
theorem dX1_greenOfAll_1 : decode cX1_greenOfAll 1 = .ok (.istore_n 1, 1) := by decide +kernel
theorem dX1_greenOfAll_2 : decode cX1_greenOfAll 2 = .ok (.iconst 0, 1) := by decide +kernel
theorem dX1_greenOfAll_3 : decode cX1_greenOfAll 3 = .ok (.istore_n 2, 1) := by decide +kernel
theorem dX1_greenOfAll_4 : decode cX1_greenOfAll 4 = .ok (.iload_n 2, 1) := by decide +kernel
theorem dX1_greenOfAll_5 : decode cX1_greenOfAll 5 = .ok (.aload_n 0, 1) := by decide +kernel
theorem dX1_greenOfAll_6 : decode cX1_greenOfAll 6 = .ok (.getfield 37, 3) := by decide +kernel
theorem dX1_greenOfAll_9 : decode cX1_greenOfAll 9 = .ok (.if_icmp .ge 17, 3) := by decide +kernel
theorem dX1_greenOfAll_12 : decode cX1_greenOfAll 12 = .ok (.iload_n 1, 1) := by decide +kernel
theorem dX1_greenOfAll_13 : decode cX1_greenOfAll 13 = .ok (.aload_n 0, 1) := by decide +kernel
theorem dX1_greenOfAll_14 : decode cX1_greenOfAll 14 = .ok (.iload_n 2, 1) := by decide +kernel
theorem dX1_greenOfAll_15 : decode cX1_greenOfAll 15 = .ok (.invokevirtual 67, 3) := by decide +kernel
theorem dX1_greenOfAll_18 : decode cX1_greenOfAll 18 = .ok (.iadd, 1) := by decide +kernel
theorem dX1_greenOfAll_19 : decode cX1_greenOfAll 19 = .ok (.istore_n 1, 1) := by decide +kernel
theorem dX1_greenOfAll_20 : decode cX1_greenOfAll 20 = .ok (.iinc 2 1, 3) := by decide +kernel
theorem dX1_greenOfAll_23 : decode cX1_greenOfAll 23 = .ok (.goto (-19), 3) := by decide +kernel
theorem dX1_greenOfAll_26 : decode cX1_greenOfAll 26 = .ok (.iload_n 1, 1) := by decide +kernel
theorem dX1_greenOfAll_27 : decode cX1_greenOfAll 27 = .ok (.ireturn, 1) := by decide +kernel
theorem dX1_greenestFarm_0 : decode cX1_greenestFarm 0 = .ok (.bipush (-9), 2) := by decide +kernel
theorem dX1_greenestFarm_2 : decode cX1_greenestFarm 2 = .ok (.istore_n 1, 1) := by decide +kernel
theorem dX1_greenestFarm_3 : decode cX1_greenestFarm 3 = .ok (.iconst 0, 1) := by decide +kernel
theorem dX1_greenestFarm_4 : decode cX1_greenestFarm 4 = .ok (.istore_n 2, 1) := by decide +kernel
theorem dX1_greenestFarm_5 : decode cX1_greenestFarm 5 = .ok (.iload_n 2, 1) := by decide +kernel
theorem dX1_greenestFarm_6 : decode cX1_greenestFarm 6 = .ok (.aload_n 0, 1) := by decide +kernel
theorem dX1_greenestFarm_7 : decode cX1_greenestFarm 7 = .ok (.getfield 37, 3) := by decide +kernel
theorem dX1_greenestFarm_10 : decode cX1_greenestFarm 10 = .ok (.if_icmp .ge 30, 3) := by decide +kernel
theorem dX1_greenestFarm_13 : decode cX1_greenestFarm 13 = .ok (.iload_n 1, 1) := by decide +kernel
theorem dX1_greenestFarm_14 : decode cX1_greenestFarm 14 = .ok (.bipush (-9), 2) := by decide +kernel
theorem dX1_greenestFarm_16 : decode cX1_greenestFarm 16 = .ok (.if_icmp .eq 16, 3) := by decide +kernel
theorem dX1_greenestFarm_19 : decode cX1_greenestFarm 19 = .ok (.aload_n 0, 1) := by decide +kernel
theorem dX1_greenestFarm_20 : decode cX1_greenestFarm 20 = .ok (.iload_n 2, 1) := by decide +kernel
theorem dX1_greenestFarm_21 : decode cX1_greenestFarm 21 = .ok (.invokevirtual 67, 3) := by decide +kernel
theorem dX1_greenestFarm_24 : decode cX1_greenestFarm 24 = .ok (.aload_n 0, 1) := by decide +kernel
theorem dX1_greenestFarm_25 : decode cX1_greenestFarm 25 = .ok (.iload_n 1, 1) := by decide +kernel
theorem dX1_greenestFarm_26 : decode cX1_greenestFarm 26 = .ok (.invokevirtual 67, 3) := by decide +kernel
theorem dX1_greenestFarm_29 : decode cX1_greenestFarm 29 = .ok (.if_icmp .le 5, 3) := by decide +kernel
theorem dX1_greenestFarm_32 : decode cX1_greenestFarm 32 = .ok (.iload_n 2, 1) := by decide +kernel
theorem dX1_greenestFarm_33 : decode cX1_greenestFarm 33 = .ok (.istore_n 1, 1) := by decide +kernel
theorem dX1_greenestFarm_34 : decode cX1_greenestFarm 34 = .ok (.iinc 2 1, 3) := by decide +kernel
theorem dX1_greenestFarm_37 : decode cX1_greenestFarm 37 = .ok (.goto (-32), 3) := by decide +kernel
theorem dX1_greenestFarm_40 : decode cX1_greenestFarm 40 = .ok (.iload_n 1, 1) := by decide +kernel
theorem dX1_greenestFarm_41 : decode cX1_greenestFarm 41 = .ok (.ireturn, 1) := by decide +kernel
theorem dX1_mostGreen_0 : decode cX1_mostGreen 0 = .ok (.aload_n 0, 1) := by decide +kernel
theorem dX1_mostGreen_1 : decode cX1_mostGreen 1 = .ok (.invokevirtual 70, 3) := by decide +kernel
theorem dX1_mostGreen_4 : decode cX1_mostGreen 4 = .ok (.istore_n 1, 1) := by decide +kernel
theorem dX1_mostGreen_5 : decode cX1_mostGreen 5 = .ok (.iload_n 1, 1) := by decide +kernel
theorem dX1_mostGreen_6 : decode cX1_mostGreen 6 = .ok (.bipush (-9), 2) := by decide +kernel
theorem dX1_mostGreen_8 : decode cX1_mostGreen 8 = .ok (.if_icmp .ne 7, 3) := by decide +kernel
theorem dX1_mostGreen_11 : decode cX1_mostGreen 11 = .ok (.iconst 0, 1) := by decide +kernel
theorem dX1_mostGreen_12 : decode cX1_mostGreen 12 = .ok (.goto 8, 3) := by decide +kernel
theorem dX1_mostGreen_15 : decode cX1_mostGreen 15 = .ok (.aload_n 0, 1) := by decide +kernel
theorem dX1_mostGreen_16 : decode cX1_mostGreen 16 = .ok (.iload_n 1, 1) := by decide +kernel
theorem dX1_mostGreen_17 : decode cX1_mostGreen 17 = .ok (.invokevirtual 67, 3) := by decide +kernel
theorem dX1_mostGreen_20 : decode cX1_mostGreen 20 = .ok (.ireturn, 1) := by decide +kernel
theorem dX1_leastGreen_0 : decode cX1_leastGreen 0 = .ok (.aload_n 0, 1) := by decide +kernel
theorem dX1_leastGreen_1 : decode cX1_leastGreen 1 = .ok (.invokevirtual 74, 3) := by decide +kernel
theorem dX1_leastGreen_4 : decode cX1_leastGreen 4 = .ok (.istore_n 1, 1) := by decide +kernel
theorem dX1_leastGreen_5 : decode cX1_leastGreen 5 = .ok (.iconst 0, 1) := by decide +kernel
theorem dX1_leastGreen_6 : decode cX1_leastGreen 6 = .ok (.istore_n 2, 1) := by decide +kernel
theorem dX1_leastGreen_7 : decode cX1_leastGreen 7 = .ok (.iload_n 2, 1) := by decide +kernel
theorem dX1_leastGreen_8 : decode cX1_leastGreen 8 = .ok (.aload_n 0, 1) := by decide +kernel
theorem dX1_leastGreen_9 : decode cX1_leastGreen 9 = .ok (.getfield 37, 3) := by decide +kernel
theorem dX1_leastGreen_12 : decode cX1_leastGreen 12 = .ok (.if_icmp .ge 19, 3) := by decide +kernel
theorem dX1_leastGreen_15 : decode cX1_leastGreen 15 = .ok (.iload_n 1, 1) := by decide +kernel
theorem dX1_leastGreen_16 : decode cX1_leastGreen 16 = .ok (.aload_n 0, 1) := by decide +kernel
theorem dX1_leastGreen_17 : decode cX1_leastGreen 17 = .ok (.iload_n 2, 1) := by decide +kernel
theorem dX1_leastGreen_18 : decode cX1_leastGreen 18 = .ok (.invokevirtual 67, 3) := by decide +kernel
theorem dX1_leastGreen_21 : decode cX1_leastGreen 21 = .ok (.invokestatic 77, 3) := by decide +kernel
theorem dX1_leastGreen_24 : decode cX1_leastGreen 24 = .ok (.istore_n 1, 1) := by decide +kernel
theorem dX1_leastGreen_25 : decode cX1_leastGreen 25 = .ok (.iinc 2 1, 3) := by decide +kernel
theorem dX1_leastGreen_28 : decode cX1_leastGreen 28 = .ok (.goto (-21), 3) := by decide +kernel
theorem dX1_leastGreen_31 : decode cX1_leastGreen 31 = .ok (.iload_n 1, 1) := by decide +kernel
theorem dX1_leastGreen_32 : decode cX1_leastGreen 32 = .ok (.ireturn, 1) := by decide +kernel
theorem dX1_firstBarrenFarm_0 : decode cX1_firstBarrenFarm 0 = .ok (.iconst 0, 1) := by decide +kernel
theorem dX1_firstBarrenFarm_1 : decode cX1_firstBarrenFarm 1 = .ok (.istore_n 1, 1) := by decide +kernel
theorem dX1_firstBarrenFarm_2 : decode cX1_firstBarrenFarm 2 = .ok (.iload_n 1, 1) := by decide +kernel
theorem dX1_firstBarrenFarm_3 : decode cX1_firstBarrenFarm 3 = .ok (.aload_n 0, 1) := by decide +kernel
theorem dX1_firstBarrenFarm_4 : decode cX1_firstBarrenFarm 4 = .ok (.getfield 37, 3) := by decide +kernel
theorem dX1_firstBarrenFarm_7 : decode cX1_firstBarrenFarm 7 = .ok (.if_icmp .ge 38, 3) := by decide +kernel
theorem dX1_firstBarrenFarm_10 : decode cX1_firstBarrenFarm 10 = .ok (.aload_n 0, 1) := by decide +kernel
theorem dX1_firstBarrenFarm_11 : decode cX1_firstBarrenFarm 11 = .ok (.iload_n 1, 1) := by decide +kernel
theorem dX1_firstBarrenFarm_12 : decode cX1_firstBarrenFarm 12 = .ok (.iconst 0, 1) := by decide +kernel
theorem dX1_firstBarrenFarm_13 : decode cX1_firstBarrenFarm 13 = .ok (.invokevirtual 63, 3) := by decide +kernel
theorem dX1_firstBarrenFarm_16 : decode cX1_firstBarrenFarm 16 = .ok (.ifCond .eq 21, 3) := by decide +kernel
theorem dX1_firstBarrenFarm_19 : decode cX1_firstBarrenFarm 19 = .ok (.aload_n 0, 1) := by decide +kernel
theorem dX1_firstBarrenFarm_20 : decode cX1_firstBarrenFarm 20 = .ok (.iload_n 1, 1) := by decide +kernel
theorem dX1_firstBarrenFarm_21 : decode cX1_firstBarrenFarm 21 = .ok (.iconst 1, 1) := by decide +kernel
theorem dX1_firstBarrenFarm_22 : decode cX1_firstBarrenFarm 22 = .ok (.invokevirtual 63, 3) := by decide +kernel
theorem dX1_firstBarrenFarm_25 : decode cX1_firstBarrenFarm 25 = .ok (.ifCond .eq 12, 3) := by decide +kernel
theorem dX1_firstBarrenFarm_28 : decode cX1_firstBarrenFarm 28 = .ok (.aload_n 0, 1) := by decide +kernel
theorem dX1_firstBarrenFarm_29 : decode cX1_firstBarrenFarm 29 = .ok (.iload_n 1, 1) := by decide +kernel
theorem dX1_firstBarrenFarm_30 : decode cX1_firstBarrenFarm 30 = .ok (.iconst 2, 1) := by decide +kernel
theorem dX1_firstBarrenFarm_31 : decode cX1_firstBarrenFarm 31 = .ok (.invokevirtual 63, 3) := by decide +kernel
theorem dX1_firstBarrenFarm_34 : decode cX1_firstBarrenFarm 34 = .ok (.ifCond .ne 5, 3) := by decide +kernel
theorem dX1_firstBarrenFarm_37 : decode cX1_firstBarrenFarm 37 = .ok (.iload_n 1, 1) := by decide +kernel
theorem dX1_firstBarrenFarm_38 : decode cX1_firstBarrenFarm 38 = .ok (.ireturn, 1) := by decide +kernel
theorem dX1_firstBarrenFarm_39 : decode cX1_firstBarrenFarm 39 = .ok (.iinc 1 1, 3) := by decide +kernel
theorem dX1_firstBarrenFarm_42 : decode cX1_firstBarrenFarm 42 = .ok (.goto (-40), 3) := by decide +kernel
theorem dX1_firstBarrenFarm_45 : decode cX1_firstBarrenFarm 45 = .ok (.bipush (-9), 2) := by decide +kernel
theorem dX1_firstBarrenFarm_47 : decode cX1_firstBarrenFarm 47 = .ok (.ireturn, 1) := by decide +kernel
theorem dX1_freeFarms_0 : decode cX1_freeFarms 0 = .ok (.iconst 1, 1) := by decide +kernel
theorem dX1_freeFarms_1 : decode cX1_freeFarms 1 = .ok (.aload_n 0, 1) := by decide +kernel
theorem dX1_freeFarms_2 : decode cX1_freeFarms 2 = .ok (.getfield 37, 3) := by decide +kernel
theorem dX1_freeFarms_5 : decode cX1_freeFarms 5 = .ok (.ishl, 1) := by decide +kernel
theorem dX1_freeFarms_6 : decode cX1_freeFarms 6 = .ok (.iconst 1, 1) := by decide +kernel
theorem dX1_freeFarms_7 : decode cX1_freeFarms 7 = .ok (.isub, 1) := by decide +kernel
theorem dX1_freeFarms_8 : decode cX1_freeFarms 8 = .ok (.istore_n 1, 1) := by decide +kernel
theorem dX1_freeFarms_9 : decode cX1_freeFarms 9 = .ok (.iconst 0, 1) := by decide +kernel
theorem dX1_freeFarms_10 : decode cX1_freeFarms 10 = .ok (.istore_n 2, 1) := by decide +kernel
theorem dX1_freeFarms_11 : decode cX1_freeFarms 11 = .ok (.iload_n 2, 1) := by decide +kernel
theorem dX1_freeFarms_12 : decode cX1_freeFarms 12 = .ok (.aload_n 0, 1) := by decide +kernel
theorem dX1_freeFarms_13 : decode cX1_freeFarms 13 = .ok (.getfield 40, 3) := by decide +kernel
theorem dX1_freeFarms_16 : decode cX1_freeFarms 16 = .ok (.if_icmp .ge 33, 3) := by decide +kernel
theorem dX1_freeFarms_19 : decode cX1_freeFarms 19 = .ok (.aload_n 0, 1) := by decide +kernel
theorem dX1_freeFarms_20 : decode cX1_freeFarms 20 = .ok (.getfield 31, 3) := by decide +kernel
theorem dX1_freeFarms_23 : decode cX1_freeFarms 23 = .ok (.iload_n 2, 1) := by decide +kernel
theorem dX1_freeFarms_24 : decode cX1_freeFarms 24 = .ok (.iaload, 1) := by decide +kernel
theorem dX1_freeFarms_25 : decode cX1_freeFarms 25 = .ok (.bipush (-9), 2) := by decide +kernel
theorem dX1_freeFarms_27 : decode cX1_freeFarms 27 = .ok (.if_icmp .eq 16, 3) := by decide +kernel
theorem dX1_freeFarms_30 : decode cX1_freeFarms 30 = .ok (.iload_n 1, 1) := by decide +kernel
theorem dX1_freeFarms_31 : decode cX1_freeFarms 31 = .ok (.iconst 1, 1) := by decide +kernel
theorem dX1_freeFarms_32 : decode cX1_freeFarms 32 = .ok (.aload_n 0, 1) := by decide +kernel
theorem dX1_freeFarms_33 : decode cX1_freeFarms 33 = .ok (.getfield 31, 3) := by decide +kernel
theorem dX1_freeFarms_36 : decode cX1_freeFarms 36 = .ok (.iload_n 2, 1) := by decide +kernel
theorem dX1_freeFarms_37 : decode cX1_freeFarms 37 = .ok (.iaload, 1) := by decide +kernel
theorem dX1_freeFarms_38 : decode cX1_freeFarms 38 = .ok (.ishl, 1) := by decide +kernel
theorem dX1_freeFarms_39 : decode cX1_freeFarms 39 = .ok (.iconst (-1), 1) := by decide +kernel
theorem dX1_freeFarms_40 : decode cX1_freeFarms 40 = .ok (.ixor, 1) := by decide +kernel
theorem dX1_freeFarms_41 : decode cX1_freeFarms 41 = .ok (.iand, 1) := by decide +kernel
theorem dX1_freeFarms_42 : decode cX1_freeFarms 42 = .ok (.istore_n 1, 1) := by decide +kernel
theorem dX1_freeFarms_43 : decode cX1_freeFarms 43 = .ok (.iinc 2 1, 3) := by decide +kernel
theorem dX1_freeFarms_46 : decode cX1_freeFarms 46 = .ok (.goto (-35), 3) := by decide +kernel
theorem dX1_freeFarms_49 : decode cX1_freeFarms 49 = .ok (.iload_n 1, 1) := by decide +kernel
theorem dX1_freeFarms_50 : decode cX1_freeFarms 50 = .ok (.ireturn, 1) := by decide +kernel
theorem dX1_idleFarmers_0 : decode cX1_idleFarmers 0 = .ok (.iconst 0, 1) := by decide +kernel
theorem dX1_idleFarmers_1 : decode cX1_idleFarmers 1 = .ok (.istore_n 1, 1) := by decide +kernel
theorem dX1_idleFarmers_2 : decode cX1_idleFarmers 2 = .ok (.iconst 0, 1) := by decide +kernel
theorem dX1_idleFarmers_3 : decode cX1_idleFarmers 3 = .ok (.istore_n 2, 1) := by decide +kernel
theorem dX1_idleFarmers_4 : decode cX1_idleFarmers 4 = .ok (.iload_n 2, 1) := by decide +kernel
theorem dX1_idleFarmers_5 : decode cX1_idleFarmers 5 = .ok (.aload_n 0, 1) := by decide +kernel
theorem dX1_idleFarmers_6 : decode cX1_idleFarmers 6 = .ok (.getfield 40, 3) := by decide +kernel
theorem dX1_idleFarmers_9 : decode cX1_idleFarmers 9 = .ok (.if_icmp .ge 30, 3) := by decide +kernel
theorem dX1_idleFarmers_12 : decode cX1_idleFarmers 12 = .ok (.iload_n 1, 1) := by decide +kernel
theorem dX1_idleFarmers_13 : decode cX1_idleFarmers 13 = .ok (.aload_n 0, 1) := by decide +kernel
theorem dX1_idleFarmers_14 : decode cX1_idleFarmers 14 = .ok (.getfield 31, 3) := by decide +kernel
theorem dX1_idleFarmers_17 : decode cX1_idleFarmers 17 = .ok (.iload_n 2, 1) := by decide +kernel
theorem dX1_idleFarmers_18 : decode cX1_idleFarmers 18 = .ok (.iaload, 1) := by decide +kernel
theorem dX1_idleFarmers_19 : decode cX1_idleFarmers 19 = .ok (.bipush (-9), 2) := by decide +kernel
theorem dX1_idleFarmers_21 : decode cX1_idleFarmers 21 = .ok (.if_icmp .ne 9, 3) := by decide +kernel
theorem dX1_idleFarmers_24 : decode cX1_idleFarmers 24 = .ok (.iconst 1, 1) := by decide +kernel
theorem dX1_idleFarmers_25 : decode cX1_idleFarmers 25 = .ok (.iload_n 2, 1) := by decide +kernel
theorem dX1_idleFarmers_26 : decode cX1_idleFarmers 26 = .ok (.ishl, 1) := by decide +kernel
theorem dX1_idleFarmers_27 : decode cX1_idleFarmers 27 = .ok (.goto 4, 3) := by decide +kernel
theorem dX1_idleFarmers_30 : decode cX1_idleFarmers 30 = .ok (.iconst 0, 1) := by decide +kernel
theorem dX1_idleFarmers_31 : decode cX1_idleFarmers 31 = .ok (.ior, 1) := by decide +kernel
theorem dX1_idleFarmers_32 : decode cX1_idleFarmers 32 = .ok (.istore_n 1, 1) := by decide +kernel
theorem dX1_idleFarmers_33 : decode cX1_idleFarmers 33 = .ok (.iinc 2 1, 3) := by decide +kernel
theorem dX1_idleFarmers_36 : decode cX1_idleFarmers 36 = .ok (.goto (-32), 3) := by decide +kernel
theorem dX1_idleFarmers_39 : decode cX1_idleFarmers 39 = .ok (.iload_n 1, 1) := by decide +kernel
theorem dX1_idleFarmers_40 : decode cX1_idleFarmers 40 = .ok (.ireturn, 1) := by decide +kernel
theorem dX1_wornFarmers_0 : decode cX1_wornFarmers 0 = .ok (.iconst 0, 1) := by decide +kernel
theorem dX1_wornFarmers_1 : decode cX1_wornFarmers 1 = .ok (.istore_n 1, 1) := by decide +kernel
theorem dX1_wornFarmers_2 : decode cX1_wornFarmers 2 = .ok (.iconst 0, 1) := by decide +kernel
theorem dX1_wornFarmers_3 : decode cX1_wornFarmers 3 = .ok (.istore_n 2, 1) := by decide +kernel
theorem dX1_wornFarmers_4 : decode cX1_wornFarmers 4 = .ok (.iload_n 2, 1) := by decide +kernel
theorem dX1_wornFarmers_5 : decode cX1_wornFarmers 5 = .ok (.aload_n 0, 1) := by decide +kernel
theorem dX1_wornFarmers_6 : decode cX1_wornFarmers 6 = .ok (.getfield 40, 3) := by decide +kernel
theorem dX1_wornFarmers_9 : decode cX1_wornFarmers 9 = .ok (.if_icmp .ge 27, 3) := by decide +kernel
theorem dX1_wornFarmers_12 : decode cX1_wornFarmers 12 = .ok (.iload_n 1, 1) := by decide +kernel
theorem dX1_wornFarmers_13 : decode cX1_wornFarmers 13 = .ok (.aload_n 0, 1) := by decide +kernel
theorem dX1_wornFarmers_14 : decode cX1_wornFarmers 14 = .ok (.iload_n 2, 1) := by decide +kernel
theorem dX1_wornFarmers_15 : decode cX1_wornFarmers 15 = .ok (.invokevirtual 82, 3) := by decide +kernel
theorem dX1_wornFarmers_18 : decode cX1_wornFarmers 18 = .ok (.ifCond .eq 9, 3) := by decide +kernel
theorem dX1_wornFarmers_21 : decode cX1_wornFarmers 21 = .ok (.iconst 1, 1) := by decide +kernel
theorem dX1_wornFarmers_22 : decode cX1_wornFarmers 22 = .ok (.iload_n 2, 1) := by decide +kernel
theorem dX1_wornFarmers_23 : decode cX1_wornFarmers 23 = .ok (.ishl, 1) := by decide +kernel
theorem dX1_wornFarmers_24 : decode cX1_wornFarmers 24 = .ok (.goto 4, 3) := by decide +kernel
theorem dX1_wornFarmers_27 : decode cX1_wornFarmers 27 = .ok (.iconst 0, 1) := by decide +kernel
theorem dX1_wornFarmers_28 : decode cX1_wornFarmers 28 = .ok (.ior, 1) := by decide +kernel
theorem dX1_wornFarmers_29 : decode cX1_wornFarmers 29 = .ok (.istore_n 1, 1) := by decide +kernel
theorem dX1_wornFarmers_30 : decode cX1_wornFarmers 30 = .ok (.iinc 2 1, 3) := by decide +kernel
theorem dX1_wornFarmers_33 : decode cX1_wornFarmers 33 = .ok (.goto (-29), 3) := by decide +kernel
theorem dX1_wornFarmers_36 : decode cX1_wornFarmers 36 = .ok (.iload_n 1, 1) := by decide +kernel
theorem dX1_wornFarmers_37 : decode cX1_wornFarmers 37 = .ok (.ireturn, 1) := by decide +kernel
theorem dX1_isWorn_0 : decode cX1_isWorn 0 = .ok (.aload_n 0, 1) := by decide +kernel
theorem dX1_isWorn_1 : decode cX1_isWorn 1 = .ok (.getfield 28, 3) := by decide +kernel
theorem dX1_isWorn_4 : decode cX1_isWorn 4 = .ok (.iload_n 1, 1) := by decide +kernel
theorem dX1_isWorn_5 : decode cX1_isWorn 5 = .ok (.iaload, 1) := by decide +kernel
theorem dX1_isWorn_6 : decode cX1_isWorn 6 = .ok (.bipush 10, 2) := by decide +kernel
theorem dX1_isWorn_8 : decode cX1_isWorn 8 = .ok (.if_icmp .lt 7, 3) := by decide +kernel
theorem dX1_isWorn_11 : decode cX1_isWorn 11 = .ok (.iconst 1, 1) := by decide +kernel
theorem dX1_isWorn_12 : decode cX1_isWorn 12 = .ok (.goto 4, 3) := by decide +kernel
theorem dX1_isWorn_15 : decode cX1_isWorn 15 = .ok (.iconst 0, 1) := by decide +kernel
theorem dX1_isWorn_16 : decode cX1_isWorn 16 = .ok (.ireturn, 1) := by decide +kernel
theorem dX1_grownAt_0 : decode cX1_grownAt 0 = .ok (.aload_n 0, 1) := by decide +kernel
theorem dX1_grownAt_1 : decode cX1_grownAt 1 = .ok (.iload_n 1, 1) := by decide +kernel
theorem dX1_grownAt_2 : decode cX1_grownAt 2 = .ok (.invokevirtual 82, 3) := by decide +kernel
theorem dX1_grownAt_5 : decode cX1_grownAt 5 = .ok (.ifCond .eq 7, 3) := by decide +kernel
theorem dX1_grownAt_8 : decode cX1_grownAt 8 = .ok (.iconst 0, 1) := by decide +kernel
theorem dX1_grownAt_9 : decode cX1_grownAt 9 = .ok (.goto 24, 3) := by decide +kernel
theorem dX1_grownAt_12 : decode cX1_grownAt 12 = .ok (.aload_n 0, 1) := by decide +kernel
theorem dX1_grownAt_13 : decode cX1_grownAt 13 = .ok (.getfield 22, 3) := by decide +kernel
theorem dX1_grownAt_16 : decode cX1_grownAt 16 = .ok (.iload_n 1, 1) := by decide +kernel
theorem dX1_grownAt_17 : decode cX1_grownAt 17 = .ok (.iaload, 1) := by decide +kernel
theorem dX1_grownAt_18 : decode cX1_grownAt 18 = .ok (.aload_n 0, 1) := by decide +kernel
theorem dX1_grownAt_19 : decode cX1_grownAt 19 = .ok (.iload_n 2, 1) := by decide +kernel
theorem dX1_grownAt_20 : decode cX1_grownAt 20 = .ok (.iconst 0, 1) := by decide +kernel
theorem dX1_grownAt_21 : decode cX1_grownAt 21 = .ok (.invokevirtual 63, 3) := by decide +kernel
theorem dX1_grownAt_24 : decode cX1_grownAt 24 = .ok (.aload_n 0, 1) := by decide +kernel
theorem dX1_grownAt_25 : decode cX1_grownAt 25 = .ok (.iload_n 2, 1) := by decide +kernel
theorem dX1_grownAt_26 : decode cX1_grownAt 26 = .ok (.iconst 1, 1) := by decide +kernel
theorem dX1_grownAt_27 : decode cX1_grownAt 27 = .ok (.invokevirtual 63, 3) := by decide +kernel
theorem dX1_grownAt_30 : decode cX1_grownAt 30 = .ok (.invokestatic 86, 3) := by decide +kernel
theorem dX1_grownAt_33 : decode cX1_grownAt 33 = .ok (.ireturn, 1) := by decide +kernel
theorem dX1_grownNow_0 : decode cX1_grownNow 0 = .ok (.aload_n 0, 1) := by decide +kernel
theorem dX1_grownNow_1 : decode cX1_grownNow 1 = .ok (.aload_n 0, 1) := by decide +kernel
theorem dX1_grownNow_2 : decode cX1_grownNow 2 = .ok (.getfield 31, 3) := by decide +kernel
theorem dX1_grownNow_5 : decode cX1_grownNow 5 = .ok (.iload_n 1, 1) := by decide +kernel
theorem dX1_grownNow_6 : decode cX1_grownNow 6 = .ok (.iaload, 1) := by decide +kernel
theorem dX1_grownNow_7 : decode cX1_grownNow 7 = .ok (.invokevirtual 92, 3) := by decide +kernel
theorem dX1_grownNow_10 : decode cX1_grownNow 10 = .ok (.ifCond .eq 17, 3) := by decide +kernel
theorem dX1_grownNow_13 : decode cX1_grownNow 13 = .ok (.aload_n 0, 1) := by decide +kernel
theorem dX1_grownNow_14 : decode cX1_grownNow 14 = .ok (.iload_n 1, 1) := by decide +kernel
theorem dX1_grownNow_15 : decode cX1_grownNow 15 = .ok (.aload_n 0, 1) := by decide +kernel
theorem dX1_grownNow_16 : decode cX1_grownNow 16 = .ok (.getfield 31, 3) := by decide +kernel
theorem dX1_grownNow_19 : decode cX1_grownNow 19 = .ok (.iload_n 1, 1) := by decide +kernel
theorem dX1_grownNow_20 : decode cX1_grownNow 20 = .ok (.iaload, 1) := by decide +kernel
theorem dX1_grownNow_21 : decode cX1_grownNow 21 = .ok (.invokevirtual 95, 3) := by decide +kernel
theorem dX1_grownNow_24 : decode cX1_grownNow 24 = .ok (.goto 4, 3) := by decide +kernel
theorem dX1_grownNow_27 : decode cX1_grownNow 27 = .ok (.iconst 0, 1) := by decide +kernel
theorem dX1_grownNow_28 : decode cX1_grownNow 28 = .ok (.ireturn, 1) := by decide +kernel
theorem dX1_feedingKind_0 : decode cX1_feedingKind 0 = .ok (.iconst 0, 1) := by decide +kernel
theorem dX1_feedingKind_1 : decode cX1_feedingKind 1 = .ok (.istore_n 2, 1) := by decide +kernel
theorem dX1_feedingKind_2 : decode cX1_feedingKind 2 = .ok (.iconst 1, 1) := by decide +kernel
theorem dX1_feedingKind_3 : decode cX1_feedingKind 3 = .ok (.istore_n 3, 1) := by decide +kernel
theorem dX1_feedingKind_4 : decode cX1_feedingKind 4 = .ok (.iload_n 3, 1) := by decide +kernel
theorem dX1_feedingKind_5 : decode cX1_feedingKind 5 = .ok (.bipush 6, 2) := by decide +kernel
theorem dX1_feedingKind_7 : decode cX1_feedingKind 7 = .ok (.if_icmp .ge 26, 3) := by decide +kernel
theorem dX1_feedingKind_10 : decode cX1_feedingKind 10 = .ok (.aload_n 0, 1) := by decide +kernel
theorem dX1_feedingKind_11 : decode cX1_feedingKind 11 = .ok (.iload_n 1, 1) := by decide +kernel
theorem dX1_feedingKind_12 : decode cX1_feedingKind 12 = .ok (.iload_n 3, 1) := by decide +kernel
theorem dX1_feedingKind_13 : decode cX1_feedingKind 13 = .ok (.invokevirtual 98, 3) := by decide +kernel
theorem dX1_feedingKind_16 : decode cX1_feedingKind 16 = .ok (.aload_n 0, 1) := by decide +kernel
theorem dX1_feedingKind_17 : decode cX1_feedingKind 17 = .ok (.iload_n 1, 1) := by decide +kernel
theorem dX1_feedingKind_18 : decode cX1_feedingKind 18 = .ok (.iload_n 2, 1) := by decide +kernel
theorem dX1_feedingKind_19 : decode cX1_feedingKind 19 = .ok (.invokevirtual 98, 3) := by decide +kernel
theorem dX1_feedingKind_22 : decode cX1_feedingKind 22 = .ok (.if_icmp .le 5, 3) := by decide +kernel
theorem dX1_feedingKind_25 : decode cX1_feedingKind 25 = .ok (.iload_n 3, 1) := by decide +kernel
theorem dX1_feedingKind_26 : decode cX1_feedingKind 26 = .ok (.istore_n 2, 1) := by decide +kernel
theorem dX1_feedingKind_27 : decode cX1_feedingKind 27 = .ok (.iinc 3 1, 3) := by decide +kernel
theorem dX1_feedingKind_30 : decode cX1_feedingKind 30 = .ok (.goto (-26), 3) := by decide +kernel
theorem dX1_feedingKind_33 : decode cX1_feedingKind 33 = .ok (.iload_n 2, 1) := by decide +kernel
theorem dX1_feedingKind_34 : decode cX1_feedingKind 34 = .ok (.ireturn, 1) := by decide +kernel
theorem dX1_greenFedBy_0 : decode cX1_greenFedBy 0 = .ok (.iconst 0, 1) := by decide +kernel
theorem dX1_greenFedBy_1 : decode cX1_greenFedBy 1 = .ok (.istore_n 3, 1) := by decide +kernel
theorem dX1_greenFedBy_2 : decode cX1_greenFedBy 2 = .ok (.iconst 0, 1) := by decide +kernel
theorem dX1_greenFedBy_3 : decode cX1_greenFedBy 3 = .ok (.istore 4, 2) := by decide +kernel
theorem dX1_greenFedBy_5 : decode cX1_greenFedBy 5 = .ok (.iload 4, 2) := by decide +kernel
theorem dX1_greenFedBy_7 : decode cX1_greenFedBy 7 = .ok (.iconst 3, 1) := by decide +kernel
theorem dX1_greenFedBy_8 : decode cX1_greenFedBy 8 = .ok (.if_icmp .ge 31, 3) := by decide +kernel
theorem dX1_greenFedBy_11 : decode cX1_greenFedBy 11 = .ok (.iload_n 3, 1) := by decide +kernel
theorem dX1_greenFedBy_12 : decode cX1_greenFedBy 12 = .ok (.aload_n 0, 1) := by decide +kernel
theorem dX1_greenFedBy_13 : decode cX1_greenFedBy 13 = .ok (.iload_n 1, 1) := by decide +kernel
theorem dX1_greenFedBy_14 : decode cX1_greenFedBy 14 = .ok (.iload 4, 2) := by decide +kernel
theorem dX1_greenFedBy_16 : decode cX1_greenFedBy 16 = .ok (.invokevirtual 63, 3) := by decide +kernel
theorem dX1_greenFedBy_19 : decode cX1_greenFedBy 19 = .ok (.iload_n 2, 1) := by decide +kernel
theorem dX1_greenFedBy_20 : decode cX1_greenFedBy 20 = .ok (.bipush 9, 2) := by decide +kernel
theorem dX1_greenFedBy_22 : decode cX1_greenFedBy 22 = .ok (.iload 4, 2) := by decide +kernel
theorem dX1_greenFedBy_24 : decode cX1_greenFedBy 24 = .ok (.invokestatic 101, 3) := by decide +kernel
theorem dX1_greenFedBy_27 : decode cX1_greenFedBy 27 = .ok (.iadd, 1) := by decide +kernel
theorem dX1_greenFedBy_28 : decode cX1_greenFedBy 28 = .ok (.invokestatic 104, 3) := by decide +kernel
theorem dX1_greenFedBy_31 : decode cX1_greenFedBy 31 = .ok (.iadd, 1) := by decide +kernel
theorem dX1_greenFedBy_32 : decode cX1_greenFedBy 32 = .ok (.istore_n 3, 1) := by decide +kernel
theorem dX1_greenFedBy_33 : decode cX1_greenFedBy 33 = .ok (.iinc 4 1, 3) := by decide +kernel
theorem dX1_greenFedBy_36 : decode cX1_greenFedBy 36 = .ok (.goto (-31), 3) := by decide +kernel
theorem dX1_greenFedBy_39 : decode cX1_greenFedBy 39 = .ok (.iload_n 3, 1) := by decide +kernel
theorem dX1_greenFedBy_40 : decode cX1_greenFedBy 40 = .ok (.ireturn, 1) := by decide +kernel
theorem dX1_grownIn_0 : decode cX1_grownIn 0 = .ok (.iconst 0, 1) := by decide +kernel
theorem dX1_grownIn_1 : decode cX1_grownIn 1 = .ok (.istore_n 2, 1) := by decide +kernel
theorem dX1_grownIn_2 : decode cX1_grownIn 2 = .ok (.iconst 0, 1) := by decide +kernel
theorem dX1_grownIn_3 : decode cX1_grownIn 3 = .ok (.istore_n 3, 1) := by decide +kernel
theorem dX1_grownIn_4 : decode cX1_grownIn 4 = .ok (.iload_n 3, 1) := by decide +kernel
theorem dX1_grownIn_5 : decode cX1_grownIn 5 = .ok (.iload_n 1, 1) := by decide +kernel
theorem dX1_grownIn_6 : decode cX1_grownIn 6 = .ok (.if_icmp .ge 20, 3) := by decide +kernel
theorem dX1_grownIn_9 : decode cX1_grownIn 9 = .ok (.aload_n 0, 1) := by decide +kernel
theorem dX1_grownIn_10 : decode cX1_grownIn 10 = .ok (.invokevirtual 107, 3) := by decide +kernel
theorem dX1_grownIn_13 : decode cX1_grownIn 13 = .ok (.iload_n 2, 1) := by decide +kernel
theorem dX1_grownIn_14 : decode cX1_grownIn 14 = .ok (.aload_n 0, 1) := by decide +kernel
theorem dX1_grownIn_15 : decode cX1_grownIn 15 = .ok (.getfield 110, 3) := by decide +kernel
theorem dX1_grownIn_18 : decode cX1_grownIn 18 = .ok (.iadd, 1) := by decide +kernel
theorem dX1_grownIn_19 : decode cX1_grownIn 19 = .ok (.istore_n 2, 1) := by decide +kernel
theorem dX1_grownIn_20 : decode cX1_grownIn 20 = .ok (.iinc 3 1, 3) := by decide +kernel
theorem dX1_grownIn_23 : decode cX1_grownIn 23 = .ok (.goto (-19), 3) := by decide +kernel
theorem dX1_grownIn_26 : decode cX1_grownIn 26 = .ok (.iload_n 2, 1) := by decide +kernel
theorem dX1_grownIn_27 : decode cX1_grownIn 27 = .ok (.ireturn, 1) := by decide +kernel
theorem dX1_passYear_0 : decode cX1_passYear 0 = .ok (.aload_n 0, 1) := by decide +kernel
theorem dX1_passYear_1 : decode cX1_passYear 1 = .ok (.dup, 1) := by decide +kernel
theorem dX1_passYear_2 : decode cX1_passYear 2 = .ok (.getfield 46, 3) := by decide +kernel
theorem dX1_passYear_5 : decode cX1_passYear 5 = .ok (.iconst 1, 1) := by decide +kernel
theorem dX1_passYear_6 : decode cX1_passYear 6 = .ok (.iadd, 1) := by decide +kernel
theorem dX1_passYear_7 : decode cX1_passYear 7 = .ok (.putfield 46, 3) := by decide +kernel
theorem dX1_passYear_10 : decode cX1_passYear 10 = .ok (.aload_n 0, 1) := by decide +kernel
theorem dX1_passYear_11 : decode cX1_passYear 11 = .ok (.iconst 0, 1) := by decide +kernel
theorem dX1_passYear_12 : decode cX1_passYear 12 = .ok (.putfield 110, 3) := by decide +kernel
theorem dX1_passYear_15 : decode cX1_passYear 15 = .ok (.aload_n 0, 1) := by decide +kernel
theorem dX1_passYear_16 : decode cX1_passYear 16 = .ok (.invokevirtual 113, 3) := by decide +kernel
theorem dX1_passYear_19 : decode cX1_passYear 19 = .ok (.istore_n 1, 1) := by decide +kernel
theorem dX1_passYear_20 : decode cX1_passYear 20 = .ok (.iconst 0, 1) := by decide +kernel
theorem dX1_passYear_21 : decode cX1_passYear 21 = .ok (.istore_n 2, 1) := by decide +kernel
theorem dX1_passYear_22 : decode cX1_passYear 22 = .ok (.iload_n 2, 1) := by decide +kernel
theorem dX1_passYear_23 : decode cX1_passYear 23 = .ok (.aload_n 0, 1) := by decide +kernel
theorem dX1_passYear_24 : decode cX1_passYear 24 = .ok (.getfield 37, 3) := by decide +kernel
theorem dX1_passYear_27 : decode cX1_passYear 27 = .ok (.if_icmp .ge 29, 3) := by decide +kernel
theorem dX1_passYear_30 : decode cX1_passYear 30 = .ok (.aload_n 0, 1) := by decide +kernel
theorem dX1_passYear_31 : decode cX1_passYear 31 = .ok (.getfield 19, 3) := by decide +kernel
theorem dX1_passYear_34 : decode cX1_passYear 34 = .ok (.iload_n 2, 1) := by decide +kernel
theorem dX1_passYear_35 : decode cX1_passYear 35 = .ok (.iconst 0, 1) := by decide +kernel
theorem dX1_passYear_36 : decode cX1_passYear 36 = .ok (.iastore, 1) := by decide +kernel
theorem dX1_passYear_37 : decode cX1_passYear 37 = .ok (.iload_n 1, 1) := by decide +kernel
theorem dX1_passYear_38 : decode cX1_passYear 38 = .ok (.iconst 1, 1) := by decide +kernel
theorem dX1_passYear_39 : decode cX1_passYear 39 = .ok (.iload_n 2, 1) := by decide +kernel
theorem dX1_passYear_40 : decode cX1_passYear 40 = .ok (.ishl, 1) := by decide +kernel
theorem dX1_passYear_41 : decode cX1_passYear 41 = .ok (.iand, 1) := by decide +kernel
theorem dX1_passYear_42 : decode cX1_passYear 42 = .ok (.ifCond .eq 8, 3) := by decide +kernel
theorem dX1_passYear_45 : decode cX1_passYear 45 = .ok (.aload_n 0, 1) := by decide +kernel
theorem dX1_passYear_46 : decode cX1_passYear 46 = .ok (.iload_n 2, 1) := by decide +kernel
theorem dX1_passYear_47 : decode cX1_passYear 47 = .ok (.invokevirtual 116, 3) := by decide +kernel
theorem dX1_passYear_50 : decode cX1_passYear 50 = .ok (.iinc 2 1, 3) := by decide +kernel
theorem dX1_passYear_53 : decode cX1_passYear 53 = .ok (.goto (-31), 3) := by decide +kernel
theorem dX1_passYear_56 : decode cX1_passYear 56 = .ok (.iconst 0, 1) := by decide +kernel
theorem dX1_passYear_57 : decode cX1_passYear 57 = .ok (.istore_n 2, 1) := by decide +kernel
theorem dX1_passYear_58 : decode cX1_passYear 58 = .ok (.iload_n 2, 1) := by decide +kernel
theorem dX1_passYear_59 : decode cX1_passYear 59 = .ok (.aload_n 0, 1) := by decide +kernel
theorem dX1_passYear_60 : decode cX1_passYear 60 = .ok (.getfield 40, 3) := by decide +kernel
theorem dX1_passYear_63 : decode cX1_passYear 63 = .ok (.if_icmp .ge 69, 3) := by decide +kernel
theorem dX1_passYear_66 : decode cX1_passYear 66 = .ok (.aload_n 0, 1) := by decide +kernel
theorem dX1_passYear_67 : decode cX1_passYear 67 = .ok (.getfield 34, 3) := by decide +kernel
theorem dX1_passYear_70 : decode cX1_passYear 70 = .ok (.iload_n 2, 1) := by decide +kernel
theorem dX1_passYear_71 : decode cX1_passYear 71 = .ok (.iconst 0, 1) := by decide +kernel
theorem dX1_passYear_72 : decode cX1_passYear 72 = .ok (.iastore, 1) := by decide +kernel
theorem dX1_passYear_73 : decode cX1_passYear 73 = .ok (.aload_n 0, 1) := by decide +kernel
theorem dX1_passYear_74 : decode cX1_passYear 74 = .ok (.aload_n 0, 1) := by decide +kernel
theorem dX1_passYear_75 : decode cX1_passYear 75 = .ok (.getfield 31, 3) := by decide +kernel
theorem dX1_passYear_78 : decode cX1_passYear 78 = .ok (.iload_n 2, 1) := by decide +kernel
theorem dX1_passYear_79 : decode cX1_passYear 79 = .ok (.iaload, 1) := by decide +kernel
theorem dX1_passYear_80 : decode cX1_passYear 80 = .ok (.invokevirtual 92, 3) := by decide +kernel
theorem dX1_passYear_83 : decode cX1_passYear 83 = .ok (.ifCond .eq 11, 3) := by decide +kernel
theorem dX1_passYear_86 : decode cX1_passYear 86 = .ok (.aload_n 0, 1) := by decide +kernel
theorem dX1_passYear_87 : decode cX1_passYear 87 = .ok (.iload_n 2, 1) := by decide +kernel
theorem dX1_passYear_88 : decode cX1_passYear 88 = .ok (.invokevirtual 82, 3) := by decide +kernel
theorem dX1_passYear_91 : decode cX1_passYear 91 = .ok (.ifCond .eq 24, 3) := by decide +kernel
theorem dX1_passYear_94 : decode cX1_passYear 94 = .ok (.aload_n 0, 1) := by decide +kernel
theorem dX1_passYear_95 : decode cX1_passYear 95 = .ok (.getfield 28, 3) := by decide +kernel
theorem dX1_passYear_98 : decode cX1_passYear 98 = .ok (.iload_n 2, 1) := by decide +kernel
theorem dX1_passYear_99 : decode cX1_passYear 99 = .ok (.iconst 0, 1) := by decide +kernel
theorem dX1_passYear_100 : decode cX1_passYear 100 = .ok (.aload_n 0, 1) := by decide +kernel
theorem dX1_passYear_101 : decode cX1_passYear 101 = .ok (.getfield 28, 3) := by decide +kernel
theorem dX1_passYear_104 : decode cX1_passYear 104 = .ok (.iload_n 2, 1) := by decide +kernel
theorem dX1_passYear_105 : decode cX1_passYear 105 = .ok (.iaload, 1) := by decide +kernel
theorem dX1_passYear_106 : decode cX1_passYear 106 = .ok (.iconst 5, 1) := by decide +kernel
theorem dX1_passYear_107 : decode cX1_passYear 107 = .ok (.isub, 1) := by decide +kernel
theorem dX1_passYear_108 : decode cX1_passYear 108 = .ok (.invokestatic 120, 3) := by decide +kernel
theorem dX1_passYear_111 : decode cX1_passYear 111 = .ok (.iastore, 1) := by decide +kernel
theorem dX1_passYear_112 : decode cX1_passYear 112 = .ok (.goto 14, 3) := by decide +kernel
theorem dX1_passYear_115 : decode cX1_passYear 115 = .ok (.aload_n 0, 1) := by decide +kernel
theorem dX1_passYear_116 : decode cX1_passYear 116 = .ok (.iload_n 2, 1) := by decide +kernel
theorem dX1_passYear_117 : decode cX1_passYear 117 = .ok (.aload_n 0, 1) := by decide +kernel
theorem dX1_passYear_118 : decode cX1_passYear 118 = .ok (.getfield 31, 3) := by decide +kernel
theorem dX1_passYear_121 : decode cX1_passYear 121 = .ok (.iload_n 2, 1) := by decide +kernel
theorem dX1_passYear_122 : decode cX1_passYear 122 = .ok (.iaload, 1) := by decide +kernel
theorem dX1_passYear_123 : decode cX1_passYear 123 = .ok (.invokevirtual 123, 3) := by decide +kernel
theorem dX1_passYear_126 : decode cX1_passYear 126 = .ok (.iinc 2 1, 3) := by decide +kernel
theorem dX1_passYear_129 : decode cX1_passYear 129 = .ok (.goto (-71), 3) := by decide +kernel
theorem dX1_passYear_132 : decode cX1_passYear 132 = .ok (.aload_n 0, 1) := by decide +kernel
theorem dX1_passYear_133 : decode cX1_passYear 133 = .ok (.sipush 9999, 3) := by decide +kernel
theorem dX1_passYear_136 : decode cX1_passYear 136 = .ok (.aload_n 0, 1) := by decide +kernel
theorem dX1_passYear_137 : decode cX1_passYear 137 = .ok (.getfield 43, 3) := by decide +kernel
theorem dX1_passYear_140 : decode cX1_passYear 140 = .ok (.aload_n 0, 1) := by decide +kernel
theorem dX1_passYear_141 : decode cX1_passYear 141 = .ok (.getfield 110, 3) := by decide +kernel
theorem dX1_passYear_144 : decode cX1_passYear 144 = .ok (.iadd, 1) := by decide +kernel
theorem dX1_passYear_145 : decode cX1_passYear 145 = .ok (.invokestatic 77, 3) := by decide +kernel
theorem dX1_passYear_148 : decode cX1_passYear 148 = .ok (.putfield 43, 3) := by decide +kernel
theorem dX1_passYear_151 : decode cX1_passYear 151 = .ok (.aload_n 0, 1) := by decide +kernel
theorem dX1_passYear_152 : decode cX1_passYear 152 = .ok (.invokevirtual 127, 3) := by decide +kernel
theorem dX1_passYear_155 : decode cX1_passYear 155 = .ok (.return_, 1) := by decide +kernel
theorem dX1_isAsFreshAs_0 : decode cX1_isAsFreshAs 0 = .ok (.iconst 0, 1) := by decide +kernel
theorem dX1_isAsFreshAs_1 : decode cX1_isAsFreshAs 1 = .ok (.istore_n 2, 1) := by decide +kernel
theorem dX1_isAsFreshAs_2 : decode cX1_isAsFreshAs 2 = .ok (.iload_n 2, 1) := by decide +kernel
theorem dX1_isAsFreshAs_3 : decode cX1_isAsFreshAs 3 = .ok (.iconst 3, 1) := by decide +kernel
theorem dX1_isAsFreshAs_4 : decode cX1_isAsFreshAs 4 = .ok (.aload_n 0, 1) := by decide +kernel
theorem dX1_isAsFreshAs_5 : decode cX1_isAsFreshAs 5 = .ok (.getfield 37, 3) := by decide +kernel
theorem dX1_isAsFreshAs_8 : decode cX1_isAsFreshAs 8 = .ok (.imul, 1) := by decide +kernel
theorem dX1_isAsFreshAs_9 : decode cX1_isAsFreshAs 9 = .ok (.if_icmp .ge 26, 3) := by decide +kernel
theorem dX1_isAsFreshAs_12 : decode cX1_isAsFreshAs 12 = .ok (.aload_n 0, 1) := by decide +kernel
theorem dX1_isAsFreshAs_13 : decode cX1_isAsFreshAs 13 = .ok (.getfield 15, 3) := by decide +kernel
theorem dX1_isAsFreshAs_16 : decode cX1_isAsFreshAs 16 = .ok (.iload_n 2, 1) := by decide +kernel
theorem dX1_isAsFreshAs_17 : decode cX1_isAsFreshAs 17 = .ok (.iaload, 1) := by decide +kernel
theorem dX1_isAsFreshAs_18 : decode cX1_isAsFreshAs 18 = .ok (.aload_n 1, 1) := by decide +kernel
theorem dX1_isAsFreshAs_19 : decode cX1_isAsFreshAs 19 = .ok (.getfield 15, 3) := by decide +kernel
theorem dX1_isAsFreshAs_22 : decode cX1_isAsFreshAs 22 = .ok (.iload_n 2, 1) := by decide +kernel
theorem dX1_isAsFreshAs_23 : decode cX1_isAsFreshAs 23 = .ok (.iaload, 1) := by decide +kernel
theorem dX1_isAsFreshAs_24 : decode cX1_isAsFreshAs 24 = .ok (.if_icmp .eq 5, 3) := by decide +kernel
theorem dX1_isAsFreshAs_27 : decode cX1_isAsFreshAs 27 = .ok (.iconst 0, 1) := by decide +kernel
theorem dX1_isAsFreshAs_28 : decode cX1_isAsFreshAs 28 = .ok (.ireturn, 1) := by decide +kernel
theorem dX1_isAsFreshAs_29 : decode cX1_isAsFreshAs 29 = .ok (.iinc 2 1, 3) := by decide +kernel
theorem dX1_isAsFreshAs_32 : decode cX1_isAsFreshAs 32 = .ok (.goto (-30), 3) := by decide +kernel
theorem dX1_isAsFreshAs_35 : decode cX1_isAsFreshAs 35 = .ok (.iconst 0, 1) := by decide +kernel
theorem dX1_isAsFreshAs_36 : decode cX1_isAsFreshAs 36 = .ok (.istore_n 2, 1) := by decide +kernel
theorem dX1_isAsFreshAs_37 : decode cX1_isAsFreshAs 37 = .ok (.iload_n 2, 1) := by decide +kernel
theorem dX1_isAsFreshAs_38 : decode cX1_isAsFreshAs 38 = .ok (.aload_n 0, 1) := by decide +kernel
theorem dX1_isAsFreshAs_39 : decode cX1_isAsFreshAs 39 = .ok (.getfield 40, 3) := by decide +kernel
theorem dX1_isAsFreshAs_42 : decode cX1_isAsFreshAs 42 = .ok (.if_icmp .ge 26, 3) := by decide +kernel
theorem dX1_isAsFreshAs_45 : decode cX1_isAsFreshAs 45 = .ok (.aload_n 0, 1) := by decide +kernel
theorem dX1_isAsFreshAs_46 : decode cX1_isAsFreshAs 46 = .ok (.getfield 28, 3) := by decide +kernel
theorem dX1_isAsFreshAs_49 : decode cX1_isAsFreshAs 49 = .ok (.iload_n 2, 1) := by decide +kernel
theorem dX1_isAsFreshAs_50 : decode cX1_isAsFreshAs 50 = .ok (.iaload, 1) := by decide +kernel
theorem dX1_isAsFreshAs_51 : decode cX1_isAsFreshAs 51 = .ok (.aload_n 1, 1) := by decide +kernel
theorem dX1_isAsFreshAs_52 : decode cX1_isAsFreshAs 52 = .ok (.getfield 28, 3) := by decide +kernel
theorem dX1_isAsFreshAs_55 : decode cX1_isAsFreshAs 55 = .ok (.iload_n 2, 1) := by decide +kernel
theorem dX1_isAsFreshAs_56 : decode cX1_isAsFreshAs 56 = .ok (.iaload, 1) := by decide +kernel
theorem dX1_isAsFreshAs_57 : decode cX1_isAsFreshAs 57 = .ok (.if_icmp .eq 5, 3) := by decide +kernel
theorem dX1_isAsFreshAs_60 : decode cX1_isAsFreshAs 60 = .ok (.iconst 0, 1) := by decide +kernel
theorem dX1_isAsFreshAs_61 : decode cX1_isAsFreshAs 61 = .ok (.ireturn, 1) := by decide +kernel
theorem dX1_isAsFreshAs_62 : decode cX1_isAsFreshAs 62 = .ok (.iinc 2 1, 3) := by decide +kernel
theorem dX1_isAsFreshAs_65 : decode cX1_isAsFreshAs 65 = .ok (.goto (-28), 3) := by decide +kernel
theorem dX1_isAsFreshAs_68 : decode cX1_isAsFreshAs 68 = .ok (.iconst 1, 1) := by decide +kernel
theorem dX1_isAsFreshAs_69 : decode cX1_isAsFreshAs 69 = .ok (.ireturn, 1) := by decide +kernel
theorem dX1_isSeatedAs_0 : decode cX1_isSeatedAs 0 = .ok (.iconst 0, 1) := by decide +kernel
theorem dX1_isSeatedAs_1 : decode cX1_isSeatedAs 1 = .ok (.istore_n 2, 1) := by decide +kernel
theorem dX1_isSeatedAs_2 : decode cX1_isSeatedAs 2 = .ok (.iload_n 2, 1) := by decide +kernel
theorem dX1_isSeatedAs_3 : decode cX1_isSeatedAs 3 = .ok (.aload_n 0, 1) := by decide +kernel
theorem dX1_isSeatedAs_4 : decode cX1_isSeatedAs 4 = .ok (.getfield 40, 3) := by decide +kernel
theorem dX1_isSeatedAs_7 : decode cX1_isSeatedAs 7 = .ok (.if_icmp .ge 26, 3) := by decide +kernel
theorem dX1_isSeatedAs_10 : decode cX1_isSeatedAs 10 = .ok (.aload_n 0, 1) := by decide +kernel
theorem dX1_isSeatedAs_11 : decode cX1_isSeatedAs 11 = .ok (.getfield 31, 3) := by decide +kernel
theorem dX1_isSeatedAs_14 : decode cX1_isSeatedAs 14 = .ok (.iload_n 2, 1) := by decide +kernel
theorem dX1_isSeatedAs_15 : decode cX1_isSeatedAs 15 = .ok (.iaload, 1) := by decide +kernel
theorem dX1_isSeatedAs_16 : decode cX1_isSeatedAs 16 = .ok (.aload_n 1, 1) := by decide +kernel
theorem dX1_isSeatedAs_17 : decode cX1_isSeatedAs 17 = .ok (.getfield 31, 3) := by decide +kernel
theorem dX1_isSeatedAs_20 : decode cX1_isSeatedAs 20 = .ok (.iload_n 2, 1) := by decide +kernel
theorem dX1_isSeatedAs_21 : decode cX1_isSeatedAs 21 = .ok (.iaload, 1) := by decide +kernel
theorem dX1_isSeatedAs_22 : decode cX1_isSeatedAs 22 = .ok (.if_icmp .eq 5, 3) := by decide +kernel
theorem dX1_isSeatedAs_25 : decode cX1_isSeatedAs 25 = .ok (.iconst 0, 1) := by decide +kernel
theorem dX1_isSeatedAs_26 : decode cX1_isSeatedAs 26 = .ok (.ireturn, 1) := by decide +kernel
theorem dX1_isSeatedAs_27 : decode cX1_isSeatedAs 27 = .ok (.iinc 2 1, 3) := by decide +kernel
theorem dX1_isSeatedAs_30 : decode cX1_isSeatedAs 30 = .ok (.goto (-28), 3) := by decide +kernel
theorem dX1_isSeatedAs_33 : decode cX1_isSeatedAs 33 = .ok (.iconst 1, 1) := by decide +kernel
theorem dX1_isSeatedAs_34 : decode cX1_isSeatedAs 34 = .ok (.ireturn, 1) := by decide +kernel
theorem dX1_lieUntilled_0 : decode cX1_lieUntilled 0 = .ok (.iconst 0, 1) := by decide +kernel
theorem dX1_lieUntilled_1 : decode cX1_lieUntilled 1 = .ok (.istore_n 2, 1) := by decide +kernel
theorem dX1_lieUntilled_2 : decode cX1_lieUntilled 2 = .ok (.iload_n 2, 1) := by decide +kernel
theorem dX1_lieUntilled_3 : decode cX1_lieUntilled 3 = .ok (.iconst 3, 1) := by decide +kernel
theorem dX1_lieUntilled_4 : decode cX1_lieUntilled 4 = .ok (.if_icmp .ge 26, 3) := by decide +kernel
theorem dX1_lieUntilled_7 : decode cX1_lieUntilled 7 = .ok (.aload_n 0, 1) := by decide +kernel
theorem dX1_lieUntilled_8 : decode cX1_lieUntilled 8 = .ok (.iload_n 1, 1) := by decide +kernel
theorem dX1_lieUntilled_9 : decode cX1_lieUntilled 9 = .ok (.iload_n 2, 1) := by decide +kernel
theorem dX1_lieUntilled_10 : decode cX1_lieUntilled 10 = .ok (.aload_n 0, 1) := by decide +kernel
theorem dX1_lieUntilled_11 : decode cX1_lieUntilled 11 = .ok (.iload_n 1, 1) := by decide +kernel
theorem dX1_lieUntilled_12 : decode cX1_lieUntilled 12 = .ok (.iload_n 2, 1) := by decide +kernel
theorem dX1_lieUntilled_13 : decode cX1_lieUntilled 13 = .ok (.invokevirtual 63, 3) := by decide +kernel
theorem dX1_lieUntilled_16 : decode cX1_lieUntilled 16 = .ok (.iconst 1, 1) := by decide +kernel
theorem dX1_lieUntilled_17 : decode cX1_lieUntilled 17 = .ok (.iadd, 1) := by decide +kernel
theorem dX1_lieUntilled_18 : decode cX1_lieUntilled 18 = .ok (.invokestatic 104, 3) := by decide +kernel
theorem dX1_lieUntilled_21 : decode cX1_lieUntilled 21 = .ok (.invokevirtual 55, 3) := by decide +kernel
theorem dX1_lieUntilled_24 : decode cX1_lieUntilled 24 = .ok (.iinc 2 1, 3) := by decide +kernel
theorem dX1_lieUntilled_27 : decode cX1_lieUntilled 27 = .ok (.goto (-25), 3) := by decide +kernel
theorem dX1_lieUntilled_30 : decode cX1_lieUntilled 30 = .ok (.return_, 1) := by decide +kernel
theorem dX1_till_0 : decode cX1_till 0 = .ok (.aload_n 0, 1) := by decide +kernel
theorem dX1_till_1 : decode cX1_till 1 = .ok (.getfield 22, 3) := by decide +kernel
theorem dX1_till_4 : decode cX1_till 4 = .ok (.iload_n 1, 1) := by decide +kernel
theorem dX1_till_5 : decode cX1_till 5 = .ok (.iaload, 1) := by decide +kernel
theorem dX1_till_6 : decode cX1_till 6 = .ok (.aload_n 0, 1) := by decide +kernel
theorem dX1_till_7 : decode cX1_till 7 = .ok (.iload_n 2, 1) := by decide +kernel
theorem dX1_till_8 : decode cX1_till 8 = .ok (.iconst 0, 1) := by decide +kernel
theorem dX1_till_9 : decode cX1_till 9 = .ok (.invokevirtual 63, 3) := by decide +kernel
theorem dX1_till_12 : decode cX1_till 12 = .ok (.aload_n 0, 1) := by decide +kernel
theorem dX1_till_13 : decode cX1_till 13 = .ok (.iload_n 2, 1) := by decide +kernel
theorem dX1_till_14 : decode cX1_till 14 = .ok (.iconst 1, 1) := by decide +kernel
theorem dX1_till_15 : decode cX1_till 15 = .ok (.invokevirtual 63, 3) := by decide +kernel
theorem dX1_till_18 : decode cX1_till 18 = .ok (.invokestatic 86, 3) := by decide +kernel
theorem dX1_till_21 : decode cX1_till 21 = .ok (.istore_n 3, 1) := by decide +kernel
theorem dX1_till_22 : decode cX1_till 22 = .ok (.aload_n 0, 1) := by decide +kernel
theorem dX1_till_23 : decode cX1_till 23 = .ok (.getfield 34, 3) := by decide +kernel
theorem dX1_till_26 : decode cX1_till 26 = .ok (.iload_n 1, 1) := by decide +kernel
theorem dX1_till_27 : decode cX1_till 27 = .ok (.iload_n 3, 1) := by decide +kernel
theorem dX1_till_28 : decode cX1_till 28 = .ok (.iastore, 1) := by decide +kernel
theorem dX1_till_29 : decode cX1_till 29 = .ok (.aload_n 0, 1) := by decide +kernel
theorem dX1_till_30 : decode cX1_till 30 = .ok (.getfield 19, 3) := by decide +kernel
theorem dX1_till_33 : decode cX1_till 33 = .ok (.iload_n 2, 1) := by decide +kernel
theorem dX1_till_34 : decode cX1_till 34 = .ok (.iload_n 3, 1) := by decide +kernel
theorem dX1_till_35 : decode cX1_till 35 = .ok (.iastore, 1) := by decide +kernel
theorem dX1_till_36 : decode cX1_till 36 = .ok (.aload_n 0, 1) := by decide +kernel
theorem dX1_till_37 : decode cX1_till 37 = .ok (.dup, 1) := by decide +kernel
theorem dX1_till_38 : decode cX1_till 38 = .ok (.getfield 110, 3) := by decide +kernel
theorem dX1_till_41 : decode cX1_till 41 = .ok (.iload_n 3, 1) := by decide +kernel
theorem dX1_till_42 : decode cX1_till 42 = .ok (.iadd, 1) := by decide +kernel
theorem dX1_till_43 : decode cX1_till 43 = .ok (.putfield 110, 3) := by decide +kernel
theorem dX1_till_46 : decode cX1_till 46 = .ok (.iconst 0, 1) := by decide +kernel
theorem dX1_till_47 : decode cX1_till 47 = .ok (.istore 4, 2) := by decide +kernel
theorem dX1_till_49 : decode cX1_till 49 = .ok (.iload 4, 2) := by decide +kernel
theorem dX1_till_51 : decode cX1_till 51 = .ok (.iconst 3, 1) := by decide +kernel
theorem dX1_till_52 : decode cX1_till 52 = .ok (.if_icmp .ge 48, 3) := by decide +kernel
theorem dX1_till_55 : decode cX1_till 55 = .ok (.aload_n 0, 1) := by decide +kernel
theorem dX1_till_56 : decode cX1_till 56 = .ok (.getfield 22, 3) := by decide +kernel
theorem dX1_till_59 : decode cX1_till 59 = .ok (.iload_n 1, 1) := by decide +kernel
theorem dX1_till_60 : decode cX1_till 60 = .ok (.iaload, 1) := by decide +kernel
theorem dX1_till_61 : decode cX1_till 61 = .ok (.aload_n 0, 1) := by decide +kernel
theorem dX1_till_62 : decode cX1_till 62 = .ok (.getfield 25, 3) := by decide +kernel
theorem dX1_till_65 : decode cX1_till 65 = .ok (.iload_n 1, 1) := by decide +kernel
theorem dX1_till_66 : decode cX1_till 66 = .ok (.iaload, 1) := by decide +kernel
theorem dX1_till_67 : decode cX1_till 67 = .ok (.iload 4, 2) := by decide +kernel
theorem dX1_till_69 : decode cX1_till 69 = .ok (.invokestatic 101, 3) := by decide +kernel
theorem dX1_till_72 : decode cX1_till 72 = .ok (.istore 5, 2) := by decide +kernel
theorem dX1_till_74 : decode cX1_till 74 = .ok (.aload_n 0, 1) := by decide +kernel
theorem dX1_till_75 : decode cX1_till 75 = .ok (.iload_n 2, 1) := by decide +kernel
theorem dX1_till_76 : decode cX1_till 76 = .ok (.iload 4, 2) := by decide +kernel
theorem dX1_till_78 : decode cX1_till 78 = .ok (.aload_n 0, 1) := by decide +kernel
theorem dX1_till_79 : decode cX1_till 79 = .ok (.iload_n 2, 1) := by decide +kernel
theorem dX1_till_80 : decode cX1_till 80 = .ok (.iload 4, 2) := by decide +kernel
theorem dX1_till_82 : decode cX1_till 82 = .ok (.invokevirtual 63, 3) := by decide +kernel
theorem dX1_till_85 : decode cX1_till 85 = .ok (.iload 5, 2) := by decide +kernel
theorem dX1_till_87 : decode cX1_till 87 = .ok (.iadd, 1) := by decide +kernel
theorem dX1_till_88 : decode cX1_till 88 = .ok (.invokestatic 104, 3) := by decide +kernel
theorem dX1_till_91 : decode cX1_till 91 = .ok (.invokevirtual 55, 3) := by decide +kernel
theorem dX1_till_94 : decode cX1_till 94 = .ok (.iinc 4 1, 3) := by decide +kernel
theorem dX1_till_97 : decode cX1_till 97 = .ok (.goto (-48), 3) := by decide +kernel
theorem dX1_till_100 : decode cX1_till 100 = .ok (.aload_n 0, 1) := by decide +kernel
theorem dX1_till_101 : decode cX1_till 101 = .ok (.getfield 28, 3) := by decide +kernel
theorem dX1_till_104 : decode cX1_till 104 = .ok (.iload_n 1, 1) := by decide +kernel
theorem dX1_till_105 : decode cX1_till 105 = .ok (.bipush 20, 2) := by decide +kernel
theorem dX1_till_107 : decode cX1_till 107 = .ok (.aload_n 0, 1) := by decide +kernel
theorem dX1_till_108 : decode cX1_till 108 = .ok (.getfield 28, 3) := by decide +kernel
theorem dX1_till_111 : decode cX1_till 111 = .ok (.iload_n 1, 1) := by decide +kernel
theorem dX1_till_112 : decode cX1_till 112 = .ok (.iaload, 1) := by decide +kernel
theorem dX1_till_113 : decode cX1_till 113 = .ok (.aload_n 0, 1) := by decide +kernel
theorem dX1_till_114 : decode cX1_till 114 = .ok (.getfield 22, 3) := by decide +kernel
theorem dX1_till_117 : decode cX1_till 117 = .ok (.iload_n 1, 1) := by decide +kernel
theorem dX1_till_118 : decode cX1_till 118 = .ok (.iaload, 1) := by decide +kernel
theorem dX1_till_119 : decode cX1_till 119 = .ok (.invokestatic 130, 3) := by decide +kernel
theorem dX1_till_122 : decode cX1_till 122 = .ok (.iadd, 1) := by decide +kernel
theorem dX1_till_123 : decode cX1_till 123 = .ok (.invokestatic 77, 3) := by decide +kernel
theorem dX1_till_126 : decode cX1_till 126 = .ok (.iastore, 1) := by decide +kernel
theorem dX1_till_127 : decode cX1_till 127 = .ok (.return_, 1) := by decide +kernel
theorem dX1_moveOn_0 : decode cX1_moveOn 0 = .ok (.iconst 0, 1) := by decide +kernel
theorem dX1_moveOn_1 : decode cX1_moveOn 1 = .ok (.istore_n 1, 1) := by decide +kernel
theorem dX1_moveOn_2 : decode cX1_moveOn 2 = .ok (.iload_n 1, 1) := by decide +kernel
theorem dX1_moveOn_3 : decode cX1_moveOn 3 = .ok (.aload_n 0, 1) := by decide +kernel
theorem dX1_moveOn_4 : decode cX1_moveOn 4 = .ok (.getfield 40, 3) := by decide +kernel
theorem dX1_moveOn_7 : decode cX1_moveOn 7 = .ok (.if_icmp .ge 49, 3) := by decide +kernel
theorem dX1_moveOn_10 : decode cX1_moveOn 10 = .ok (.aload_n 0, 1) := by decide +kernel
theorem dX1_moveOn_11 : decode cX1_moveOn 11 = .ok (.getfield 31, 3) := by decide +kernel
theorem dX1_moveOn_14 : decode cX1_moveOn 14 = .ok (.iload_n 1, 1) := by decide +kernel
theorem dX1_moveOn_15 : decode cX1_moveOn 15 = .ok (.iaload, 1) := by decide +kernel
theorem dX1_moveOn_16 : decode cX1_moveOn 16 = .ok (.bipush (-9), 2) := by decide +kernel
theorem dX1_moveOn_18 : decode cX1_moveOn 18 = .ok (.if_icmp .eq 32, 3) := by decide +kernel
theorem dX1_moveOn_21 : decode cX1_moveOn 21 = .ok (.aload_n 0, 1) := by decide +kernel
theorem dX1_moveOn_22 : decode cX1_moveOn 22 = .ok (.getfield 37, 3) := by decide +kernel
theorem dX1_moveOn_25 : decode cX1_moveOn 25 = .ok (.ifCond .le 25, 3) := by decide +kernel
theorem dX1_moveOn_28 : decode cX1_moveOn 28 = .ok (.aload_n 0, 1) := by decide +kernel
theorem dX1_moveOn_29 : decode cX1_moveOn 29 = .ok (.getfield 31, 3) := by decide +kernel
theorem dX1_moveOn_32 : decode cX1_moveOn 32 = .ok (.iload_n 1, 1) := by decide +kernel
theorem dX1_moveOn_33 : decode cX1_moveOn 33 = .ok (.aload_n 0, 1) := by decide +kernel
theorem dX1_moveOn_34 : decode cX1_moveOn 34 = .ok (.getfield 31, 3) := by decide +kernel
theorem dX1_moveOn_37 : decode cX1_moveOn 37 = .ok (.iload_n 1, 1) := by decide +kernel
theorem dX1_moveOn_38 : decode cX1_moveOn 38 = .ok (.iaload, 1) := by decide +kernel
theorem dX1_moveOn_39 : decode cX1_moveOn 39 = .ok (.aload_n 0, 1) := by decide +kernel
theorem dX1_moveOn_40 : decode cX1_moveOn 40 = .ok (.getfield 9, 3) := by decide +kernel
theorem dX1_moveOn_43 : decode cX1_moveOn 43 = .ok (.iadd, 1) := by decide +kernel
theorem dX1_moveOn_44 : decode cX1_moveOn 44 = .ok (.aload_n 0, 1) := by decide +kernel
theorem dX1_moveOn_45 : decode cX1_moveOn 45 = .ok (.getfield 37, 3) := by decide +kernel
theorem dX1_moveOn_48 : decode cX1_moveOn 48 = .ok (.irem, 1) := by decide +kernel
theorem dX1_moveOn_49 : decode cX1_moveOn 49 = .ok (.iastore, 1) := by decide +kernel
theorem dX1_moveOn_50 : decode cX1_moveOn 50 = .ok (.iinc 1 1, 3) := by decide +kernel
theorem dX1_moveOn_53 : decode cX1_moveOn 53 = .ok (.goto (-51), 3) := by decide +kernel
theorem dX1_moveOn_56 : decode cX1_moveOn 56 = .ok (.return_, 1) := by decide +kernel
theorem dX1_asHeart_0 : decode cX1_asHeart 0 = .ok (.iconst 0, 1) := by decide +kernel
theorem dX1_asHeart_1 : decode cX1_asHeart 1 = .ok (.bipush 30, 2) := by decide +kernel
theorem dX1_asHeart_3 : decode cX1_asHeart 3 = .ok (.iload_n 0, 1) := by decide +kernel
theorem dX1_asHeart_4 : decode cX1_asHeart 4 = .ok (.invokestatic 77, 3) := by decide +kernel
theorem dX1_asHeart_7 : decode cX1_asHeart 7 = .ok (.invokestatic 120, 3) := by decide +kernel
theorem dX1_asHeart_10 : decode cX1_asHeart 10 = .ok (.ireturn, 1) := by decide +kernel
theorem dX2_init_0 : decode cX2_init 0 = .ok (.aload_n 0, 1) := by decide +kernel
theorem dX2_init_1 : decode cX2_init 1 = .ok (.invokespecial 3, 3) := by decide +kernel
theorem dX2_init_4 : decode cX2_init 4 = .ok (.aload_n 0, 1) := by decide +kernel
theorem dX2_init_5 : decode cX2_init 5 = .ok (.bipush 96, 2) := by decide +kernel
theorem dX2_init_7 : decode cX2_init 7 = .ok (.newarray .int, 2) := by decide +kernel
theorem dX2_init_9 : decode cX2_init 9 = .ok (.putfield 9, 3) := by decide +kernel
theorem dX2_init_12 : decode cX2_init 12 = .ok (.return_, 1) := by decide +kernel
theorem dX2_isFull_0 : decode cX2_isFull 0 = .ok (.aload_n 0, 1) := by decide +kernel
theorem dX2_isFull_1 : decode cX2_isFull 1 = .ok (.getfield 15, 3) := by decide +kernel
theorem dX2_isFull_4 : decode cX2_isFull 4 = .ok (.aload_n 0, 1) := by decide +kernel
theorem dX2_isFull_5 : decode cX2_isFull 5 = .ok (.getfield 9, 3) := by decide +kernel
theorem dX2_isFull_8 : decode cX2_isFull 8 = .ok (.arraylength, 1) := by decide +kernel
theorem dX2_isFull_9 : decode cX2_isFull 9 = .ok (.if_icmp .lt 7, 3) := by decide +kernel
theorem dX2_isFull_12 : decode cX2_isFull 12 = .ok (.iconst 1, 1) := by decide +kernel
theorem dX2_isFull_13 : decode cX2_isFull 13 = .ok (.goto 4, 3) := by decide +kernel
theorem dX2_isFull_16 : decode cX2_isFull 16 = .ok (.iconst 0, 1) := by decide +kernel
theorem dX2_isFull_17 : decode cX2_isFull 17 = .ok (.ireturn, 1) := by decide +kernel
theorem dX2_add_0 : decode cX2_add 0 = .ok (.aload_n 0, 1) := by decide +kernel
theorem dX2_add_1 : decode cX2_add 1 = .ok (.getfield 15, 3) := by decide +kernel
theorem dX2_add_4 : decode cX2_add 4 = .ok (.aload_n 0, 1) := by decide +kernel
theorem dX2_add_5 : decode cX2_add 5 = .ok (.getfield 9, 3) := by decide +kernel
theorem dX2_add_8 : decode cX2_add 8 = .ok (.arraylength, 1) := by decide +kernel
theorem dX2_add_9 : decode cX2_add 9 = .ok (.if_icmp .ge 23, 3) := by decide +kernel
theorem dX2_add_12 : decode cX2_add 12 = .ok (.aload_n 0, 1) := by decide +kernel
theorem dX2_add_13 : decode cX2_add 13 = .ok (.getfield 9, 3) := by decide +kernel
theorem dX2_add_16 : decode cX2_add 16 = .ok (.aload_n 0, 1) := by decide +kernel
theorem dX2_add_17 : decode cX2_add 17 = .ok (.getfield 15, 3) := by decide +kernel
theorem dX2_add_20 : decode cX2_add 20 = .ok (.iload_n 1, 1) := by decide +kernel
theorem dX2_add_21 : decode cX2_add 21 = .ok (.iastore, 1) := by decide +kernel
theorem dX2_add_22 : decode cX2_add 22 = .ok (.aload_n 0, 1) := by decide +kernel
theorem dX2_add_23 : decode cX2_add 23 = .ok (.dup, 1) := by decide +kernel
theorem dX2_add_24 : decode cX2_add 24 = .ok (.getfield 15, 3) := by decide +kernel
theorem dX2_add_27 : decode cX2_add 27 = .ok (.iconst 1, 1) := by decide +kernel
theorem dX2_add_28 : decode cX2_add 28 = .ok (.iadd, 1) := by decide +kernel
theorem dX2_add_29 : decode cX2_add 29 = .ok (.putfield 15, 3) := by decide +kernel
theorem dX2_add_32 : decode cX2_add 32 = .ok (.return_, 1) := by decide +kernel
theorem dX2_tellTo_0 : decode cX2_tellTo 0 = .ok (.aload_n 0, 1) := by decide +kernel
theorem dX2_tellTo_1 : decode cX2_tellTo 1 = .ok (.invokevirtual 19, 3) := by decide +kernel
theorem dX2_tellTo_4 : decode cX2_tellTo 4 = .ok (.istore_n 2, 1) := by decide +kernel
theorem dX2_tellTo_5 : decode cX2_tellTo 5 = .ok (.iload_n 2, 1) := by decide +kernel
theorem dX2_tellTo_6 : decode cX2_tellTo 6 = .ok (.bipush (-9), 2) := by decide +kernel
theorem dX2_tellTo_8 : decode cX2_tellTo 8 = .ok (.if_icmp .eq 9, 3) := by decide +kernel
theorem dX2_tellTo_11 : decode cX2_tellTo 11 = .ok (.sipush (-1000), 3) := by decide +kernel
theorem dX2_tellTo_14 : decode cX2_tellTo 14 = .ok (.iload_n 2, 1) := by decide +kernel
theorem dX2_tellTo_15 : decode cX2_tellTo 15 = .ok (.isub, 1) := by decide +kernel
theorem dX2_tellTo_16 : decode cX2_tellTo 16 = .ok (.ireturn, 1) := by decide +kernel
theorem dX2_tellTo_17 : decode cX2_tellTo 17 = .ok (.iconst 0, 1) := by decide +kernel
theorem dX2_tellTo_18 : decode cX2_tellTo 18 = .ok (.istore_n 3, 1) := by decide +kernel
theorem dX2_tellTo_19 : decode cX2_tellTo 19 = .ok (.iconst 0, 1) := by decide +kernel
theorem dX2_tellTo_20 : decode cX2_tellTo 20 = .ok (.istore 4, 2) := by decide +kernel
theorem dX2_tellTo_22 : decode cX2_tellTo 22 = .ok (.iload 4, 2) := by decide +kernel
theorem dX2_tellTo_24 : decode cX2_tellTo 24 = .ok (.aload_n 0, 1) := by decide +kernel
theorem dX2_tellTo_25 : decode cX2_tellTo 25 = .ok (.getfield 15, 3) := by decide +kernel
theorem dX2_tellTo_28 : decode cX2_tellTo 28 = .ok (.if_icmp .ge 46, 3) := by decide +kernel
theorem dX2_tellTo_31 : decode cX2_tellTo 31 = .ok (.aload_n 0, 1) := by decide +kernel
theorem dX2_tellTo_32 : decode cX2_tellTo 32 = .ok (.aload_n 1, 1) := by decide +kernel
theorem dX2_tellTo_33 : decode cX2_tellTo 33 = .ok (.iload 4, 2) := by decide +kernel
theorem dX2_tellTo_35 : decode cX2_tellTo 35 = .ok (.invokevirtual 23, 3) := by decide +kernel
theorem dX2_tellTo_38 : decode cX2_tellTo 38 = .ok (.ifCond .ne 10, 3) := by decide +kernel
theorem dX2_tellTo_41 : decode cX2_tellTo 41 = .ok (.sipush (-2000), 3) := by decide +kernel
theorem dX2_tellTo_44 : decode cX2_tellTo 44 = .ok (.iload 4, 2) := by decide +kernel
theorem dX2_tellTo_46 : decode cX2_tellTo 46 = .ok (.isub, 1) := by decide +kernel
theorem dX2_tellTo_47 : decode cX2_tellTo 47 = .ok (.ireturn, 1) := by decide +kernel
theorem dX2_tellTo_48 : decode cX2_tellTo 48 = .ok (.iinc 3 1, 3) := by decide +kernel
theorem dX2_tellTo_51 : decode cX2_tellTo 51 = .ok (.iload 4, 2) := by decide +kernel
theorem dX2_tellTo_53 : decode cX2_tellTo 53 = .ok (.iconst 1, 1) := by decide +kernel
theorem dX2_tellTo_54 : decode cX2_tellTo 54 = .ok (.aload_n 0, 1) := by decide +kernel
theorem dX2_tellTo_55 : decode cX2_tellTo 55 = .ok (.getfield 9, 3) := by decide +kernel
theorem dX2_tellTo_58 : decode cX2_tellTo 58 = .ok (.iload 4, 2) := by decide +kernel
theorem dX2_tellTo_60 : decode cX2_tellTo 60 = .ok (.iaload, 1) := by decide +kernel
theorem dX2_tellTo_61 : decode cX2_tellTo 61 = .ok (.invokestatic 27, 3) := by decide +kernel
theorem dX2_tellTo_64 : decode cX2_tellTo 64 = .ok (.invokevirtual 31, 3) := by decide +kernel
theorem dX2_tellTo_67 : decode cX2_tellTo 67 = .ok (.iadd, 1) := by decide +kernel
theorem dX2_tellTo_68 : decode cX2_tellTo 68 = .ok (.iadd, 1) := by decide +kernel
theorem dX2_tellTo_69 : decode cX2_tellTo 69 = .ok (.istore 4, 2) := by decide +kernel
theorem dX2_tellTo_71 : decode cX2_tellTo 71 = .ok (.goto (-49), 3) := by decide +kernel
theorem dX2_tellTo_74 : decode cX2_tellTo 74 = .ok (.iload_n 3, 1) := by decide +kernel
theorem dX2_tellTo_75 : decode cX2_tellTo 75 = .ok (.ireturn, 1) := by decide +kernel
theorem dX2_placeOfWrongLetter_0 : decode cX2_placeOfWrongLetter 0 = .ok (.ldc 36, 2) := by decide +kernel
theorem dX2_placeOfWrongLetter_2 : decode cX2_placeOfWrongLetter 2 = .ok (.astore_n 1, 1) := by decide +kernel
theorem dX2_placeOfWrongLetter_3 : decode cX2_placeOfWrongLetter 3 = .ok (.iconst 0, 1) := by decide +kernel
theorem dX2_placeOfWrongLetter_4 : decode cX2_placeOfWrongLetter 4 = .ok (.istore_n 2, 1) := by decide +kernel
theorem dX2_placeOfWrongLetter_5 : decode cX2_placeOfWrongLetter 5 = .ok (.iconst 0, 1) := by decide +kernel
theorem dX2_placeOfWrongLetter_6 : decode cX2_placeOfWrongLetter 6 = .ok (.istore_n 3, 1) := by decide +kernel
theorem dX2_placeOfWrongLetter_7 : decode cX2_placeOfWrongLetter 7 = .ok (.iload_n 3, 1) := by decide +kernel
theorem dX2_placeOfWrongLetter_8 : decode cX2_placeOfWrongLetter 8 = .ok (.aload_n 0, 1) := by decide +kernel
theorem dX2_placeOfWrongLetter_9 : decode cX2_placeOfWrongLetter 9 = .ok (.getfield 15, 3) := by decide +kernel
theorem dX2_placeOfWrongLetter_12 : decode cX2_placeOfWrongLetter 12 = .ok (.if_icmp .ge 63, 3) := by decide +kernel
theorem dX2_placeOfWrongLetter_15 : decode cX2_placeOfWrongLetter 15 = .ok (.iload_n 2, 1) := by decide +kernel
theorem dX2_placeOfWrongLetter_16 : decode cX2_placeOfWrongLetter 16 = .ok (.aload_n 1, 1) := by decide +kernel
theorem dX2_placeOfWrongLetter_17 : decode cX2_placeOfWrongLetter 17 = .ok (.invokevirtual 31, 3) := by decide +kernel
theorem dX2_placeOfWrongLetter_20 : decode cX2_placeOfWrongLetter 20 = .ok (.if_icmp .ne 24, 3) := by decide +kernel
theorem dX2_placeOfWrongLetter_23 : decode cX2_placeOfWrongLetter 23 = .ok (.aload_n 0, 1) := by decide +kernel
theorem dX2_placeOfWrongLetter_24 : decode cX2_placeOfWrongLetter 24 = .ok (.getfield 9, 3) := by decide +kernel
theorem dX2_placeOfWrongLetter_27 : decode cX2_placeOfWrongLetter 27 = .ok (.iload_n 3, 1) := by decide +kernel
theorem dX2_placeOfWrongLetter_28 : decode cX2_placeOfWrongLetter 28 = .ok (.iaload, 1) := by decide +kernel
theorem dX2_placeOfWrongLetter_29 : decode cX2_placeOfWrongLetter 29 = .ok (.invokestatic 27, 3) := by decide +kernel
theorem dX2_placeOfWrongLetter_32 : decode cX2_placeOfWrongLetter 32 = .ok (.astore_n 1, 1) := by decide +kernel
theorem dX2_placeOfWrongLetter_33 : decode cX2_placeOfWrongLetter 33 = .ok (.iconst 0, 1) := by decide +kernel
theorem dX2_placeOfWrongLetter_34 : decode cX2_placeOfWrongLetter 34 = .ok (.istore_n 2, 1) := by decide +kernel
theorem dX2_placeOfWrongLetter_35 : decode cX2_placeOfWrongLetter 35 = .ok (.aload_n 1, 1) := by decide +kernel
theorem dX2_placeOfWrongLetter_36 : decode cX2_placeOfWrongLetter 36 = .ok (.invokevirtual 38, 3) := by decide +kernel
theorem dX2_placeOfWrongLetter_39 : decode cX2_placeOfWrongLetter 39 = .ok (.ifCond .eq 30, 3) := by decide +kernel
theorem dX2_placeOfWrongLetter_42 : decode cX2_placeOfWrongLetter 42 = .ok (.iload_n 3, 1) := by decide +kernel
theorem dX2_placeOfWrongLetter_43 : decode cX2_placeOfWrongLetter 43 = .ok (.ireturn, 1) := by decide +kernel
theorem dX2_placeOfWrongLetter_44 : decode cX2_placeOfWrongLetter 44 = .ok (.aload_n 0, 1) := by decide +kernel
theorem dX2_placeOfWrongLetter_45 : decode cX2_placeOfWrongLetter 45 = .ok (.getfield 9, 3) := by decide +kernel
theorem dX2_placeOfWrongLetter_48 : decode cX2_placeOfWrongLetter 48 = .ok (.iload_n 3, 1) := by decide +kernel
theorem dX2_placeOfWrongLetter_49 : decode cX2_placeOfWrongLetter 49 = .ok (.iaload, 1) := by decide +kernel
theorem dX2_placeOfWrongLetter_50 : decode cX2_placeOfWrongLetter 50 = .ok (.aload_n 1, 1) := by decide +kernel
theorem dX2_placeOfWrongLetter_51 : decode cX2_placeOfWrongLetter 51 = .ok (.iload_n 2, 1) := by decide +kernel
theorem dX2_placeOfWrongLetter_52 : decode cX2_placeOfWrongLetter 52 = .ok (.invokevirtual 42, 3) := by decide +kernel
theorem dX2_placeOfWrongLetter_55 : decode cX2_placeOfWrongLetter 55 = .ok (.invokestatic 46, 3) := by decide +kernel
theorem dX2_placeOfWrongLetter_58 : decode cX2_placeOfWrongLetter 58 = .ok (.ifCond .eq 9, 3) := by decide +kernel
theorem dX2_placeOfWrongLetter_61 : decode cX2_placeOfWrongLetter 61 = .ok (.iinc 2 1, 3) := by decide +kernel
theorem dX2_placeOfWrongLetter_64 : decode cX2_placeOfWrongLetter 64 = .ok (.goto 5, 3) := by decide +kernel
theorem dX2_placeOfWrongLetter_67 : decode cX2_placeOfWrongLetter 67 = .ok (.iload_n 3, 1) := by decide +kernel
theorem dX2_placeOfWrongLetter_68 : decode cX2_placeOfWrongLetter 68 = .ok (.ireturn, 1) := by decide +kernel
theorem dX2_placeOfWrongLetter_69 : decode cX2_placeOfWrongLetter 69 = .ok (.iinc 3 1, 3) := by decide +kernel
theorem dX2_placeOfWrongLetter_72 : decode cX2_placeOfWrongLetter 72 = .ok (.goto (-65), 3) := by decide +kernel
theorem dX2_placeOfWrongLetter_75 : decode cX2_placeOfWrongLetter 75 = .ok (.aload_n 0, 1) := by decide +kernel
theorem dX2_placeOfWrongLetter_76 : decode cX2_placeOfWrongLetter 76 = .ok (.getfield 15, 3) := by decide +kernel
theorem dX2_placeOfWrongLetter_79 : decode cX2_placeOfWrongLetter 79 = .ok (.ifCond .eq 11, 3) := by decide +kernel
theorem dX2_placeOfWrongLetter_82 : decode cX2_placeOfWrongLetter 82 = .ok (.iload_n 2, 1) := by decide +kernel
theorem dX2_placeOfWrongLetter_83 : decode cX2_placeOfWrongLetter 83 = .ok (.aload_n 1, 1) := by decide +kernel
theorem dX2_placeOfWrongLetter_84 : decode cX2_placeOfWrongLetter 84 = .ok (.invokevirtual 31, 3) := by decide +kernel
theorem dX2_placeOfWrongLetter_87 : decode cX2_placeOfWrongLetter 87 = .ok (.if_icmp .ge 10, 3) := by decide +kernel
theorem dX2_placeOfWrongLetter_90 : decode cX2_placeOfWrongLetter 90 = .ok (.aload_n 0, 1) := by decide +kernel
theorem dX2_placeOfWrongLetter_91 : decode cX2_placeOfWrongLetter 91 = .ok (.getfield 15, 3) := by decide +kernel
theorem dX2_placeOfWrongLetter_94 : decode cX2_placeOfWrongLetter 94 = .ok (.goto 5, 3) := by decide +kernel
theorem dX2_placeOfWrongLetter_97 : decode cX2_placeOfWrongLetter 97 = .ok (.bipush (-9), 2) := by decide +kernel
theorem dX2_placeOfWrongLetter_99 : decode cX2_placeOfWrongLetter 99 = .ok (.ireturn, 1) := by decide +kernel
theorem dX2_shapeBehind_0 : decode cX2_shapeBehind 0 = .ok (.iload_n 0, 1) := by decide +kernel
theorem dX2_shapeBehind_1 : decode cX2_shapeBehind 1 = .ok (.tableswitch 130 97 121 #[121, 130, 130, 130, 130, 115, 130, 127, 130, 130, 130, 130, 130, 130, 124, 118, 130, 130, 124, 130, 130, 130, 130, 130, 121], 115) := by decide +kernel
theorem dX2_shapeBehind_116 : decode cX2_shapeBehind 116 = .ok (.ldc 50, 2) := by decide +kernel
theorem dX2_shapeBehind_118 : decode cX2_shapeBehind 118 = .ok (.areturn, 1) := by decide +kernel
theorem dX2_shapeBehind_119 : decode cX2_shapeBehind 119 = .ok (.ldc 52, 2) := by decide +kernel
theorem dX2_shapeBehind_121 : decode cX2_shapeBehind 121 = .ok (.areturn, 1) := by decide +kernel
theorem dX2_shapeBehind_122 : decode cX2_shapeBehind 122 = .ok (.ldc 54, 2) := by decide +kernel
theorem dX2_shapeBehind_124 : decode cX2_shapeBehind 124 = .ok (.areturn, 1) := by decide +kernel
theorem dX2_shapeBehind_125 : decode cX2_shapeBehind 125 = .ok (.ldc 56, 2) := by decide +kernel
theorem dX2_shapeBehind_127 : decode cX2_shapeBehind 127 = .ok (.areturn, 1) := by decide +kernel
theorem dX2_shapeBehind_128 : decode cX2_shapeBehind 128 = .ok (.ldc 58, 2) := by decide +kernel
theorem dX2_shapeBehind_130 : decode cX2_shapeBehind 130 = .ok (.areturn, 1) := by decide +kernel
theorem dX2_shapeBehind_131 : decode cX2_shapeBehind 131 = .ok (.ldc 36, 2) := by decide +kernel
theorem dX2_shapeBehind_133 : decode cX2_shapeBehind 133 = .ok (.areturn, 1) := by decide +kernel
theorem dX2_fits_0 : decode cX2_fits 0 = .ok (.iload_n 1, 1) := by decide +kernel
theorem dX2_fits_1 : decode cX2_fits 1 = .ok (.bipush 100, 2) := by decide +kernel
theorem dX2_fits_3 : decode cX2_fits 3 = .ok (.if_icmp .ne 21, 3) := by decide +kernel
theorem dX2_fits_6 : decode cX2_fits 6 = .ok (.iload_n 0, 1) := by decide +kernel
theorem dX2_fits_7 : decode cX2_fits 7 = .ok (.bipush 48, 2) := by decide +kernel
theorem dX2_fits_9 : decode cX2_fits 9 = .ok (.if_icmp .lt 13, 3) := by decide +kernel
theorem dX2_fits_12 : decode cX2_fits 12 = .ok (.iload_n 0, 1) := by decide +kernel
theorem dX2_fits_13 : decode cX2_fits 13 = .ok (.bipush 57, 2) := by decide +kernel
theorem dX2_fits_15 : decode cX2_fits 15 = .ok (.if_icmp .gt 7, 3) := by decide +kernel
theorem dX2_fits_18 : decode cX2_fits 18 = .ok (.iconst 1, 1) := by decide +kernel
theorem dX2_fits_19 : decode cX2_fits 19 = .ok (.goto 4, 3) := by decide +kernel
theorem dX2_fits_22 : decode cX2_fits 22 = .ok (.iconst 0, 1) := by decide +kernel
theorem dX2_fits_23 : decode cX2_fits 23 = .ok (.ireturn, 1) := by decide +kernel
theorem dX2_fits_24 : decode cX2_fits 24 = .ok (.iload_n 1, 1) := by decide +kernel
theorem dX2_fits_25 : decode cX2_fits 25 = .ok (.bipush 107, 2) := by decide +kernel
theorem dX2_fits_27 : decode cX2_fits 27 = .ok (.if_icmp .ne 18, 3) := by decide +kernel
theorem dX2_fits_30 : decode cX2_fits 30 = .ok (.iload_n 0, 1) := by decide +kernel
theorem dX2_fits_31 : decode cX2_fits 31 = .ok (.invokestatic 60, 3) := by decide +kernel
theorem dX2_fits_34 : decode cX2_fits 34 = .ok (.ifCond .lt 7, 3) := by decide +kernel
theorem dX2_fits_37 : decode cX2_fits 37 = .ok (.iconst 1, 1) := by decide +kernel
theorem dX2_fits_38 : decode cX2_fits 38 = .ok (.goto 17, 3) := by decide +kernel
theorem dX2_fits_41 : decode cX2_fits 41 = .ok (.iconst 0, 1) := by decide +kernel
theorem dX2_fits_42 : decode cX2_fits 42 = .ok (.goto 13, 3) := by decide +kernel
theorem dX2_fits_45 : decode cX2_fits 45 = .ok (.iload_n 0, 1) := by decide +kernel
theorem dX2_fits_46 : decode cX2_fits 46 = .ok (.iload_n 1, 1) := by decide +kernel
theorem dX2_fits_47 : decode cX2_fits 47 = .ok (.if_icmp .ne 7, 3) := by decide +kernel
theorem dX2_fits_50 : decode cX2_fits 50 = .ok (.iconst 1, 1) := by decide +kernel
theorem dX2_fits_51 : decode cX2_fits 51 = .ok (.goto 4, 3) := by decide +kernel
theorem dX2_fits_54 : decode cX2_fits 54 = .ok (.iconst 0, 1) := by decide +kernel
theorem dX2_fits_55 : decode cX2_fits 55 = .ok (.ireturn, 1) := by decide +kernel
theorem dX2_comes_0 : decode cX2_comes 0 = .ok (.aload_n 0, 1) := by decide +kernel
theorem dX2_comes_1 : decode cX2_comes 1 = .ok (.getfield 9, 3) := by decide +kernel
theorem dX2_comes_4 : decode cX2_comes 4 = .ok (.iload_n 2, 1) := by decide +kernel
theorem dX2_comes_5 : decode cX2_comes 5 = .ok (.iaload, 1) := by decide +kernel
theorem dX2_comes_6 : decode cX2_comes 6 = .ok (.tableswitch 173 97 115 #[104, 173, 173, 173, 173, 90, 173, 135, 173, 173, 173, 173, 173, 173, 123, 97, 173, 173, 161], 90) := by decide +kernel
theorem dX2_comes_96 : decode cX2_comes 96 = .ok (.aload_n 0, 1) := by decide +kernel
theorem dX2_comes_97 : decode cX2_comes 97 = .ok (.aload_n 1, 1) := by decide +kernel
theorem dX2_comes_98 : decode cX2_comes 98 = .ok (.iload_n 2, 1) := by decide +kernel
theorem dX2_comes_99 : decode cX2_comes 99 = .ok (.invokevirtual 66, 3) := by decide +kernel
theorem dX2_comes_102 : decode cX2_comes 102 = .ok (.ireturn, 1) := by decide +kernel
theorem dX2_comes_103 : decode cX2_comes 103 = .ok (.aload_n 0, 1) := by decide +kernel
theorem dX2_comes_104 : decode cX2_comes 104 = .ok (.aload_n 1, 1) := by decide +kernel
theorem dX2_comes_105 : decode cX2_comes 105 = .ok (.iload_n 2, 1) := by decide +kernel
theorem dX2_comes_106 : decode cX2_comes 106 = .ok (.invokevirtual 69, 3) := by decide +kernel
theorem dX2_comes_109 : decode cX2_comes 109 = .ok (.ireturn, 1) := by decide +kernel
theorem dX2_comes_110 : decode cX2_comes 110 = .ok (.aload_n 1, 1) := by decide +kernel
theorem dX2_comes_111 : decode cX2_comes 111 = .ok (.aload_n 0, 1) := by decide +kernel
theorem dX2_comes_112 : decode cX2_comes 112 = .ok (.iload_n 2, 1) := by decide +kernel
theorem dX2_comes_113 : decode cX2_comes 113 = .ok (.iconst 1, 1) := by decide +kernel
theorem dX2_comes_114 : decode cX2_comes 114 = .ok (.iadd, 1) := by decide +kernel
theorem dX2_comes_115 : decode cX2_comes 115 = .ok (.invokevirtual 72, 3) := by decide +kernel
theorem dX2_comes_118 : decode cX2_comes 118 = .ok (.aload_n 0, 1) := by decide +kernel
theorem dX2_comes_119 : decode cX2_comes 119 = .ok (.iload_n 2, 1) := by decide +kernel
theorem dX2_comes_120 : decode cX2_comes 120 = .ok (.iconst 2, 1) := by decide +kernel
theorem dX2_comes_121 : decode cX2_comes 121 = .ok (.iadd, 1) := by decide +kernel
theorem dX2_comes_122 : decode cX2_comes 122 = .ok (.invokevirtual 72, 3) := by decide +kernel
theorem dX2_comes_125 : decode cX2_comes 125 = .ok (.invokestatic 75, 3) := by decide +kernel
theorem dX2_comes_128 : decode cX2_comes 128 = .ok (.ireturn, 1) := by decide +kernel
theorem dX2_comes_129 : decode cX2_comes 129 = .ok (.aload_n 1, 1) := by decide +kernel
theorem dX2_comes_130 : decode cX2_comes 130 = .ok (.aload_n 0, 1) := by decide +kernel
theorem dX2_comes_131 : decode cX2_comes 131 = .ok (.iload_n 2, 1) := by decide +kernel
theorem dX2_comes_132 : decode cX2_comes 132 = .ok (.iconst 1, 1) := by decide +kernel
theorem dX2_comes_133 : decode cX2_comes 133 = .ok (.iadd, 1) := by decide +kernel
theorem dX2_comes_134 : decode cX2_comes 134 = .ok (.invokevirtual 72, 3) := by decide +kernel
theorem dX2_comes_137 : decode cX2_comes 137 = .ok (.invokestatic 79, 3) := by decide +kernel
theorem dX2_comes_140 : decode cX2_comes 140 = .ok (.ireturn, 1) := by decide +kernel
theorem dX2_comes_141 : decode cX2_comes 141 = .ok (.aload_n 1, 1) := by decide +kernel
theorem dX2_comes_142 : decode cX2_comes 142 = .ok (.aload_n 0, 1) := by decide +kernel
theorem dX2_comes_143 : decode cX2_comes 143 = .ok (.iload_n 2, 1) := by decide +kernel
theorem dX2_comes_144 : decode cX2_comes 144 = .ok (.iconst 1, 1) := by decide +kernel
theorem dX2_comes_145 : decode cX2_comes 145 = .ok (.iadd, 1) := by decide +kernel
theorem dX2_comes_146 : decode cX2_comes 146 = .ok (.invokevirtual 72, 3) := by decide +kernel
theorem dX2_comes_149 : decode cX2_comes 149 = .ok (.aload_n 0, 1) := by decide +kernel
theorem dX2_comes_150 : decode cX2_comes 150 = .ok (.iload_n 2, 1) := by decide +kernel
theorem dX2_comes_151 : decode cX2_comes 151 = .ok (.iconst 2, 1) := by decide +kernel
theorem dX2_comes_152 : decode cX2_comes 152 = .ok (.iadd, 1) := by decide +kernel
theorem dX2_comes_153 : decode cX2_comes 153 = .ok (.invokevirtual 72, 3) := by decide +kernel
theorem dX2_comes_156 : decode cX2_comes 156 = .ok (.aload_n 0, 1) := by decide +kernel
theorem dX2_comes_157 : decode cX2_comes 157 = .ok (.iload_n 2, 1) := by decide +kernel
theorem dX2_comes_158 : decode cX2_comes 158 = .ok (.iconst 3, 1) := by decide +kernel
theorem dX2_comes_159 : decode cX2_comes 159 = .ok (.iadd, 1) := by decide +kernel
theorem dX2_comes_160 : decode cX2_comes 160 = .ok (.invokevirtual 82, 3) := by decide +kernel
theorem dX2_comes_163 : decode cX2_comes 163 = .ok (.invokestatic 85, 3) := by decide +kernel
theorem dX2_comes_166 : decode cX2_comes 166 = .ok (.ireturn, 1) := by decide +kernel
theorem dX2_comes_167 : decode cX2_comes 167 = .ok (.aload_n 1, 1) := by decide +kernel
theorem dX2_comes_168 : decode cX2_comes 168 = .ok (.aload_n 0, 1) := by decide +kernel
theorem dX2_comes_169 : decode cX2_comes 169 = .ok (.iload_n 2, 1) := by decide +kernel
theorem dX2_comes_170 : decode cX2_comes 170 = .ok (.iconst 1, 1) := by decide +kernel
theorem dX2_comes_171 : decode cX2_comes 171 = .ok (.iadd, 1) := by decide +kernel
theorem dX2_comes_172 : decode cX2_comes 172 = .ok (.invokevirtual 72, 3) := by decide +kernel
theorem dX2_comes_175 : decode cX2_comes 175 = .ok (.invokestatic 89, 3) := by decide +kernel
theorem dX2_comes_178 : decode cX2_comes 178 = .ok (.ireturn, 1) := by decide +kernel
theorem dX2_comes_179 : decode cX2_comes 179 = .ok (.aload_n 1, 1) := by decide +kernel
theorem dX2_comes_180 : decode cX2_comes 180 = .ok (.aload_n 0, 1) := by decide +kernel
theorem dX2_comes_181 : decode cX2_comes 181 = .ok (.iload_n 2, 1) := by decide +kernel
theorem dX2_comes_182 : decode cX2_comes 182 = .ok (.iconst 1, 1) := by decide +kernel
theorem dX2_comes_183 : decode cX2_comes 183 = .ok (.iadd, 1) := by decide +kernel
theorem dX2_comes_184 : decode cX2_comes 184 = .ok (.invokevirtual 82, 3) := by decide +kernel
theorem dX2_comes_187 : decode cX2_comes 187 = .ok (.invokestatic 92, 3) := by decide +kernel
theorem dX2_comes_190 : decode cX2_comes 190 = .ok (.ireturn, 1) := by decide +kernel
theorem dX2_farmComes_0 : decode cX2_farmComes 0 = .ok (.aload_n 0, 1) := by decide +kernel
theorem dX2_farmComes_1 : decode cX2_farmComes 1 = .ok (.iload_n 2, 1) := by decide +kernel
theorem dX2_farmComes_2 : decode cX2_farmComes 2 = .ok (.iconst 1, 1) := by decide +kernel
theorem dX2_farmComes_3 : decode cX2_farmComes 3 = .ok (.iadd, 1) := by decide +kernel
theorem dX2_farmComes_4 : decode cX2_farmComes 4 = .ok (.invokevirtual 82, 3) := by decide +kernel
theorem dX2_farmComes_7 : decode cX2_farmComes 7 = .ok (.istore_n 3, 1) := by decide +kernel
theorem dX2_farmComes_8 : decode cX2_farmComes 8 = .ok (.aload_n 0, 1) := by decide +kernel
theorem dX2_farmComes_9 : decode cX2_farmComes 9 = .ok (.iload_n 2, 1) := by decide +kernel
theorem dX2_farmComes_10 : decode cX2_farmComes 10 = .ok (.iconst 3, 1) := by decide +kernel
theorem dX2_farmComes_11 : decode cX2_farmComes 11 = .ok (.iadd, 1) := by decide +kernel
theorem dX2_farmComes_12 : decode cX2_farmComes 12 = .ok (.invokevirtual 82, 3) := by decide +kernel
theorem dX2_farmComes_15 : decode cX2_farmComes 15 = .ok (.istore 4, 2) := by decide +kernel
theorem dX2_farmComes_17 : decode cX2_farmComes 17 = .ok (.aload_n 0, 1) := by decide +kernel
theorem dX2_farmComes_18 : decode cX2_farmComes 18 = .ok (.iload_n 2, 1) := by decide +kernel
theorem dX2_farmComes_19 : decode cX2_farmComes 19 = .ok (.iconst 5, 1) := by decide +kernel
theorem dX2_farmComes_20 : decode cX2_farmComes 20 = .ok (.iadd, 1) := by decide +kernel
theorem dX2_farmComes_21 : decode cX2_farmComes 21 = .ok (.invokevirtual 82, 3) := by decide +kernel
theorem dX2_farmComes_24 : decode cX2_farmComes 24 = .ok (.istore 5, 2) := by decide +kernel
theorem dX2_farmComes_26 : decode cX2_farmComes 26 = .ok (.aload_n 1, 1) := by decide +kernel
theorem dX2_farmComes_27 : decode cX2_farmComes 27 = .ok (.getfield 95, 3) := by decide +kernel
theorem dX2_farmComes_30 : decode cX2_farmComes 30 = .ok (.bipush 6, 2) := by decide +kernel
theorem dX2_farmComes_32 : decode cX2_farmComes 32 = .ok (.if_icmp .ge 23, 3) := by decide +kernel
theorem dX2_farmComes_35 : decode cX2_farmComes 35 = .ok (.iload_n 3, 1) := by decide +kernel
theorem dX2_farmComes_36 : decode cX2_farmComes 36 = .ok (.bipush 30, 2) := by decide +kernel
theorem dX2_farmComes_38 : decode cX2_farmComes 38 = .ok (.if_icmp .gt 17, 3) := by decide +kernel
theorem dX2_farmComes_41 : decode cX2_farmComes 41 = .ok (.iload 4, 2) := by decide +kernel
theorem dX2_farmComes_43 : decode cX2_farmComes 43 = .ok (.bipush 30, 2) := by decide +kernel
theorem dX2_farmComes_45 : decode cX2_farmComes 45 = .ok (.if_icmp .gt 10, 3) := by decide +kernel
theorem dX2_farmComes_48 : decode cX2_farmComes 48 = .ok (.iload 5, 2) := by decide +kernel
theorem dX2_farmComes_50 : decode cX2_farmComes 50 = .ok (.bipush 30, 2) := by decide +kernel
theorem dX2_farmComes_52 : decode cX2_farmComes 52 = .ok (.if_icmp .le 5, 3) := by decide +kernel
theorem dX2_farmComes_55 : decode cX2_farmComes 55 = .ok (.iconst 0, 1) := by decide +kernel
theorem dX2_farmComes_56 : decode cX2_farmComes 56 = .ok (.ireturn, 1) := by decide +kernel
theorem dX2_farmComes_57 : decode cX2_farmComes 57 = .ok (.aload_n 1, 1) := by decide +kernel
theorem dX2_farmComes_58 : decode cX2_farmComes 58 = .ok (.iload_n 3, 1) := by decide +kernel
theorem dX2_farmComes_59 : decode cX2_farmComes 59 = .ok (.iload 4, 2) := by decide +kernel
theorem dX2_farmComes_61 : decode cX2_farmComes 61 = .ok (.iload 5, 2) := by decide +kernel
theorem dX2_farmComes_63 : decode cX2_farmComes 63 = .ok (.invokevirtual 100, 3) := by decide +kernel
theorem dX2_farmComes_66 : decode cX2_farmComes 66 = .ok (.iconst 1, 1) := by decide +kernel
theorem dX2_farmComes_67 : decode cX2_farmComes 67 = .ok (.ireturn, 1) := by decide +kernel
theorem dX2_farmerComes_0 : decode cX2_farmerComes 0 = .ok (.aload_n 1, 1) := by decide +kernel
theorem dX2_farmerComes_1 : decode cX2_farmerComes 1 = .ok (.getfield 104, 3) := by decide +kernel
theorem dX2_farmerComes_4 : decode cX2_farmerComes 4 = .ok (.bipush 6, 2) := by decide +kernel
theorem dX2_farmerComes_6 : decode cX2_farmerComes 6 = .ok (.if_icmp .lt 5, 3) := by decide +kernel
theorem dX2_farmerComes_9 : decode cX2_farmerComes 9 = .ok (.iconst 0, 1) := by decide +kernel
theorem dX2_farmerComes_10 : decode cX2_farmerComes 10 = .ok (.ireturn, 1) := by decide +kernel
theorem dX2_farmerComes_11 : decode cX2_farmerComes 11 = .ok (.aload_n 1, 1) := by decide +kernel
theorem dX2_farmerComes_12 : decode cX2_farmerComes 12 = .ok (.aload_n 0, 1) := by decide +kernel
theorem dX2_farmerComes_13 : decode cX2_farmerComes 13 = .ok (.iload_n 2, 1) := by decide +kernel
theorem dX2_farmerComes_14 : decode cX2_farmerComes 14 = .ok (.iconst 1, 1) := by decide +kernel
theorem dX2_farmerComes_15 : decode cX2_farmerComes 15 = .ok (.iadd, 1) := by decide +kernel
theorem dX2_farmerComes_16 : decode cX2_farmerComes 16 = .ok (.invokevirtual 107, 3) := by decide +kernel
theorem dX2_farmerComes_19 : decode cX2_farmerComes 19 = .ok (.invokestatic 60, 3) := by decide +kernel
theorem dX2_farmerComes_22 : decode cX2_farmerComes 22 = .ok (.aload_n 0, 1) := by decide +kernel
theorem dX2_farmerComes_23 : decode cX2_farmerComes 23 = .ok (.iload_n 2, 1) := by decide +kernel
theorem dX2_farmerComes_24 : decode cX2_farmerComes 24 = .ok (.iconst 2, 1) := by decide +kernel
theorem dX2_farmerComes_25 : decode cX2_farmerComes 25 = .ok (.iadd, 1) := by decide +kernel
theorem dX2_farmerComes_26 : decode cX2_farmerComes 26 = .ok (.invokevirtual 72, 3) := by decide +kernel
theorem dX2_farmerComes_29 : decode cX2_farmerComes 29 = .ok (.invokevirtual 110, 3) := by decide +kernel
theorem dX2_farmerComes_32 : decode cX2_farmerComes 32 = .ok (.iconst 1, 1) := by decide +kernel
theorem dX2_farmerComes_33 : decode cX2_farmerComes 33 = .ok (.ireturn, 1) := by decide +kernel
theorem dX2_seatComes_0 : decode cX2_seatComes 0 = .ok (.aload_n 0, 1) := by decide +kernel
theorem dX2_seatComes_1 : decode cX2_seatComes 1 = .ok (.iload_n 1, 1) := by decide +kernel
theorem dX2_seatComes_2 : decode cX2_seatComes 2 = .ok (.invokevirtual 114, 3) := by decide +kernel
theorem dX2_seatComes_5 : decode cX2_seatComes 5 = .ok (.ifCond .eq 11, 3) := by decide +kernel
theorem dX2_seatComes_8 : decode cX2_seatComes 8 = .ok (.aload_n 0, 1) := by decide +kernel
theorem dX2_seatComes_9 : decode cX2_seatComes 9 = .ok (.iload_n 2, 1) := by decide +kernel
theorem dX2_seatComes_10 : decode cX2_seatComes 10 = .ok (.invokevirtual 118, 3) := by decide +kernel
theorem dX2_seatComes_13 : decode cX2_seatComes 13 = .ok (.ifCond .ne 5, 3) := by decide +kernel
theorem dX2_seatComes_16 : decode cX2_seatComes 16 = .ok (.iconst 0, 1) := by decide +kernel
theorem dX2_seatComes_17 : decode cX2_seatComes 17 = .ok (.ireturn, 1) := by decide +kernel
theorem dX2_seatComes_18 : decode cX2_seatComes 18 = .ok (.aload_n 0, 1) := by decide +kernel
theorem dX2_seatComes_19 : decode cX2_seatComes 19 = .ok (.iload_n 1, 1) := by decide +kernel
theorem dX2_seatComes_20 : decode cX2_seatComes 20 = .ok (.iload_n 2, 1) := by decide +kernel
theorem dX2_seatComes_21 : decode cX2_seatComes 21 = .ok (.invokevirtual 121, 3) := by decide +kernel
theorem dX2_seatComes_24 : decode cX2_seatComes 24 = .ok (.iconst 1, 1) := by decide +kernel
theorem dX2_seatComes_25 : decode cX2_seatComes 25 = .ok (.ireturn, 1) := by decide +kernel
theorem dX2_leaveComes_0 : decode cX2_leaveComes 0 = .ok (.aload_n 0, 1) := by decide +kernel
theorem dX2_leaveComes_1 : decode cX2_leaveComes 1 = .ok (.iload_n 1, 1) := by decide +kernel
theorem dX2_leaveComes_2 : decode cX2_leaveComes 2 = .ok (.invokevirtual 114, 3) := by decide +kernel
theorem dX2_leaveComes_5 : decode cX2_leaveComes 5 = .ok (.ifCond .ne 5, 3) := by decide +kernel
theorem dX2_leaveComes_8 : decode cX2_leaveComes 8 = .ok (.iconst 0, 1) := by decide +kernel
theorem dX2_leaveComes_9 : decode cX2_leaveComes 9 = .ok (.ireturn, 1) := by decide +kernel
theorem dX2_leaveComes_10 : decode cX2_leaveComes 10 = .ok (.aload_n 0, 1) := by decide +kernel
theorem dX2_leaveComes_11 : decode cX2_leaveComes 11 = .ok (.getfield 124, 3) := by decide +kernel
theorem dX2_leaveComes_14 : decode cX2_leaveComes 14 = .ok (.iload_n 1, 1) := by decide +kernel
theorem dX2_leaveComes_15 : decode cX2_leaveComes 15 = .ok (.bipush (-9), 2) := by decide +kernel
theorem dX2_leaveComes_17 : decode cX2_leaveComes 17 = .ok (.iastore, 1) := by decide +kernel
theorem dX2_leaveComes_18 : decode cX2_leaveComes 18 = .ok (.iconst 1, 1) := by decide +kernel
theorem dX2_leaveComes_19 : decode cX2_leaveComes 19 = .ok (.ireturn, 1) := by decide +kernel
theorem dX2_heartComes_0 : decode cX2_heartComes 0 = .ok (.aload_n 0, 1) := by decide +kernel
theorem dX2_heartComes_1 : decode cX2_heartComes 1 = .ok (.iload_n 1, 1) := by decide +kernel
theorem dX2_heartComes_2 : decode cX2_heartComes 2 = .ok (.invokevirtual 118, 3) := by decide +kernel
theorem dX2_heartComes_5 : decode cX2_heartComes 5 = .ok (.ifCond .eq 16, 3) := by decide +kernel
theorem dX2_heartComes_8 : decode cX2_heartComes 8 = .ok (.iload_n 2, 1) := by decide +kernel
theorem dX2_heartComes_9 : decode cX2_heartComes 9 = .ok (.invokestatic 127, 3) := by decide +kernel
theorem dX2_heartComes_12 : decode cX2_heartComes 12 = .ok (.ifCond .eq 9, 3) := by decide +kernel
theorem dX2_heartComes_15 : decode cX2_heartComes 15 = .ok (.iload_n 3, 1) := by decide +kernel
theorem dX2_heartComes_16 : decode cX2_heartComes 16 = .ok (.bipush 30, 2) := by decide +kernel
theorem dX2_heartComes_18 : decode cX2_heartComes 18 = .ok (.if_icmp .le 5, 3) := by decide +kernel
theorem dX2_heartComes_21 : decode cX2_heartComes 21 = .ok (.iconst 0, 1) := by decide +kernel
theorem dX2_heartComes_22 : decode cX2_heartComes 22 = .ok (.ireturn, 1) := by decide +kernel
theorem dX2_heartComes_23 : decode cX2_heartComes 23 = .ok (.aload_n 0, 1) := by decide +kernel
theorem dX2_heartComes_24 : decode cX2_heartComes 24 = .ok (.iload_n 1, 1) := by decide +kernel
theorem dX2_heartComes_25 : decode cX2_heartComes 25 = .ok (.iload_n 2, 1) := by decide +kernel
theorem dX2_heartComes_26 : decode cX2_heartComes 26 = .ok (.iload_n 3, 1) := by decide +kernel
theorem dX2_heartComes_27 : decode cX2_heartComes 27 = .ok (.invokevirtual 130, 3) := by decide +kernel
theorem dX2_heartComes_30 : decode cX2_heartComes 30 = .ok (.iconst 1, 1) := by decide +kernel
theorem dX2_heartComes_31 : decode cX2_heartComes 31 = .ok (.ireturn, 1) := by decide +kernel
theorem dX2_stepComes_0 : decode cX2_stepComes 0 = .ok (.iload_n 1, 1) := by decide +kernel
theorem dX2_stepComes_1 : decode cX2_stepComes 1 = .ok (.iconst 5, 1) := by decide +kernel
theorem dX2_stepComes_2 : decode cX2_stepComes 2 = .ok (.if_icmp .le 5, 3) := by decide +kernel
theorem dX2_stepComes_5 : decode cX2_stepComes 5 = .ok (.iconst 0, 1) := by decide +kernel
theorem dX2_stepComes_6 : decode cX2_stepComes 6 = .ok (.ireturn, 1) := by decide +kernel
theorem dX2_stepComes_7 : decode cX2_stepComes 7 = .ok (.aload_n 0, 1) := by decide +kernel
theorem dX2_stepComes_8 : decode cX2_stepComes 8 = .ok (.iload_n 1, 1) := by decide +kernel
theorem dX2_stepComes_9 : decode cX2_stepComes 9 = .ok (.putfield 133, 3) := by decide +kernel
theorem dX2_stepComes_12 : decode cX2_stepComes 12 = .ok (.iconst 1, 1) := by decide +kernel
theorem dX2_stepComes_13 : decode cX2_stepComes 13 = .ok (.ireturn, 1) := by decide +kernel
theorem dX2_yearsCome_0 : decode cX2_yearsCome 0 = .ok (.iload_n 1, 1) := by decide +kernel
theorem dX2_yearsCome_1 : decode cX2_yearsCome 1 = .ok (.iconst 1, 1) := by decide +kernel
theorem dX2_yearsCome_2 : decode cX2_yearsCome 2 = .ok (.if_icmp .lt 17, 3) := by decide +kernel
theorem dX2_yearsCome_5 : decode cX2_yearsCome 5 = .ok (.iload_n 1, 1) := by decide +kernel
theorem dX2_yearsCome_6 : decode cX2_yearsCome 6 = .ok (.bipush 60, 2) := by decide +kernel
theorem dX2_yearsCome_8 : decode cX2_yearsCome 8 = .ok (.if_icmp .gt 11, 3) := by decide +kernel
theorem dX2_yearsCome_11 : decode cX2_yearsCome 11 = .ok (.aload_n 0, 1) := by decide +kernel
theorem dX2_yearsCome_12 : decode cX2_yearsCome 12 = .ok (.iload_n 1, 1) := by decide +kernel
theorem dX2_yearsCome_13 : decode cX2_yearsCome 13 = .ok (.invokevirtual 136, 3) := by decide +kernel
theorem dX2_yearsCome_16 : decode cX2_yearsCome 16 = .ok (.ifCond .ne 5, 3) := by decide +kernel
theorem dX2_yearsCome_19 : decode cX2_yearsCome 19 = .ok (.iconst 0, 1) := by decide +kernel
theorem dX2_yearsCome_20 : decode cX2_yearsCome 20 = .ok (.ireturn, 1) := by decide +kernel
theorem dX2_yearsCome_21 : decode cX2_yearsCome 21 = .ok (.iconst 0, 1) := by decide +kernel
theorem dX2_yearsCome_22 : decode cX2_yearsCome 22 = .ok (.istore_n 2, 1) := by decide +kernel
theorem dX2_yearsCome_23 : decode cX2_yearsCome 23 = .ok (.iload_n 2, 1) := by decide +kernel
theorem dX2_yearsCome_24 : decode cX2_yearsCome 24 = .ok (.iload_n 1, 1) := by decide +kernel
theorem dX2_yearsCome_25 : decode cX2_yearsCome 25 = .ok (.if_icmp .ge 13, 3) := by decide +kernel
theorem dX2_yearsCome_28 : decode cX2_yearsCome 28 = .ok (.aload_n 0, 1) := by decide +kernel
theorem dX2_yearsCome_29 : decode cX2_yearsCome 29 = .ok (.invokevirtual 139, 3) := by decide +kernel
theorem dX2_yearsCome_32 : decode cX2_yearsCome 32 = .ok (.iinc 2 1, 3) := by decide +kernel
theorem dX2_yearsCome_35 : decode cX2_yearsCome 35 = .ok (.goto (-12), 3) := by decide +kernel
theorem dX2_yearsCome_38 : decode cX2_yearsCome 38 = .ok (.iconst 1, 1) := by decide +kernel
theorem dX2_yearsCome_39 : decode cX2_yearsCome 39 = .ok (.ireturn, 1) := by decide +kernel
theorem dX2_toldAt_0 : decode cX2_toldAt 0 = .ok (.iload_n 1, 1) := by decide +kernel
theorem dX2_toldAt_1 : decode cX2_toldAt 1 = .ok (.ifCond .lt 20, 3) := by decide +kernel
theorem dX2_toldAt_4 : decode cX2_toldAt 4 = .ok (.iload_n 1, 1) := by decide +kernel
theorem dX2_toldAt_5 : decode cX2_toldAt 5 = .ok (.aload_n 0, 1) := by decide +kernel
theorem dX2_toldAt_6 : decode cX2_toldAt 6 = .ok (.getfield 15, 3) := by decide +kernel
theorem dX2_toldAt_9 : decode cX2_toldAt 9 = .ok (.if_icmp .ge 12, 3) := by decide +kernel
theorem dX2_toldAt_12 : decode cX2_toldAt 12 = .ok (.aload_n 0, 1) := by decide +kernel
theorem dX2_toldAt_13 : decode cX2_toldAt 13 = .ok (.getfield 9, 3) := by decide +kernel
theorem dX2_toldAt_16 : decode cX2_toldAt 16 = .ok (.iload_n 1, 1) := by decide +kernel
theorem dX2_toldAt_17 : decode cX2_toldAt 17 = .ok (.iaload, 1) := by decide +kernel
theorem dX2_toldAt_18 : decode cX2_toldAt 18 = .ok (.goto 4, 3) := by decide +kernel
theorem dX2_toldAt_21 : decode cX2_toldAt 21 = .ok (.iconst 0, 1) := by decide +kernel
theorem dX2_toldAt_22 : decode cX2_toldAt 22 = .ok (.ireturn, 1) := by decide +kernel
theorem dX2_digit_0 : decode cX2_digit 0 = .ok (.aload_n 0, 1) := by decide +kernel
theorem dX2_digit_1 : decode cX2_digit 1 = .ok (.iload_n 1, 1) := by decide +kernel
theorem dX2_digit_2 : decode cX2_digit 2 = .ok (.invokevirtual 107, 3) := by decide +kernel
theorem dX2_digit_5 : decode cX2_digit 5 = .ok (.bipush 48, 2) := by decide +kernel
theorem dX2_digit_7 : decode cX2_digit 7 = .ok (.isub, 1) := by decide +kernel
theorem dX2_digit_8 : decode cX2_digit 8 = .ok (.ireturn, 1) := by decide +kernel
theorem dX2_number_0 : decode cX2_number 0 = .ok (.bipush 10, 2) := by decide +kernel
theorem dX2_number_2 : decode cX2_number 2 = .ok (.aload_n 0, 1) := by decide +kernel
theorem dX2_number_3 : decode cX2_number 3 = .ok (.iload_n 1, 1) := by decide +kernel
theorem dX2_number_4 : decode cX2_number 4 = .ok (.invokevirtual 72, 3) := by decide +kernel
theorem dX2_number_7 : decode cX2_number 7 = .ok (.imul, 1) := by decide +kernel
theorem dX2_number_8 : decode cX2_number 8 = .ok (.aload_n 0, 1) := by decide +kernel
theorem dX2_number_9 : decode cX2_number 9 = .ok (.iload_n 1, 1) := by decide +kernel
theorem dX2_number_10 : decode cX2_number 10 = .ok (.iconst 1, 1) := by decide +kernel
theorem dX2_number_11 : decode cX2_number 11 = .ok (.iadd, 1) := by decide +kernel
theorem dX2_number_12 : decode cX2_number 12 = .ok (.invokevirtual 72, 3) := by decide +kernel
theorem dX2_number_15 : decode cX2_number 15 = .ok (.iadd, 1) := by decide +kernel
theorem dX2_number_16 : decode cX2_number 16 = .ok (.ireturn, 1) := by decide +kernel
theorem dX3_init_0 : decode cX3_init 0 = .ok (.aload_n 0, 1) := by decide +kernel
theorem dX3_init_1 : decode cX3_init 1 = .ok (.invokespecial 3, 3) := by decide +kernel
theorem dX3_init_4 : decode cX3_init 4 = .ok (.aload_n 0, 1) := by decide +kernel
theorem dX3_init_5 : decode cX3_init 5 = .ok (.new 9, 3) := by decide +kernel
theorem dX3_init_8 : decode cX3_init 8 = .ok (.dup, 1) := by decide +kernel
theorem dX3_init_9 : decode cX3_init 9 = .ok (.invokespecial 11, 3) := by decide +kernel
theorem dX3_init_12 : decode cX3_init 12 = .ok (.putfield 12, 3) := by decide +kernel
theorem dX3_init_15 : decode cX3_init 15 = .ok (.aload_n 0, 1) := by decide +kernel
theorem dX3_init_16 : decode cX3_init 16 = .ok (.new 9, 3) := by decide +kernel
theorem dX3_init_19 : decode cX3_init 19 = .ok (.dup, 1) := by decide +kernel
theorem dX3_init_20 : decode cX3_init 20 = .ok (.invokespecial 11, 3) := by decide +kernel
theorem dX3_init_23 : decode cX3_init 23 = .ok (.putfield 18, 3) := by decide +kernel
theorem dX3_init_26 : decode cX3_init 26 = .ok (.aload_n 0, 1) := by decide +kernel
theorem dX3_init_27 : decode cX3_init 27 = .ok (.new 21, 3) := by decide +kernel
theorem dX3_init_30 : decode cX3_init 30 = .ok (.dup, 1) := by decide +kernel
theorem dX3_init_31 : decode cX3_init 31 = .ok (.invokespecial 23, 3) := by decide +kernel
theorem dX3_init_34 : decode cX3_init 34 = .ok (.putfield 24, 3) := by decide +kernel
theorem dX3_init_37 : decode cX3_init 37 = .ok (.aload_n 0, 1) := by decide +kernel
theorem dX3_init_38 : decode cX3_init 38 = .ok (.bipush 7, 2) := by decide +kernel
theorem dX3_init_40 : decode cX3_init 40 = .ok (.newarray .int, 2) := by decide +kernel
theorem dX3_init_42 : decode cX3_init 42 = .ok (.putfield 28, 3) := by decide +kernel
theorem dX3_init_45 : decode cX3_init 45 = .ok (.aload_n 0, 1) := by decide +kernel
theorem dX3_init_46 : decode cX3_init 46 = .ok (.bipush 8, 2) := by decide +kernel
theorem dX3_init_48 : decode cX3_init 48 = .ok (.newarray .int, 2) := by decide +kernel
theorem dX3_init_50 : decode cX3_init 50 = .ok (.putfield 32, 3) := by decide +kernel
theorem dX3_init_53 : decode cX3_init 53 = .ok (.return_, 1) := by decide +kernel
theorem dX3_after_0 : decode cX3_after 0 = .ok (.aload_n 0, 1) := by decide +kernel
theorem dX3_after_1 : decode cX3_after 1 = .ok (.getfield 12, 3) := by decide +kernel
theorem dX3_after_4 : decode cX3_after 4 = .ok (.aload_n 1, 1) := by decide +kernel
theorem dX3_after_5 : decode cX3_after 5 = .ok (.invokevirtual 35, 3) := by decide +kernel
theorem dX3_after_8 : decode cX3_after 8 = .ok (.aload_n 0, 1) := by decide +kernel
theorem dX3_after_9 : decode cX3_after 9 = .ok (.getfield 12, 3) := by decide +kernel
theorem dX3_after_12 : decode cX3_after 12 = .ok (.iload_n 2, 1) := by decide +kernel
theorem dX3_after_13 : decode cX3_after 13 = .ok (.invokevirtual 39, 3) := by decide +kernel
theorem dX3_after_16 : decode cX3_after 16 = .ok (.pop, 1) := by decide +kernel
theorem dX3_after_17 : decode cX3_after 17 = .ok (.aload_n 0, 1) := by decide +kernel
theorem dX3_after_18 : decode cX3_after 18 = .ok (.getfield 12, 3) := by decide +kernel
theorem dX3_after_21 : decode cX3_after 21 = .ok (.areturn, 1) := by decide +kernel
theorem dX3_suppose_0 : decode cX3_suppose 0 = .ok (.aload_n 0, 1) := by decide +kernel
theorem dX3_suppose_1 : decode cX3_suppose 1 = .ok (.getfield 12, 3) := by decide +kernel
theorem dX3_suppose_4 : decode cX3_suppose 4 = .ok (.aload_n 1, 1) := by decide +kernel
theorem dX3_suppose_5 : decode cX3_suppose 5 = .ok (.invokevirtual 35, 3) := by decide +kernel
theorem dX3_suppose_8 : decode cX3_suppose 8 = .ok (.aload_n 0, 1) := by decide +kernel
theorem dX3_suppose_9 : decode cX3_suppose 9 = .ok (.getfield 12, 3) := by decide +kernel
theorem dX3_suppose_12 : decode cX3_suppose 12 = .ok (.getfield 43, 3) := by decide +kernel
theorem dX3_suppose_15 : decode cX3_suppose 15 = .ok (.iload_n 2, 1) := by decide +kernel
theorem dX3_suppose_16 : decode cX3_suppose 16 = .ok (.iload_n 3, 1) := by decide +kernel
theorem dX3_suppose_17 : decode cX3_suppose 17 = .ok (.iastore, 1) := by decide +kernel
theorem dX3_suppose_18 : decode cX3_suppose 18 = .ok (.aload_n 0, 1) := by decide +kernel
theorem dX3_suppose_19 : decode cX3_suppose 19 = .ok (.getfield 12, 3) := by decide +kernel
theorem dX3_suppose_22 : decode cX3_suppose 22 = .ok (.getfield 46, 3) := by decide +kernel
theorem dX3_suppose_25 : decode cX3_suppose 25 = .ok (.iload_n 2, 1) := by decide +kernel
theorem dX3_suppose_26 : decode cX3_suppose 26 = .ok (.iload 4, 2) := by decide +kernel
theorem dX3_suppose_28 : decode cX3_suppose 28 = .ok (.iastore, 1) := by decide +kernel
theorem dX3_suppose_29 : decode cX3_suppose 29 = .ok (.return_, 1) := by decide +kernel
theorem dX3_lostYear_0 : decode cX3_lostYear 0 = .ok (.aload_n 0, 1) := by decide +kernel
theorem dX3_lostYear_1 : decode cX3_lostYear 1 = .ok (.getfield 12, 3) := by decide +kernel
theorem dX3_lostYear_4 : decode cX3_lostYear 4 = .ok (.aload_n 1, 1) := by decide +kernel
theorem dX3_lostYear_5 : decode cX3_lostYear 5 = .ok (.invokevirtual 35, 3) := by decide +kernel
theorem dX3_lostYear_8 : decode cX3_lostYear 8 = .ok (.iconst 0, 1) := by decide +kernel
theorem dX3_lostYear_9 : decode cX3_lostYear 9 = .ok (.istore_n 2, 1) := by decide +kernel
theorem dX3_lostYear_10 : decode cX3_lostYear 10 = .ok (.iload_n 2, 1) := by decide +kernel
theorem dX3_lostYear_11 : decode cX3_lostYear 11 = .ok (.bipush 60, 2) := by decide +kernel
theorem dX3_lostYear_13 : decode cX3_lostYear 13 = .ok (.if_icmp .gt 34, 3) := by decide +kernel
theorem dX3_lostYear_16 : decode cX3_lostYear 16 = .ok (.iload_n 2, 1) := by decide +kernel
theorem dX3_lostYear_17 : decode cX3_lostYear 17 = .ok (.ifCond .le 10, 3) := by decide +kernel
theorem dX3_lostYear_20 : decode cX3_lostYear 20 = .ok (.aload_n 0, 1) := by decide +kernel
theorem dX3_lostYear_21 : decode cX3_lostYear 21 = .ok (.getfield 12, 3) := by decide +kernel
theorem dX3_lostYear_24 : decode cX3_lostYear 24 = .ok (.invokevirtual 49, 3) := by decide +kernel
theorem dX3_lostYear_27 : decode cX3_lostYear 27 = .ok (.aload_n 0, 1) := by decide +kernel
theorem dX3_lostYear_28 : decode cX3_lostYear 28 = .ok (.getfield 12, 3) := by decide +kernel
theorem dX3_lostYear_31 : decode cX3_lostYear 31 = .ok (.invokevirtual 52, 3) := by decide +kernel
theorem dX3_lostYear_34 : decode cX3_lostYear 34 = .ok (.bipush (-9), 2) := by decide +kernel
theorem dX3_lostYear_36 : decode cX3_lostYear 36 = .ok (.if_icmp .eq 5, 3) := by decide +kernel
theorem dX3_lostYear_39 : decode cX3_lostYear 39 = .ok (.iload_n 2, 1) := by decide +kernel
theorem dX3_lostYear_40 : decode cX3_lostYear 40 = .ok (.ireturn, 1) := by decide +kernel
theorem dX3_lostYear_41 : decode cX3_lostYear 41 = .ok (.iinc 2 1, 3) := by decide +kernel
theorem dX3_lostYear_44 : decode cX3_lostYear 44 = .ok (.goto (-34), 3) := by decide +kernel
theorem dX3_lostYear_47 : decode cX3_lostYear 47 = .ok (.bipush (-9), 2) := by decide +kernel
theorem dX3_lostYear_49 : decode cX3_lostYear 49 = .ok (.ireturn, 1) := by decide +kernel
theorem dX3_lostFarm_0 : decode cX3_lostFarm 0 = .ok (.aload_n 0, 1) := by decide +kernel
theorem dX3_lostFarm_1 : decode cX3_lostFarm 1 = .ok (.aload_n 1, 1) := by decide +kernel
theorem dX3_lostFarm_2 : decode cX3_lostFarm 2 = .ok (.invokevirtual 56, 3) := by decide +kernel
theorem dX3_lostFarm_5 : decode cX3_lostFarm 5 = .ok (.bipush (-9), 2) := by decide +kernel
theorem dX3_lostFarm_7 : decode cX3_lostFarm 7 = .ok (.if_icmp .ne 8, 3) := by decide +kernel
theorem dX3_lostFarm_10 : decode cX3_lostFarm 10 = .ok (.bipush (-9), 2) := by decide +kernel
theorem dX3_lostFarm_12 : decode cX3_lostFarm 12 = .ok (.goto 10, 3) := by decide +kernel
theorem dX3_lostFarm_15 : decode cX3_lostFarm 15 = .ok (.aload_n 0, 1) := by decide +kernel
theorem dX3_lostFarm_16 : decode cX3_lostFarm 16 = .ok (.getfield 12, 3) := by decide +kernel
theorem dX3_lostFarm_19 : decode cX3_lostFarm 19 = .ok (.invokevirtual 52, 3) := by decide +kernel
theorem dX3_lostFarm_22 : decode cX3_lostFarm 22 = .ok (.ireturn, 1) := by decide +kernel
theorem dX3_grownOfAll_0 : decode cX3_grownOfAll 0 = .ok (.aload_n 0, 1) := by decide +kernel
theorem dX3_grownOfAll_1 : decode cX3_grownOfAll 1 = .ok (.getfield 12, 3) := by decide +kernel
theorem dX3_grownOfAll_4 : decode cX3_grownOfAll 4 = .ok (.aload_n 1, 1) := by decide +kernel
theorem dX3_grownOfAll_5 : decode cX3_grownOfAll 5 = .ok (.invokevirtual 35, 3) := by decide +kernel
theorem dX3_grownOfAll_8 : decode cX3_grownOfAll 8 = .ok (.aload_n 0, 1) := by decide +kernel
theorem dX3_grownOfAll_9 : decode cX3_grownOfAll 9 = .ok (.getfield 12, 3) := by decide +kernel
theorem dX3_grownOfAll_12 : decode cX3_grownOfAll 12 = .ok (.iload_n 2, 1) := by decide +kernel
theorem dX3_grownOfAll_13 : decode cX3_grownOfAll 13 = .ok (.invokevirtual 39, 3) := by decide +kernel
theorem dX3_grownOfAll_16 : decode cX3_grownOfAll 16 = .ok (.ireturn, 1) := by decide +kernel
theorem dX3_grownOn_0 : decode cX3_grownOn 0 = .ok (.aload_n 0, 1) := by decide +kernel
theorem dX3_grownOn_1 : decode cX3_grownOn 1 = .ok (.getfield 12, 3) := by decide +kernel
theorem dX3_grownOn_4 : decode cX3_grownOn 4 = .ok (.aload_n 1, 1) := by decide +kernel
theorem dX3_grownOn_5 : decode cX3_grownOn 5 = .ok (.invokevirtual 35, 3) := by decide +kernel
theorem dX3_grownOn_8 : decode cX3_grownOn 8 = .ok (.iconst 0, 1) := by decide +kernel
theorem dX3_grownOn_9 : decode cX3_grownOn 9 = .ok (.istore 4, 2) := by decide +kernel
theorem dX3_grownOn_11 : decode cX3_grownOn 11 = .ok (.iconst 0, 1) := by decide +kernel
theorem dX3_grownOn_12 : decode cX3_grownOn 12 = .ok (.istore 5, 2) := by decide +kernel
theorem dX3_grownOn_14 : decode cX3_grownOn 14 = .ok (.iload 5, 2) := by decide +kernel
theorem dX3_grownOn_16 : decode cX3_grownOn 16 = .ok (.iload_n 3, 1) := by decide +kernel
theorem dX3_grownOn_17 : decode cX3_grownOn 17 = .ok (.if_icmp .ge 30, 3) := by decide +kernel
theorem dX3_grownOn_20 : decode cX3_grownOn 20 = .ok (.aload_n 0, 1) := by decide +kernel
theorem dX3_grownOn_21 : decode cX3_grownOn 21 = .ok (.getfield 12, 3) := by decide +kernel
theorem dX3_grownOn_24 : decode cX3_grownOn 24 = .ok (.invokevirtual 49, 3) := by decide +kernel
theorem dX3_grownOn_27 : decode cX3_grownOn 27 = .ok (.iload 4, 2) := by decide +kernel
theorem dX3_grownOn_29 : decode cX3_grownOn 29 = .ok (.aload_n 0, 1) := by decide +kernel
theorem dX3_grownOn_30 : decode cX3_grownOn 30 = .ok (.getfield 12, 3) := by decide +kernel
theorem dX3_grownOn_33 : decode cX3_grownOn 33 = .ok (.getfield 60, 3) := by decide +kernel
theorem dX3_grownOn_36 : decode cX3_grownOn 36 = .ok (.iload_n 2, 1) := by decide +kernel
theorem dX3_grownOn_37 : decode cX3_grownOn 37 = .ok (.iaload, 1) := by decide +kernel
theorem dX3_grownOn_38 : decode cX3_grownOn 38 = .ok (.iadd, 1) := by decide +kernel
theorem dX3_grownOn_39 : decode cX3_grownOn 39 = .ok (.istore 4, 2) := by decide +kernel
theorem dX3_grownOn_41 : decode cX3_grownOn 41 = .ok (.iinc 5 1, 3) := by decide +kernel
theorem dX3_grownOn_44 : decode cX3_grownOn 44 = .ok (.goto (-30), 3) := by decide +kernel
theorem dX3_grownOn_47 : decode cX3_grownOn 47 = .ok (.iload 4, 2) := by decide +kernel
theorem dX3_grownOn_49 : decode cX3_grownOn 49 = .ok (.ireturn, 1) := by decide +kernel
theorem dX3_grownByStep_0 : decode cX3_grownByStep 0 = .ok (.aload_n 0, 1) := by decide +kernel
theorem dX3_grownByStep_1 : decode cX3_grownByStep 1 = .ok (.getfield 12, 3) := by decide +kernel
theorem dX3_grownByStep_4 : decode cX3_grownByStep 4 = .ok (.aload_n 1, 1) := by decide +kernel
theorem dX3_grownByStep_5 : decode cX3_grownByStep 5 = .ok (.invokevirtual 35, 3) := by decide +kernel
theorem dX3_grownByStep_8 : decode cX3_grownByStep 8 = .ok (.aload_n 0, 1) := by decide +kernel
theorem dX3_grownByStep_9 : decode cX3_grownByStep 9 = .ok (.getfield 12, 3) := by decide +kernel
theorem dX3_grownByStep_12 : decode cX3_grownByStep 12 = .ok (.iload_n 2, 1) := by decide +kernel
theorem dX3_grownByStep_13 : decode cX3_grownByStep 13 = .ok (.putfield 63, 3) := by decide +kernel
theorem dX3_grownByStep_16 : decode cX3_grownByStep 16 = .ok (.aload_n 0, 1) := by decide +kernel
theorem dX3_grownByStep_17 : decode cX3_grownByStep 17 = .ok (.getfield 12, 3) := by decide +kernel
theorem dX3_grownByStep_20 : decode cX3_grownByStep 20 = .ok (.iload_n 3, 1) := by decide +kernel
theorem dX3_grownByStep_21 : decode cX3_grownByStep 21 = .ok (.invokevirtual 39, 3) := by decide +kernel
theorem dX3_grownByStep_24 : decode cX3_grownByStep 24 = .ok (.ireturn, 1) := by decide +kernel
theorem dX3_stepOfMost_0 : decode cX3_stepOfMost 0 = .ok (.iconst 0, 1) := by decide +kernel
theorem dX3_stepOfMost_1 : decode cX3_stepOfMost 1 = .ok (.istore_n 3, 1) := by decide +kernel
theorem dX3_stepOfMost_2 : decode cX3_stepOfMost 2 = .ok (.iconst (-1), 1) := by decide +kernel
theorem dX3_stepOfMost_3 : decode cX3_stepOfMost 3 = .ok (.istore 4, 2) := by decide +kernel
theorem dX3_stepOfMost_5 : decode cX3_stepOfMost 5 = .ok (.iconst 0, 1) := by decide +kernel
theorem dX3_stepOfMost_6 : decode cX3_stepOfMost 6 = .ok (.istore 5, 2) := by decide +kernel
theorem dX3_stepOfMost_8 : decode cX3_stepOfMost 8 = .ok (.iload 5, 2) := by decide +kernel
theorem dX3_stepOfMost_10 : decode cX3_stepOfMost 10 = .ok (.iconst 5, 1) := by decide +kernel
theorem dX3_stepOfMost_11 : decode cX3_stepOfMost 11 = .ok (.if_icmp .gt 33, 3) := by decide +kernel
theorem dX3_stepOfMost_14 : decode cX3_stepOfMost 14 = .ok (.aload_n 0, 1) := by decide +kernel
theorem dX3_stepOfMost_15 : decode cX3_stepOfMost 15 = .ok (.aload_n 1, 1) := by decide +kernel
theorem dX3_stepOfMost_16 : decode cX3_stepOfMost 16 = .ok (.iload 5, 2) := by decide +kernel
theorem dX3_stepOfMost_18 : decode cX3_stepOfMost 18 = .ok (.iload_n 2, 1) := by decide +kernel
theorem dX3_stepOfMost_19 : decode cX3_stepOfMost 19 = .ok (.invokevirtual 67, 3) := by decide +kernel
theorem dX3_stepOfMost_22 : decode cX3_stepOfMost 22 = .ok (.istore 6, 2) := by decide +kernel
theorem dX3_stepOfMost_24 : decode cX3_stepOfMost 24 = .ok (.iload 6, 2) := by decide +kernel
theorem dX3_stepOfMost_26 : decode cX3_stepOfMost 26 = .ok (.iload 4, 2) := by decide +kernel
theorem dX3_stepOfMost_28 : decode cX3_stepOfMost 28 = .ok (.if_icmp .le 10, 3) := by decide +kernel
theorem dX3_stepOfMost_31 : decode cX3_stepOfMost 31 = .ok (.iload 6, 2) := by decide +kernel
theorem dX3_stepOfMost_33 : decode cX3_stepOfMost 33 = .ok (.istore 4, 2) := by decide +kernel
theorem dX3_stepOfMost_35 : decode cX3_stepOfMost 35 = .ok (.iload 5, 2) := by decide +kernel
theorem dX3_stepOfMost_37 : decode cX3_stepOfMost 37 = .ok (.istore_n 3, 1) := by decide +kernel
theorem dX3_stepOfMost_38 : decode cX3_stepOfMost 38 = .ok (.iinc 5 1, 3) := by decide +kernel
theorem dX3_stepOfMost_41 : decode cX3_stepOfMost 41 = .ok (.goto (-33), 3) := by decide +kernel
theorem dX3_stepOfMost_44 : decode cX3_stepOfMost 44 = .ok (.iload_n 3, 1) := by decide +kernel
theorem dX3_stepOfMost_45 : decode cX3_stepOfMost 45 = .ok (.ireturn, 1) := by decide +kernel
theorem dX3_farmerToSend_0 : decode cX3_farmerToSend 0 = .ok (.aload_n 0, 1) := by decide +kernel
theorem dX3_farmerToSend_1 : decode cX3_farmerToSend 1 = .ok (.aload_n 1, 1) := by decide +kernel
theorem dX3_farmerToSend_2 : decode cX3_farmerToSend 2 = .ok (.iload_n 2, 1) := by decide +kernel
theorem dX3_farmerToSend_3 : decode cX3_farmerToSend 3 = .ok (.invokevirtual 71, 3) := by decide +kernel
theorem dX3_farmerToSend_6 : decode cX3_farmerToSend 6 = .ok (.istore_n 3, 1) := by decide +kernel
theorem dX3_farmerToSend_7 : decode cX3_farmerToSend 7 = .ok (.bipush (-9), 2) := by decide +kernel
theorem dX3_farmerToSend_9 : decode cX3_farmerToSend 9 = .ok (.istore 4, 2) := by decide +kernel
theorem dX3_farmerToSend_11 : decode cX3_farmerToSend 11 = .ok (.iconst 0, 1) := by decide +kernel
theorem dX3_farmerToSend_12 : decode cX3_farmerToSend 12 = .ok (.istore 5, 2) := by decide +kernel
theorem dX3_farmerToSend_14 : decode cX3_farmerToSend 14 = .ok (.iload 5, 2) := by decide +kernel
theorem dX3_farmerToSend_16 : decode cX3_farmerToSend 16 = .ok (.aload_n 1, 1) := by decide +kernel
theorem dX3_farmerToSend_17 : decode cX3_farmerToSend 17 = .ok (.getfield 75, 3) := by decide +kernel
theorem dX3_farmerToSend_20 : decode cX3_farmerToSend 20 = .ok (.if_icmp .ge 52, 3) := by decide +kernel
theorem dX3_farmerToSend_23 : decode cX3_farmerToSend 23 = .ok (.aload_n 0, 1) := by decide +kernel
theorem dX3_farmerToSend_24 : decode cX3_farmerToSend 24 = .ok (.getfield 12, 3) := by decide +kernel
theorem dX3_farmerToSend_27 : decode cX3_farmerToSend 27 = .ok (.aload_n 1, 1) := by decide +kernel
theorem dX3_farmerToSend_28 : decode cX3_farmerToSend 28 = .ok (.invokevirtual 35, 3) := by decide +kernel
theorem dX3_farmerToSend_31 : decode cX3_farmerToSend 31 = .ok (.aload_n 0, 1) := by decide +kernel
theorem dX3_farmerToSend_32 : decode cX3_farmerToSend 32 = .ok (.getfield 12, 3) := by decide +kernel
theorem dX3_farmerToSend_35 : decode cX3_farmerToSend 35 = .ok (.getfield 78, 3) := by decide +kernel
theorem dX3_farmerToSend_38 : decode cX3_farmerToSend 38 = .ok (.iload 5, 2) := by decide +kernel
theorem dX3_farmerToSend_40 : decode cX3_farmerToSend 40 = .ok (.bipush (-9), 2) := by decide +kernel
theorem dX3_farmerToSend_42 : decode cX3_farmerToSend 42 = .ok (.iastore, 1) := by decide +kernel
theorem dX3_farmerToSend_43 : decode cX3_farmerToSend 43 = .ok (.aload_n 0, 1) := by decide +kernel
theorem dX3_farmerToSend_44 : decode cX3_farmerToSend 44 = .ok (.getfield 12, 3) := by decide +kernel
theorem dX3_farmerToSend_47 : decode cX3_farmerToSend 47 = .ok (.iload_n 2, 1) := by decide +kernel
theorem dX3_farmerToSend_48 : decode cX3_farmerToSend 48 = .ok (.invokevirtual 39, 3) := by decide +kernel
theorem dX3_farmerToSend_51 : decode cX3_farmerToSend 51 = .ok (.istore 6, 2) := by decide +kernel
theorem dX3_farmerToSend_53 : decode cX3_farmerToSend 53 = .ok (.iload 6, 2) := by decide +kernel
theorem dX3_farmerToSend_55 : decode cX3_farmerToSend 55 = .ok (.iload_n 3, 1) := by decide +kernel
theorem dX3_farmerToSend_56 : decode cX3_farmerToSend 56 = .ok (.if_icmp .le 10, 3) := by decide +kernel
theorem dX3_farmerToSend_59 : decode cX3_farmerToSend 59 = .ok (.iload 6, 2) := by decide +kernel
theorem dX3_farmerToSend_61 : decode cX3_farmerToSend 61 = .ok (.istore_n 3, 1) := by decide +kernel
theorem dX3_farmerToSend_62 : decode cX3_farmerToSend 62 = .ok (.iload 5, 2) := by decide +kernel
theorem dX3_farmerToSend_64 : decode cX3_farmerToSend 64 = .ok (.istore 4, 2) := by decide +kernel
theorem dX3_farmerToSend_66 : decode cX3_farmerToSend 66 = .ok (.iinc 5 1, 3) := by decide +kernel
theorem dX3_farmerToSend_69 : decode cX3_farmerToSend 69 = .ok (.goto (-55), 3) := by decide +kernel
theorem dX3_farmerToSend_72 : decode cX3_farmerToSend 72 = .ok (.iload 4, 2) := by decide +kernel
theorem dX3_farmerToSend_74 : decode cX3_farmerToSend 74 = .ok (.ireturn, 1) := by decide +kernel
theorem dX3_pairToChange_0 : decode cX3_pairToChange 0 = .ok (.aload_n 0, 1) := by decide +kernel
theorem dX3_pairToChange_1 : decode cX3_pairToChange 1 = .ok (.aload_n 1, 1) := by decide +kernel
theorem dX3_pairToChange_2 : decode cX3_pairToChange 2 = .ok (.iload_n 2, 1) := by decide +kernel
theorem dX3_pairToChange_3 : decode cX3_pairToChange 3 = .ok (.invokevirtual 71, 3) := by decide +kernel
theorem dX3_pairToChange_6 : decode cX3_pairToChange 6 = .ok (.istore_n 3, 1) := by decide +kernel
theorem dX3_pairToChange_7 : decode cX3_pairToChange 7 = .ok (.bipush (-9), 2) := by decide +kernel
theorem dX3_pairToChange_9 : decode cX3_pairToChange 9 = .ok (.istore 4, 2) := by decide +kernel
theorem dX3_pairToChange_11 : decode cX3_pairToChange 11 = .ok (.iconst 0, 1) := by decide +kernel
theorem dX3_pairToChange_12 : decode cX3_pairToChange 12 = .ok (.istore 5, 2) := by decide +kernel
theorem dX3_pairToChange_14 : decode cX3_pairToChange 14 = .ok (.iload 5, 2) := by decide +kernel
theorem dX3_pairToChange_16 : decode cX3_pairToChange 16 = .ok (.aload_n 1, 1) := by decide +kernel
theorem dX3_pairToChange_17 : decode cX3_pairToChange 17 = .ok (.getfield 75, 3) := by decide +kernel
theorem dX3_pairToChange_20 : decode cX3_pairToChange 20 = .ok (.if_icmp .ge 78, 3) := by decide +kernel
theorem dX3_pairToChange_23 : decode cX3_pairToChange 23 = .ok (.iload 5, 2) := by decide +kernel
theorem dX3_pairToChange_25 : decode cX3_pairToChange 25 = .ok (.iconst 1, 1) := by decide +kernel
theorem dX3_pairToChange_26 : decode cX3_pairToChange 26 = .ok (.iadd, 1) := by decide +kernel
theorem dX3_pairToChange_27 : decode cX3_pairToChange 27 = .ok (.istore 6, 2) := by decide +kernel
theorem dX3_pairToChange_29 : decode cX3_pairToChange 29 = .ok (.iload 6, 2) := by decide +kernel
theorem dX3_pairToChange_31 : decode cX3_pairToChange 31 = .ok (.aload_n 1, 1) := by decide +kernel
theorem dX3_pairToChange_32 : decode cX3_pairToChange 32 = .ok (.getfield 75, 3) := by decide +kernel
theorem dX3_pairToChange_35 : decode cX3_pairToChange 35 = .ok (.if_icmp .ge 57, 3) := by decide +kernel
theorem dX3_pairToChange_38 : decode cX3_pairToChange 38 = .ok (.aload_n 0, 1) := by decide +kernel
theorem dX3_pairToChange_39 : decode cX3_pairToChange 39 = .ok (.getfield 12, 3) := by decide +kernel
theorem dX3_pairToChange_42 : decode cX3_pairToChange 42 = .ok (.aload_n 1, 1) := by decide +kernel
theorem dX3_pairToChange_43 : decode cX3_pairToChange 43 = .ok (.invokevirtual 35, 3) := by decide +kernel
theorem dX3_pairToChange_46 : decode cX3_pairToChange 46 = .ok (.aload_n 0, 1) := by decide +kernel
theorem dX3_pairToChange_47 : decode cX3_pairToChange 47 = .ok (.getfield 12, 3) := by decide +kernel
theorem dX3_pairToChange_50 : decode cX3_pairToChange 50 = .ok (.iload 5, 2) := by decide +kernel
theorem dX3_pairToChange_52 : decode cX3_pairToChange 52 = .ok (.iload 6, 2) := by decide +kernel
theorem dX3_pairToChange_54 : decode cX3_pairToChange 54 = .ok (.invokevirtual 81, 3) := by decide +kernel
theorem dX3_pairToChange_57 : decode cX3_pairToChange 57 = .ok (.aload_n 0, 1) := by decide +kernel
theorem dX3_pairToChange_58 : decode cX3_pairToChange 58 = .ok (.getfield 12, 3) := by decide +kernel
theorem dX3_pairToChange_61 : decode cX3_pairToChange 61 = .ok (.iload_n 2, 1) := by decide +kernel
theorem dX3_pairToChange_62 : decode cX3_pairToChange 62 = .ok (.invokevirtual 39, 3) := by decide +kernel
theorem dX3_pairToChange_65 : decode cX3_pairToChange 65 = .ok (.istore 7, 2) := by decide +kernel
theorem dX3_pairToChange_67 : decode cX3_pairToChange 67 = .ok (.iload 7, 2) := by decide +kernel
theorem dX3_pairToChange_69 : decode cX3_pairToChange 69 = .ok (.iload_n 3, 1) := by decide +kernel
theorem dX3_pairToChange_70 : decode cX3_pairToChange 70 = .ok (.if_icmp .le 16, 3) := by decide +kernel
theorem dX3_pairToChange_73 : decode cX3_pairToChange 73 = .ok (.iload 7, 2) := by decide +kernel
theorem dX3_pairToChange_75 : decode cX3_pairToChange 75 = .ok (.istore_n 3, 1) := by decide +kernel
theorem dX3_pairToChange_76 : decode cX3_pairToChange 76 = .ok (.bipush 10, 2) := by decide +kernel
theorem dX3_pairToChange_78 : decode cX3_pairToChange 78 = .ok (.iload 5, 2) := by decide +kernel
theorem dX3_pairToChange_80 : decode cX3_pairToChange 80 = .ok (.imul, 1) := by decide +kernel
theorem dX3_pairToChange_81 : decode cX3_pairToChange 81 = .ok (.iload 6, 2) := by decide +kernel
theorem dX3_pairToChange_83 : decode cX3_pairToChange 83 = .ok (.iadd, 1) := by decide +kernel
theorem dX3_pairToChange_84 : decode cX3_pairToChange 84 = .ok (.istore 4, 2) := by decide +kernel
theorem dX3_pairToChange_86 : decode cX3_pairToChange 86 = .ok (.iinc 6 1, 3) := by decide +kernel
theorem dX3_pairToChange_89 : decode cX3_pairToChange 89 = .ok (.goto (-60), 3) := by decide +kernel
theorem dX3_pairToChange_92 : decode cX3_pairToChange 92 = .ok (.iinc 5 1, 3) := by decide +kernel
theorem dX3_pairToChange_95 : decode cX3_pairToChange 95 = .ok (.goto (-81), 3) := by decide +kernel
theorem dX3_pairToChange_98 : decode cX3_pairToChange 98 = .ok (.iload 4, 2) := by decide +kernel
theorem dX3_pairToChange_100 : decode cX3_pairToChange 100 = .ok (.ireturn, 1) := by decide +kernel
theorem dX3_settledYear_0 : decode cX3_settledYear 0 = .ok (.aload_n 0, 1) := by decide +kernel
theorem dX3_settledYear_1 : decode cX3_settledYear 1 = .ok (.getfield 12, 3) := by decide +kernel
theorem dX3_settledYear_4 : decode cX3_settledYear 4 = .ok (.aload_n 1, 1) := by decide +kernel
theorem dX3_settledYear_5 : decode cX3_settledYear 5 = .ok (.invokevirtual 35, 3) := by decide +kernel
theorem dX3_settledYear_8 : decode cX3_settledYear 8 = .ok (.iconst 0, 1) := by decide +kernel
theorem dX3_settledYear_9 : decode cX3_settledYear 9 = .ok (.istore_n 2, 1) := by decide +kernel
theorem dX3_settledYear_10 : decode cX3_settledYear 10 = .ok (.iload_n 2, 1) := by decide +kernel
theorem dX3_settledYear_11 : decode cX3_settledYear 11 = .ok (.bipush 60, 2) := by decide +kernel
theorem dX3_settledYear_13 : decode cX3_settledYear 13 = .ok (.if_icmp .gt 43, 3) := by decide +kernel
theorem dX3_settledYear_16 : decode cX3_settledYear 16 = .ok (.aload_n 0, 1) := by decide +kernel
theorem dX3_settledYear_17 : decode cX3_settledYear 17 = .ok (.getfield 18, 3) := by decide +kernel
theorem dX3_settledYear_20 : decode cX3_settledYear 20 = .ok (.aload_n 0, 1) := by decide +kernel
theorem dX3_settledYear_21 : decode cX3_settledYear 21 = .ok (.getfield 12, 3) := by decide +kernel
theorem dX3_settledYear_24 : decode cX3_settledYear 24 = .ok (.invokevirtual 35, 3) := by decide +kernel
theorem dX3_settledYear_27 : decode cX3_settledYear 27 = .ok (.aload_n 0, 1) := by decide +kernel
theorem dX3_settledYear_28 : decode cX3_settledYear 28 = .ok (.getfield 12, 3) := by decide +kernel
theorem dX3_settledYear_31 : decode cX3_settledYear 31 = .ok (.invokevirtual 49, 3) := by decide +kernel
theorem dX3_settledYear_34 : decode cX3_settledYear 34 = .ok (.aload_n 0, 1) := by decide +kernel
theorem dX3_settledYear_35 : decode cX3_settledYear 35 = .ok (.getfield 12, 3) := by decide +kernel
theorem dX3_settledYear_38 : decode cX3_settledYear 38 = .ok (.aload_n 0, 1) := by decide +kernel
theorem dX3_settledYear_39 : decode cX3_settledYear 39 = .ok (.getfield 18, 3) := by decide +kernel
theorem dX3_settledYear_42 : decode cX3_settledYear 42 = .ok (.invokevirtual 85, 3) := by decide +kernel
theorem dX3_settledYear_45 : decode cX3_settledYear 45 = .ok (.ifCond .eq 5, 3) := by decide +kernel
theorem dX3_settledYear_48 : decode cX3_settledYear 48 = .ok (.iload_n 2, 1) := by decide +kernel
theorem dX3_settledYear_49 : decode cX3_settledYear 49 = .ok (.ireturn, 1) := by decide +kernel
theorem dX3_settledYear_50 : decode cX3_settledYear 50 = .ok (.iinc 2 1, 3) := by decide +kernel
theorem dX3_settledYear_53 : decode cX3_settledYear 53 = .ok (.goto (-43), 3) := by decide +kernel
theorem dX3_settledYear_56 : decode cX3_settledYear 56 = .ok (.bipush (-9), 2) := by decide +kernel
theorem dX3_settledYear_58 : decode cX3_settledYear 58 = .ok (.ireturn, 1) := by decide +kernel
theorem dX3_roundYear_0 : decode cX3_roundYear 0 = .ok (.aload_n 0, 1) := by decide +kernel
theorem dX3_roundYear_1 : decode cX3_roundYear 1 = .ok (.getfield 12, 3) := by decide +kernel
theorem dX3_roundYear_4 : decode cX3_roundYear 4 = .ok (.aload_n 1, 1) := by decide +kernel
theorem dX3_roundYear_5 : decode cX3_roundYear 5 = .ok (.invokevirtual 35, 3) := by decide +kernel
theorem dX3_roundYear_8 : decode cX3_roundYear 8 = .ok (.iconst 1, 1) := by decide +kernel
theorem dX3_roundYear_9 : decode cX3_roundYear 9 = .ok (.istore_n 2, 1) := by decide +kernel
theorem dX3_roundYear_10 : decode cX3_roundYear 10 = .ok (.iload_n 2, 1) := by decide +kernel
theorem dX3_roundYear_11 : decode cX3_roundYear 11 = .ok (.bipush 60, 2) := by decide +kernel
theorem dX3_roundYear_13 : decode cX3_roundYear 13 = .ok (.if_icmp .gt 29, 3) := by decide +kernel
theorem dX3_roundYear_16 : decode cX3_roundYear 16 = .ok (.aload_n 0, 1) := by decide +kernel
theorem dX3_roundYear_17 : decode cX3_roundYear 17 = .ok (.getfield 12, 3) := by decide +kernel
theorem dX3_roundYear_20 : decode cX3_roundYear 20 = .ok (.invokevirtual 49, 3) := by decide +kernel
theorem dX3_roundYear_23 : decode cX3_roundYear 23 = .ok (.aload_n 0, 1) := by decide +kernel
theorem dX3_roundYear_24 : decode cX3_roundYear 24 = .ok (.getfield 12, 3) := by decide +kernel
theorem dX3_roundYear_27 : decode cX3_roundYear 27 = .ok (.aload_n 1, 1) := by decide +kernel
theorem dX3_roundYear_28 : decode cX3_roundYear 28 = .ok (.invokevirtual 89, 3) := by decide +kernel
theorem dX3_roundYear_31 : decode cX3_roundYear 31 = .ok (.ifCond .eq 5, 3) := by decide +kernel
theorem dX3_roundYear_34 : decode cX3_roundYear 34 = .ok (.iload_n 2, 1) := by decide +kernel
theorem dX3_roundYear_35 : decode cX3_roundYear 35 = .ok (.ireturn, 1) := by decide +kernel
theorem dX3_roundYear_36 : decode cX3_roundYear 36 = .ok (.iinc 2 1, 3) := by decide +kernel
theorem dX3_roundYear_39 : decode cX3_roundYear 39 = .ok (.goto (-29), 3) := by decide +kernel
theorem dX3_roundYear_42 : decode cX3_roundYear 42 = .ok (.bipush (-9), 2) := by decide +kernel
theorem dX3_roundYear_44 : decode cX3_roundYear 44 = .ok (.ireturn, 1) := by decide +kernel
theorem dX3_restingPair_0 : decode cX3_restingPair 0 = .ok (.iconst 0, 1) := by decide +kernel
theorem dX3_restingPair_1 : decode cX3_restingPair 1 = .ok (.istore 5, 2) := by decide +kernel
theorem dX3_restingPair_3 : decode cX3_restingPair 3 = .ok (.iload 5, 2) := by decide +kernel
theorem dX3_restingPair_5 : decode cX3_restingPair 5 = .ok (.iconst 4, 1) := by decide +kernel
theorem dX3_restingPair_6 : decode cX3_restingPair 6 = .ok (.if_icmp .ge 20, 3) := by decide +kernel
theorem dX3_restingPair_9 : decode cX3_restingPair 9 = .ok (.aload_n 0, 1) := by decide +kernel
theorem dX3_restingPair_10 : decode cX3_restingPair 10 = .ok (.aload_n 1, 1) := by decide +kernel
theorem dX3_restingPair_11 : decode cX3_restingPair 11 = .ok (.iload_n 2, 1) := by decide +kernel
theorem dX3_restingPair_12 : decode cX3_restingPair 12 = .ok (.iload_n 3, 1) := by decide +kernel
theorem dX3_restingPair_13 : decode cX3_restingPair 13 = .ok (.iload 4, 2) := by decide +kernel
theorem dX3_restingPair_15 : decode cX3_restingPair 15 = .ok (.iload 5, 2) := by decide +kernel
theorem dX3_restingPair_17 : decode cX3_restingPair 17 = .ok (.invokevirtual 92, 3) := by decide +kernel
theorem dX3_restingPair_20 : decode cX3_restingPair 20 = .ok (.iinc 5 1, 3) := by decide +kernel
theorem dX3_restingPair_23 : decode cX3_restingPair 23 = .ok (.goto (-20), 3) := by decide +kernel
theorem dX3_restingPair_26 : decode cX3_restingPair 26 = .ok (.iconst 0, 1) := by decide +kernel
theorem dX3_restingPair_27 : decode cX3_restingPair 27 = .ok (.istore 5, 2) := by decide +kernel
theorem dX3_restingPair_29 : decode cX3_restingPair 29 = .ok (.iload 5, 2) := by decide +kernel
theorem dX3_restingPair_31 : decode cX3_restingPair 31 = .ok (.iconst 4, 1) := by decide +kernel
theorem dX3_restingPair_32 : decode cX3_restingPair 32 = .ok (.if_icmp .ge 96, 3) := by decide +kernel
theorem dX3_restingPair_35 : decode cX3_restingPair 35 = .ok (.aload_n 0, 1) := by decide +kernel
theorem dX3_restingPair_36 : decode cX3_restingPair 36 = .ok (.getfield 32, 3) := by decide +kernel
theorem dX3_restingPair_39 : decode cX3_restingPair 39 = .ok (.iconst 2, 1) := by decide +kernel
theorem dX3_restingPair_40 : decode cX3_restingPair 40 = .ok (.iload 5, 2) := by decide +kernel
theorem dX3_restingPair_42 : decode cX3_restingPair 42 = .ok (.imul, 1) := by decide +kernel
theorem dX3_restingPair_43 : decode cX3_restingPair 43 = .ok (.iaload, 1) := by decide +kernel
theorem dX3_restingPair_44 : decode cX3_restingPair 44 = .ok (.aload_n 0, 1) := by decide +kernel
theorem dX3_restingPair_45 : decode cX3_restingPair 45 = .ok (.getfield 32, 3) := by decide +kernel
theorem dX3_restingPair_48 : decode cX3_restingPair 48 = .ok (.iconst 2, 1) := by decide +kernel
theorem dX3_restingPair_49 : decode cX3_restingPair 49 = .ok (.iload 5, 2) := by decide +kernel
theorem dX3_restingPair_51 : decode cX3_restingPair 51 = .ok (.iconst 2, 1) := by decide +kernel
theorem dX3_restingPair_52 : decode cX3_restingPair 52 = .ok (.ixor, 1) := by decide +kernel
theorem dX3_restingPair_53 : decode cX3_restingPair 53 = .ok (.imul, 1) := by decide +kernel
theorem dX3_restingPair_54 : decode cX3_restingPair 54 = .ok (.iaload, 1) := by decide +kernel
theorem dX3_restingPair_55 : decode cX3_restingPair 55 = .ok (.if_icmp .lt 7, 3) := by decide +kernel
theorem dX3_restingPair_58 : decode cX3_restingPair 58 = .ok (.iconst 1, 1) := by decide +kernel
theorem dX3_restingPair_59 : decode cX3_restingPair 59 = .ok (.goto 4, 3) := by decide +kernel
theorem dX3_restingPair_62 : decode cX3_restingPair 62 = .ok (.iconst 0, 1) := by decide +kernel
theorem dX3_restingPair_63 : decode cX3_restingPair 63 = .ok (.istore 6, 2) := by decide +kernel
theorem dX3_restingPair_65 : decode cX3_restingPair 65 = .ok (.aload_n 0, 1) := by decide +kernel
theorem dX3_restingPair_66 : decode cX3_restingPair 66 = .ok (.getfield 32, 3) := by decide +kernel
theorem dX3_restingPair_69 : decode cX3_restingPair 69 = .ok (.iconst 2, 1) := by decide +kernel
theorem dX3_restingPair_70 : decode cX3_restingPair 70 = .ok (.iload 5, 2) := by decide +kernel
theorem dX3_restingPair_72 : decode cX3_restingPair 72 = .ok (.imul, 1) := by decide +kernel
theorem dX3_restingPair_73 : decode cX3_restingPair 73 = .ok (.iconst 1, 1) := by decide +kernel
theorem dX3_restingPair_74 : decode cX3_restingPair 74 = .ok (.iadd, 1) := by decide +kernel
theorem dX3_restingPair_75 : decode cX3_restingPair 75 = .ok (.iaload, 1) := by decide +kernel
theorem dX3_restingPair_76 : decode cX3_restingPair 76 = .ok (.aload_n 0, 1) := by decide +kernel
theorem dX3_restingPair_77 : decode cX3_restingPair 77 = .ok (.getfield 32, 3) := by decide +kernel
theorem dX3_restingPair_80 : decode cX3_restingPair 80 = .ok (.iconst 2, 1) := by decide +kernel
theorem dX3_restingPair_81 : decode cX3_restingPair 81 = .ok (.iload 5, 2) := by decide +kernel
theorem dX3_restingPair_83 : decode cX3_restingPair 83 = .ok (.iconst 1, 1) := by decide +kernel
theorem dX3_restingPair_84 : decode cX3_restingPair 84 = .ok (.ixor, 1) := by decide +kernel
theorem dX3_restingPair_85 : decode cX3_restingPair 85 = .ok (.imul, 1) := by decide +kernel
theorem dX3_restingPair_86 : decode cX3_restingPair 86 = .ok (.iconst 1, 1) := by decide +kernel
theorem dX3_restingPair_87 : decode cX3_restingPair 87 = .ok (.iadd, 1) := by decide +kernel
theorem dX3_restingPair_88 : decode cX3_restingPair 88 = .ok (.iaload, 1) := by decide +kernel
theorem dX3_restingPair_89 : decode cX3_restingPair 89 = .ok (.if_icmp .lt 7, 3) := by decide +kernel
theorem dX3_restingPair_92 : decode cX3_restingPair 92 = .ok (.iconst 1, 1) := by decide +kernel
theorem dX3_restingPair_93 : decode cX3_restingPair 93 = .ok (.goto 4, 3) := by decide +kernel
theorem dX3_restingPair_96 : decode cX3_restingPair 96 = .ok (.iconst 0, 1) := by decide +kernel
theorem dX3_restingPair_97 : decode cX3_restingPair 97 = .ok (.istore 7, 2) := by decide +kernel
theorem dX3_restingPair_99 : decode cX3_restingPair 99 = .ok (.iload 6, 2) := by decide +kernel
theorem dX3_restingPair_101 : decode cX3_restingPair 101 = .ok (.ifCond .eq 21, 3) := by decide +kernel
theorem dX3_restingPair_104 : decode cX3_restingPair 104 = .ok (.iload 7, 2) := by decide +kernel
theorem dX3_restingPair_106 : decode cX3_restingPair 106 = .ok (.ifCond .eq 16, 3) := by decide +kernel
theorem dX3_restingPair_109 : decode cX3_restingPair 109 = .ok (.bipush 10, 2) := by decide +kernel
theorem dX3_restingPair_111 : decode cX3_restingPair 111 = .ok (.iload 5, 2) := by decide +kernel
theorem dX3_restingPair_113 : decode cX3_restingPair 113 = .ok (.iconst 1, 1) := by decide +kernel
theorem dX3_restingPair_114 : decode cX3_restingPair 114 = .ok (.ishr, 1) := by decide +kernel
theorem dX3_restingPair_115 : decode cX3_restingPair 115 = .ok (.imul, 1) := by decide +kernel
theorem dX3_restingPair_116 : decode cX3_restingPair 116 = .ok (.iload 5, 2) := by decide +kernel
theorem dX3_restingPair_118 : decode cX3_restingPair 118 = .ok (.iconst 1, 1) := by decide +kernel
theorem dX3_restingPair_119 : decode cX3_restingPair 119 = .ok (.iand, 1) := by decide +kernel
theorem dX3_restingPair_120 : decode cX3_restingPair 120 = .ok (.iadd, 1) := by decide +kernel
theorem dX3_restingPair_121 : decode cX3_restingPair 121 = .ok (.ireturn, 1) := by decide +kernel
theorem dX3_restingPair_122 : decode cX3_restingPair 122 = .ok (.iinc 5 1, 3) := by decide +kernel
theorem dX3_restingPair_125 : decode cX3_restingPair 125 = .ok (.goto (-96), 3) := by decide +kernel
theorem dX3_restingPair_128 : decode cX3_restingPair 128 = .ok (.bipush (-9), 2) := by decide +kernel
theorem dX3_restingPair_130 : decode cX3_restingPair 130 = .ok (.ireturn, 1) := by decide +kernel
theorem dX3_weigh_0 : decode cX3_weigh 0 = .ok (.aload_n 0, 1) := by decide +kernel
theorem dX3_weigh_1 : decode cX3_weigh 1 = .ok (.getfield 12, 3) := by decide +kernel
theorem dX3_weigh_4 : decode cX3_weigh 4 = .ok (.aload_n 1, 1) := by decide +kernel
theorem dX3_weigh_5 : decode cX3_weigh 5 = .ok (.invokevirtual 35, 3) := by decide +kernel
theorem dX3_weigh_8 : decode cX3_weigh 8 = .ok (.iload 5, 2) := by decide +kernel
theorem dX3_weigh_10 : decode cX3_weigh 10 = .ok (.iconst 2, 1) := by decide +kernel
theorem dX3_weigh_11 : decode cX3_weigh 11 = .ok (.iand, 1) := by decide +kernel
theorem dX3_weigh_12 : decode cX3_weigh 12 = .ok (.ifCond .eq 14, 3) := by decide +kernel
theorem dX3_weigh_15 : decode cX3_weigh 15 = .ok (.aload_n 0, 1) := by decide +kernel
theorem dX3_weigh_16 : decode cX3_weigh 16 = .ok (.getfield 12, 3) := by decide +kernel
theorem dX3_weigh_19 : decode cX3_weigh 19 = .ok (.getfield 78, 3) := by decide +kernel
theorem dX3_weigh_22 : decode cX3_weigh 22 = .ok (.iload_n 2, 1) := by decide +kernel
theorem dX3_weigh_23 : decode cX3_weigh 23 = .ok (.bipush (-9), 2) := by decide +kernel
theorem dX3_weigh_25 : decode cX3_weigh 25 = .ok (.iastore, 1) := by decide +kernel
theorem dX3_weigh_26 : decode cX3_weigh 26 = .ok (.iload 5, 2) := by decide +kernel
theorem dX3_weigh_28 : decode cX3_weigh 28 = .ok (.iconst 1, 1) := by decide +kernel
theorem dX3_weigh_29 : decode cX3_weigh 29 = .ok (.iand, 1) := by decide +kernel
theorem dX3_weigh_30 : decode cX3_weigh 30 = .ok (.ifCond .eq 14, 3) := by decide +kernel
theorem dX3_weigh_33 : decode cX3_weigh 33 = .ok (.aload_n 0, 1) := by decide +kernel
theorem dX3_weigh_34 : decode cX3_weigh 34 = .ok (.getfield 12, 3) := by decide +kernel
theorem dX3_weigh_37 : decode cX3_weigh 37 = .ok (.getfield 78, 3) := by decide +kernel
theorem dX3_weigh_40 : decode cX3_weigh 40 = .ok (.iload_n 3, 1) := by decide +kernel
theorem dX3_weigh_41 : decode cX3_weigh 41 = .ok (.bipush (-9), 2) := by decide +kernel
theorem dX3_weigh_43 : decode cX3_weigh 43 = .ok (.iastore, 1) := by decide +kernel
theorem dX3_weigh_44 : decode cX3_weigh 44 = .ok (.iconst 0, 1) := by decide +kernel
theorem dX3_weigh_45 : decode cX3_weigh 45 = .ok (.istore 6, 2) := by decide +kernel
theorem dX3_weigh_47 : decode cX3_weigh 47 = .ok (.iconst 0, 1) := by decide +kernel
theorem dX3_weigh_48 : decode cX3_weigh 48 = .ok (.istore 7, 2) := by decide +kernel
theorem dX3_weigh_50 : decode cX3_weigh 50 = .ok (.iconst 0, 1) := by decide +kernel
theorem dX3_weigh_51 : decode cX3_weigh 51 = .ok (.istore 8, 2) := by decide +kernel
theorem dX3_weigh_53 : decode cX3_weigh 53 = .ok (.iload 8, 2) := by decide +kernel
theorem dX3_weigh_55 : decode cX3_weigh 55 = .ok (.iload 4, 2) := by decide +kernel
theorem dX3_weigh_57 : decode cX3_weigh 57 = .ok (.if_icmp .ge 44, 3) := by decide +kernel
theorem dX3_weigh_60 : decode cX3_weigh 60 = .ok (.aload_n 0, 1) := by decide +kernel
theorem dX3_weigh_61 : decode cX3_weigh 61 = .ok (.getfield 12, 3) := by decide +kernel
theorem dX3_weigh_64 : decode cX3_weigh 64 = .ok (.invokevirtual 49, 3) := by decide +kernel
theorem dX3_weigh_67 : decode cX3_weigh 67 = .ok (.iload 6, 2) := by decide +kernel
theorem dX3_weigh_69 : decode cX3_weigh 69 = .ok (.aload_n 0, 1) := by decide +kernel
theorem dX3_weigh_70 : decode cX3_weigh 70 = .ok (.getfield 12, 3) := by decide +kernel
theorem dX3_weigh_73 : decode cX3_weigh 73 = .ok (.getfield 96, 3) := by decide +kernel
theorem dX3_weigh_76 : decode cX3_weigh 76 = .ok (.iload_n 2, 1) := by decide +kernel
theorem dX3_weigh_77 : decode cX3_weigh 77 = .ok (.iaload, 1) := by decide +kernel
theorem dX3_weigh_78 : decode cX3_weigh 78 = .ok (.iadd, 1) := by decide +kernel
theorem dX3_weigh_79 : decode cX3_weigh 79 = .ok (.istore 6, 2) := by decide +kernel
theorem dX3_weigh_81 : decode cX3_weigh 81 = .ok (.iload 7, 2) := by decide +kernel
theorem dX3_weigh_83 : decode cX3_weigh 83 = .ok (.aload_n 0, 1) := by decide +kernel
theorem dX3_weigh_84 : decode cX3_weigh 84 = .ok (.getfield 12, 3) := by decide +kernel
theorem dX3_weigh_87 : decode cX3_weigh 87 = .ok (.getfield 96, 3) := by decide +kernel
theorem dX3_weigh_90 : decode cX3_weigh 90 = .ok (.iload_n 3, 1) := by decide +kernel
theorem dX3_weigh_91 : decode cX3_weigh 91 = .ok (.iaload, 1) := by decide +kernel
theorem dX3_weigh_92 : decode cX3_weigh 92 = .ok (.iadd, 1) := by decide +kernel
theorem dX3_weigh_93 : decode cX3_weigh 93 = .ok (.istore 7, 2) := by decide +kernel
theorem dX3_weigh_95 : decode cX3_weigh 95 = .ok (.iinc 8 1, 3) := by decide +kernel
theorem dX3_weigh_98 : decode cX3_weigh 98 = .ok (.goto (-45), 3) := by decide +kernel
theorem dX3_weigh_101 : decode cX3_weigh 101 = .ok (.aload_n 0, 1) := by decide +kernel
theorem dX3_weigh_102 : decode cX3_weigh 102 = .ok (.getfield 32, 3) := by decide +kernel
theorem dX3_weigh_105 : decode cX3_weigh 105 = .ok (.iconst 2, 1) := by decide +kernel
theorem dX3_weigh_106 : decode cX3_weigh 106 = .ok (.iload 5, 2) := by decide +kernel
theorem dX3_weigh_108 : decode cX3_weigh 108 = .ok (.imul, 1) := by decide +kernel
theorem dX3_weigh_109 : decode cX3_weigh 109 = .ok (.iload 6, 2) := by decide +kernel
theorem dX3_weigh_111 : decode cX3_weigh 111 = .ok (.aload_n 0, 1) := by decide +kernel
theorem dX3_weigh_112 : decode cX3_weigh 112 = .ok (.getfield 12, 3) := by decide +kernel
theorem dX3_weigh_115 : decode cX3_weigh 115 = .ok (.getfield 99, 3) := by decide +kernel
theorem dX3_weigh_118 : decode cX3_weigh 118 = .ok (.iload_n 2, 1) := by decide +kernel
theorem dX3_weigh_119 : decode cX3_weigh 119 = .ok (.iaload, 1) := by decide +kernel
theorem dX3_weigh_120 : decode cX3_weigh 120 = .ok (.isub, 1) := by decide +kernel
theorem dX3_weigh_121 : decode cX3_weigh 121 = .ok (.iastore, 1) := by decide +kernel
theorem dX3_weigh_122 : decode cX3_weigh 122 = .ok (.aload_n 0, 1) := by decide +kernel
theorem dX3_weigh_123 : decode cX3_weigh 123 = .ok (.getfield 32, 3) := by decide +kernel
theorem dX3_weigh_126 : decode cX3_weigh 126 = .ok (.iconst 2, 1) := by decide +kernel
theorem dX3_weigh_127 : decode cX3_weigh 127 = .ok (.iload 5, 2) := by decide +kernel
theorem dX3_weigh_129 : decode cX3_weigh 129 = .ok (.imul, 1) := by decide +kernel
theorem dX3_weigh_130 : decode cX3_weigh 130 = .ok (.iconst 1, 1) := by decide +kernel
theorem dX3_weigh_131 : decode cX3_weigh 131 = .ok (.iadd, 1) := by decide +kernel
theorem dX3_weigh_132 : decode cX3_weigh 132 = .ok (.iload 7, 2) := by decide +kernel
theorem dX3_weigh_134 : decode cX3_weigh 134 = .ok (.aload_n 0, 1) := by decide +kernel
theorem dX3_weigh_135 : decode cX3_weigh 135 = .ok (.getfield 12, 3) := by decide +kernel
theorem dX3_weigh_138 : decode cX3_weigh 138 = .ok (.getfield 99, 3) := by decide +kernel
theorem dX3_weigh_141 : decode cX3_weigh 141 = .ok (.iload_n 3, 1) := by decide +kernel
theorem dX3_weigh_142 : decode cX3_weigh 142 = .ok (.iaload, 1) := by decide +kernel
theorem dX3_weigh_143 : decode cX3_weigh 143 = .ok (.isub, 1) := by decide +kernel
theorem dX3_weigh_144 : decode cX3_weigh 144 = .ok (.iastore, 1) := by decide +kernel
theorem dX3_weigh_145 : decode cX3_weigh 145 = .ok (.return_, 1) := by decide +kernel
theorem dX3_waysThroughFrost_0 : decode cX3_waysThroughFrost 0 = .ok (.aload_n 0, 1) := by decide +kernel
theorem dX3_waysThroughFrost_1 : decode cX3_waysThroughFrost 1 = .ok (.getfield 12, 3) := by decide +kernel
theorem dX3_waysThroughFrost_4 : decode cX3_waysThroughFrost 4 = .ok (.aload_n 1, 1) := by decide +kernel
theorem dX3_waysThroughFrost_5 : decode cX3_waysThroughFrost 5 = .ok (.invokevirtual 35, 3) := by decide +kernel
theorem dX3_waysThroughFrost_8 : decode cX3_waysThroughFrost 8 = .ok (.iload_n 2, 1) := by decide +kernel
theorem dX3_waysThroughFrost_9 : decode cX3_waysThroughFrost 9 = .ok (.aload_n 0, 1) := by decide +kernel
theorem dX3_waysThroughFrost_10 : decode cX3_waysThroughFrost 10 = .ok (.getfield 28, 3) := by decide +kernel
theorem dX3_waysThroughFrost_13 : decode cX3_waysThroughFrost 13 = .ok (.arraylength, 1) := by decide +kernel
theorem dX3_waysThroughFrost_14 : decode cX3_waysThroughFrost 14 = .ok (.invokestatic 102, 3) := by decide +kernel
theorem dX3_waysThroughFrost_17 : decode cX3_waysThroughFrost 17 = .ok (.istore 5, 2) := by decide +kernel
theorem dX3_waysThroughFrost_19 : decode cX3_waysThroughFrost 19 = .ok (.iconst 0, 1) := by decide +kernel
theorem dX3_waysThroughFrost_20 : decode cX3_waysThroughFrost 20 = .ok (.istore 6, 2) := by decide +kernel
theorem dX3_waysThroughFrost_22 : decode cX3_waysThroughFrost 22 = .ok (.iload 6, 2) := by decide +kernel
theorem dX3_waysThroughFrost_24 : decode cX3_waysThroughFrost 24 = .ok (.iload 5, 2) := by decide +kernel
theorem dX3_waysThroughFrost_26 : decode cX3_waysThroughFrost 26 = .ok (.if_icmp .ge 30, 3) := by decide +kernel
theorem dX3_waysThroughFrost_29 : decode cX3_waysThroughFrost 29 = .ok (.aload_n 0, 1) := by decide +kernel
theorem dX3_waysThroughFrost_30 : decode cX3_waysThroughFrost 30 = .ok (.getfield 12, 3) := by decide +kernel
theorem dX3_waysThroughFrost_33 : decode cX3_waysThroughFrost 33 = .ok (.invokevirtual 49, 3) := by decide +kernel
theorem dX3_waysThroughFrost_36 : decode cX3_waysThroughFrost 36 = .ok (.aload_n 0, 1) := by decide +kernel
theorem dX3_waysThroughFrost_37 : decode cX3_waysThroughFrost 37 = .ok (.getfield 28, 3) := by decide +kernel
theorem dX3_waysThroughFrost_40 : decode cX3_waysThroughFrost 40 = .ok (.iload 6, 2) := by decide +kernel
theorem dX3_waysThroughFrost_42 : decode cX3_waysThroughFrost 42 = .ok (.aload_n 0, 1) := by decide +kernel
theorem dX3_waysThroughFrost_43 : decode cX3_waysThroughFrost 43 = .ok (.getfield 12, 3) := by decide +kernel
theorem dX3_waysThroughFrost_46 : decode cX3_waysThroughFrost 46 = .ok (.getfield 108, 3) := by decide +kernel
theorem dX3_waysThroughFrost_49 : decode cX3_waysThroughFrost 49 = .ok (.iastore, 1) := by decide +kernel
theorem dX3_waysThroughFrost_50 : decode cX3_waysThroughFrost 50 = .ok (.iinc 6 1, 3) := by decide +kernel
theorem dX3_waysThroughFrost_53 : decode cX3_waysThroughFrost 53 = .ok (.goto (-31), 3) := by decide +kernel
theorem dX3_waysThroughFrost_56 : decode cX3_waysThroughFrost 56 = .ok (.lconst 0, 1) := by decide +kernel
theorem dX3_waysThroughFrost_57 : decode cX3_waysThroughFrost 57 = .ok (.lstore 6, 2) := by decide +kernel
theorem dX3_waysThroughFrost_59 : decode cX3_waysThroughFrost 59 = .ok (.iconst 0, 1) := by decide +kernel
theorem dX3_waysThroughFrost_60 : decode cX3_waysThroughFrost 60 = .ok (.istore 8, 2) := by decide +kernel
theorem dX3_waysThroughFrost_62 : decode cX3_waysThroughFrost 62 = .ok (.iload 8, 2) := by decide +kernel
theorem dX3_waysThroughFrost_64 : decode cX3_waysThroughFrost 64 = .ok (.iconst 1, 1) := by decide +kernel
theorem dX3_waysThroughFrost_65 : decode cX3_waysThroughFrost 65 = .ok (.iload 5, 2) := by decide +kernel
theorem dX3_waysThroughFrost_67 : decode cX3_waysThroughFrost 67 = .ok (.ishl, 1) := by decide +kernel
theorem dX3_waysThroughFrost_68 : decode cX3_waysThroughFrost 68 = .ok (.if_icmp .ge 80, 3) := by decide +kernel
theorem dX3_waysThroughFrost_71 : decode cX3_waysThroughFrost 71 = .ok (.iconst 0, 1) := by decide +kernel
theorem dX3_waysThroughFrost_72 : decode cX3_waysThroughFrost 72 = .ok (.istore 9, 2) := by decide +kernel
theorem dX3_waysThroughFrost_74 : decode cX3_waysThroughFrost 74 = .ok (.lconst 1, 1) := by decide +kernel
theorem dX3_waysThroughFrost_75 : decode cX3_waysThroughFrost 75 = .ok (.lstore 10, 2) := by decide +kernel
theorem dX3_waysThroughFrost_77 : decode cX3_waysThroughFrost 77 = .ok (.iconst 0, 1) := by decide +kernel
theorem dX3_waysThroughFrost_78 : decode cX3_waysThroughFrost 78 = .ok (.istore 12, 2) := by decide +kernel
theorem dX3_waysThroughFrost_80 : decode cX3_waysThroughFrost 80 = .ok (.iload 12, 2) := by decide +kernel
theorem dX3_waysThroughFrost_82 : decode cX3_waysThroughFrost 82 = .ok (.iload 5, 2) := by decide +kernel
theorem dX3_waysThroughFrost_84 : decode cX3_waysThroughFrost 84 = .ok (.if_icmp .ge 40, 3) := by decide +kernel
theorem dX3_waysThroughFrost_87 : decode cX3_waysThroughFrost 87 = .ok (.iload 8, 2) := by decide +kernel
theorem dX3_waysThroughFrost_89 : decode cX3_waysThroughFrost 89 = .ok (.iconst 1, 1) := by decide +kernel
theorem dX3_waysThroughFrost_90 : decode cX3_waysThroughFrost 90 = .ok (.iload 12, 2) := by decide +kernel
theorem dX3_waysThroughFrost_92 : decode cX3_waysThroughFrost 92 = .ok (.ishl, 1) := by decide +kernel
theorem dX3_waysThroughFrost_93 : decode cX3_waysThroughFrost 93 = .ok (.iand, 1) := by decide +kernel
theorem dX3_waysThroughFrost_94 : decode cX3_waysThroughFrost 94 = .ok (.ifCond .eq 24, 3) := by decide +kernel
theorem dX3_waysThroughFrost_97 : decode cX3_waysThroughFrost 97 = .ok (.iload 9, 2) := by decide +kernel
theorem dX3_waysThroughFrost_99 : decode cX3_waysThroughFrost 99 = .ok (.aload_n 0, 1) := by decide +kernel
theorem dX3_waysThroughFrost_100 : decode cX3_waysThroughFrost 100 = .ok (.getfield 28, 3) := by decide +kernel
theorem dX3_waysThroughFrost_103 : decode cX3_waysThroughFrost 103 = .ok (.iload 12, 2) := by decide +kernel
theorem dX3_waysThroughFrost_105 : decode cX3_waysThroughFrost 105 = .ok (.iaload, 1) := by decide +kernel
theorem dX3_waysThroughFrost_106 : decode cX3_waysThroughFrost 106 = .ok (.iadd, 1) := by decide +kernel
theorem dX3_waysThroughFrost_107 : decode cX3_waysThroughFrost 107 = .ok (.istore 9, 2) := by decide +kernel
theorem dX3_waysThroughFrost_109 : decode cX3_waysThroughFrost 109 = .ok (.lload 10, 2) := by decide +kernel
theorem dX3_waysThroughFrost_111 : decode cX3_waysThroughFrost 111 = .ok (.iload_n 3, 1) := by decide +kernel
theorem dX3_waysThroughFrost_112 : decode cX3_waysThroughFrost 112 = .ok (.iconst 1, 1) := by decide +kernel
theorem dX3_waysThroughFrost_113 : decode cX3_waysThroughFrost 113 = .ok (.isub, 1) := by decide +kernel
theorem dX3_waysThroughFrost_114 : decode cX3_waysThroughFrost 114 = .ok (.i2l, 1) := by decide +kernel
theorem dX3_waysThroughFrost_115 : decode cX3_waysThroughFrost 115 = .ok (.lmul, 1) := by decide +kernel
theorem dX3_waysThroughFrost_116 : decode cX3_waysThroughFrost 116 = .ok (.lstore 10, 2) := by decide +kernel
theorem dX3_waysThroughFrost_118 : decode cX3_waysThroughFrost 118 = .ok (.iinc 12 1, 3) := by decide +kernel
theorem dX3_waysThroughFrost_121 : decode cX3_waysThroughFrost 121 = .ok (.goto (-41), 3) := by decide +kernel
theorem dX3_waysThroughFrost_124 : decode cX3_waysThroughFrost 124 = .ok (.lload 6, 2) := by decide +kernel
theorem dX3_waysThroughFrost_126 : decode cX3_waysThroughFrost 126 = .ok (.iload 9, 2) := by decide +kernel
theorem dX3_waysThroughFrost_128 : decode cX3_waysThroughFrost 128 = .ok (.iload 4, 2) := by decide +kernel
theorem dX3_waysThroughFrost_130 : decode cX3_waysThroughFrost 130 = .ok (.if_icmp .lt 8, 3) := by decide +kernel
theorem dX3_waysThroughFrost_133 : decode cX3_waysThroughFrost 133 = .ok (.lload 10, 2) := by decide +kernel
theorem dX3_waysThroughFrost_135 : decode cX3_waysThroughFrost 135 = .ok (.goto 4, 3) := by decide +kernel
theorem dX3_waysThroughFrost_138 : decode cX3_waysThroughFrost 138 = .ok (.lconst 0, 1) := by decide +kernel
theorem dX3_waysThroughFrost_139 : decode cX3_waysThroughFrost 139 = .ok (.ladd, 1) := by decide +kernel
theorem dX3_waysThroughFrost_140 : decode cX3_waysThroughFrost 140 = .ok (.lstore 6, 2) := by decide +kernel
theorem dX3_waysThroughFrost_142 : decode cX3_waysThroughFrost 142 = .ok (.iinc 8 1, 3) := by decide +kernel
theorem dX3_waysThroughFrost_145 : decode cX3_waysThroughFrost 145 = .ok (.goto (-83), 3) := by decide +kernel
theorem dX3_waysThroughFrost_148 : decode cX3_waysThroughFrost 148 = .ok (.lload 6, 2) := by decide +kernel
theorem dX3_waysThroughFrost_150 : decode cX3_waysThroughFrost 150 = .ok (.lreturn, 1) := by decide +kernel
theorem dX3_sumOfHundreds_0 : decode cX3_sumOfHundreds 0 = .ok (.aload_n 0, 1) := by decide +kernel
theorem dX3_sumOfHundreds_1 : decode cX3_sumOfHundreds 1 = .ok (.iload_n 3, 1) := by decide +kernel
theorem dX3_sumOfHundreds_2 : decode cX3_sumOfHundreds 2 = .ok (.putfield 111, 3) := by decide +kernel
theorem dX3_sumOfHundreds_5 : decode cX3_sumOfHundreds 5 = .ok (.iconst 0, 1) := by decide +kernel
theorem dX3_sumOfHundreds_6 : decode cX3_sumOfHundreds 6 = .ok (.istore 5, 2) := by decide +kernel
theorem dX3_sumOfHundreds_8 : decode cX3_sumOfHundreds 8 = .ok (.iconst 0, 1) := by decide +kernel
theorem dX3_sumOfHundreds_9 : decode cX3_sumOfHundreds 9 = .ok (.istore 6, 2) := by decide +kernel
theorem dX3_sumOfHundreds_11 : decode cX3_sumOfHundreds 11 = .ok (.iload 6, 2) := by decide +kernel
theorem dX3_sumOfHundreds_13 : decode cX3_sumOfHundreds 13 = .ok (.iload_n 2, 1) := by decide +kernel
theorem dX3_sumOfHundreds_14 : decode cX3_sumOfHundreds 14 = .ok (.if_icmp .ge 89, 3) := by decide +kernel
theorem dX3_sumOfHundreds_17 : decode cX3_sumOfHundreds 17 = .ok (.aload_n 0, 1) := by decide +kernel
theorem dX3_sumOfHundreds_18 : decode cX3_sumOfHundreds 18 = .ok (.getfield 12, 3) := by decide +kernel
theorem dX3_sumOfHundreds_21 : decode cX3_sumOfHundreds 21 = .ok (.aload_n 1, 1) := by decide +kernel
theorem dX3_sumOfHundreds_22 : decode cX3_sumOfHundreds 22 = .ok (.invokevirtual 35, 3) := by decide +kernel
theorem dX3_sumOfHundreds_25 : decode cX3_sumOfHundreds 25 = .ok (.iconst 0, 1) := by decide +kernel
theorem dX3_sumOfHundreds_26 : decode cX3_sumOfHundreds 26 = .ok (.istore 7, 2) := by decide +kernel
theorem dX3_sumOfHundreds_28 : decode cX3_sumOfHundreds 28 = .ok (.iload 7, 2) := by decide +kernel
theorem dX3_sumOfHundreds_30 : decode cX3_sumOfHundreds 30 = .ok (.iconst 3, 1) := by decide +kernel
theorem dX3_sumOfHundreds_31 : decode cX3_sumOfHundreds 31 = .ok (.aload_n 0, 1) := by decide +kernel
theorem dX3_sumOfHundreds_32 : decode cX3_sumOfHundreds 32 = .ok (.getfield 12, 3) := by decide +kernel
theorem dX3_sumOfHundreds_35 : decode cX3_sumOfHundreds 35 = .ok (.getfield 114, 3) := by decide +kernel
theorem dX3_sumOfHundreds_38 : decode cX3_sumOfHundreds 38 = .ok (.imul, 1) := by decide +kernel
theorem dX3_sumOfHundreds_39 : decode cX3_sumOfHundreds 39 = .ok (.if_icmp .ge 25, 3) := by decide +kernel
theorem dX3_sumOfHundreds_42 : decode cX3_sumOfHundreds 42 = .ok (.aload_n 0, 1) := by decide +kernel
theorem dX3_sumOfHundreds_43 : decode cX3_sumOfHundreds 43 = .ok (.getfield 12, 3) := by decide +kernel
theorem dX3_sumOfHundreds_46 : decode cX3_sumOfHundreds 46 = .ok (.getfield 117, 3) := by decide +kernel
theorem dX3_sumOfHundreds_49 : decode cX3_sumOfHundreds 49 = .ok (.iload 7, 2) := by decide +kernel
theorem dX3_sumOfHundreds_51 : decode cX3_sumOfHundreds 51 = .ok (.aload_n 0, 1) := by decide +kernel
theorem dX3_sumOfHundreds_52 : decode cX3_sumOfHundreds 52 = .ok (.bipush 31, 2) := by decide +kernel
theorem dX3_sumOfHundreds_54 : decode cX3_sumOfHundreds 54 = .ok (.invokevirtual 120, 3) := by decide +kernel
theorem dX3_sumOfHundreds_57 : decode cX3_sumOfHundreds 57 = .ok (.iastore, 1) := by decide +kernel
theorem dX3_sumOfHundreds_58 : decode cX3_sumOfHundreds 58 = .ok (.iinc 7 1, 3) := by decide +kernel
theorem dX3_sumOfHundreds_61 : decode cX3_sumOfHundreds 61 = .ok (.goto (-33), 3) := by decide +kernel
theorem dX3_sumOfHundreds_64 : decode cX3_sumOfHundreds 64 = .ok (.aload_n 0, 1) := by decide +kernel
theorem dX3_sumOfHundreds_65 : decode cX3_sumOfHundreds 65 = .ok (.getfield 12, 3) := by decide +kernel
theorem dX3_sumOfHundreds_68 : decode cX3_sumOfHundreds 68 = .ok (.bipush 10, 2) := by decide +kernel
theorem dX3_sumOfHundreds_70 : decode cX3_sumOfHundreds 70 = .ok (.invokevirtual 39, 3) := by decide +kernel
theorem dX3_sumOfHundreds_73 : decode cX3_sumOfHundreds 73 = .ok (.istore 7, 2) := by decide +kernel
theorem dX3_sumOfHundreds_75 : decode cX3_sumOfHundreds 75 = .ok (.iload 5, 2) := by decide +kernel
theorem dX3_sumOfHundreds_77 : decode cX3_sumOfHundreds 77 = .ok (.iload 4, 2) := by decide +kernel
theorem dX3_sumOfHundreds_79 : decode cX3_sumOfHundreds 79 = .ok (.ifCond .eq 8, 3) := by decide +kernel
theorem dX3_sumOfHundreds_82 : decode cX3_sumOfHundreds 82 = .ok (.iload 7, 2) := by decide +kernel
theorem dX3_sumOfHundreds_84 : decode cX3_sumOfHundreds 84 = .ok (.goto 10, 3) := by decide +kernel
theorem dX3_sumOfHundreds_87 : decode cX3_sumOfHundreds 87 = .ok (.aload_n 0, 1) := by decide +kernel
theorem dX3_sumOfHundreds_88 : decode cX3_sumOfHundreds 88 = .ok (.getfield 12, 3) := by decide +kernel
theorem dX3_sumOfHundreds_91 : decode cX3_sumOfHundreds 91 = .ok (.invokevirtual 123, 3) := by decide +kernel
theorem dX3_sumOfHundreds_94 : decode cX3_sumOfHundreds 94 = .ok (.iadd, 1) := by decide +kernel
theorem dX3_sumOfHundreds_95 : decode cX3_sumOfHundreds 95 = .ok (.istore 5, 2) := by decide +kernel
theorem dX3_sumOfHundreds_97 : decode cX3_sumOfHundreds 97 = .ok (.iinc 6 1, 3) := by decide +kernel
theorem dX3_sumOfHundreds_100 : decode cX3_sumOfHundreds 100 = .ok (.goto (-89), 3) := by decide +kernel
theorem dX3_sumOfHundreds_103 : decode cX3_sumOfHundreds 103 = .ok (.iload 5, 2) := by decide +kernel
theorem dX3_sumOfHundreds_105 : decode cX3_sumOfHundreds 105 = .ok (.ireturn, 1) := by decide +kernel
theorem dX3_draw_0 : decode cX3_draw 0 = .ok (.aload_n 0, 1) := by decide +kernel
theorem dX3_draw_1 : decode cX3_draw 1 = .ok (.aload_n 0, 1) := by decide +kernel
theorem dX3_draw_2 : decode cX3_draw 2 = .ok (.getfield 111, 3) := by decide +kernel
theorem dX3_draw_5 : decode cX3_draw 5 = .ok (.ldc 126, 2) := by decide +kernel
theorem dX3_draw_7 : decode cX3_draw 7 = .ok (.imul, 1) := by decide +kernel
theorem dX3_draw_8 : decode cX3_draw 8 = .ok (.ldc 127, 2) := by decide +kernel
theorem dX3_draw_10 : decode cX3_draw 10 = .ok (.iadd, 1) := by decide +kernel
theorem dX3_draw_11 : decode cX3_draw 11 = .ok (.putfield 111, 3) := by decide +kernel
theorem dX3_draw_14 : decode cX3_draw 14 = .ok (.aload_n 0, 1) := by decide +kernel
theorem dX3_draw_15 : decode cX3_draw 15 = .ok (.getfield 111, 3) := by decide +kernel
theorem dX3_draw_18 : decode cX3_draw 18 = .ok (.ldc 128, 2) := by decide +kernel
theorem dX3_draw_20 : decode cX3_draw 20 = .ok (.iand, 1) := by decide +kernel
theorem dX3_draw_21 : decode cX3_draw 21 = .ok (.sipush 256, 3) := by decide +kernel
theorem dX3_draw_24 : decode cX3_draw 24 = .ok (.idiv, 1) := by decide +kernel
theorem dX3_draw_25 : decode cX3_draw 25 = .ok (.istore_n 2, 1) := by decide +kernel
theorem dX3_draw_26 : decode cX3_draw 26 = .ok (.iload_n 1, 1) := by decide +kernel
theorem dX3_draw_27 : decode cX3_draw 27 = .ok (.ifCond .le 9, 3) := by decide +kernel
theorem dX3_draw_30 : decode cX3_draw 30 = .ok (.iload_n 2, 1) := by decide +kernel
theorem dX3_draw_31 : decode cX3_draw 31 = .ok (.iload_n 1, 1) := by decide +kernel
theorem dX3_draw_32 : decode cX3_draw 32 = .ok (.irem, 1) := by decide +kernel
theorem dX3_draw_33 : decode cX3_draw 33 = .ok (.goto 4, 3) := by decide +kernel
theorem dX3_draw_36 : decode cX3_draw 36 = .ok (.iconst 0, 1) := by decide +kernel
theorem dX3_draw_37 : decode cX3_draw 37 = .ok (.ireturn, 1) := by decide +kernel
theorem dX4_init_0 : decode cX4_init 0 = .ok (.aload_n 0, 1) := by decide +kernel
theorem dX4_init_1 : decode cX4_init 1 = .ok (.invokespecial 3, 3) := by decide +kernel
theorem dX4_init_4 : decode cX4_init 4 = .ok (.aload_n 0, 1) := by decide +kernel
theorem dX4_init_5 : decode cX4_init 5 = .ok (.sipush 448, 3) := by decide +kernel
theorem dX4_init_8 : decode cX4_init 8 = .ok (.newarray .int, 2) := by decide +kernel
theorem dX4_init_10 : decode cX4_init 10 = .ok (.putfield 11, 3) := by decide +kernel
theorem dX4_init_13 : decode cX4_init 13 = .ok (.return_, 1) := by decide +kernel
theorem dX4_plan_0 : decode cX4_plan 0 = .ok (.iconst 1, 1) := by decide +kernel
theorem dX4_plan_1 : decode cX4_plan 1 = .ok (.aload_n 1, 1) := by decide +kernel
theorem dX4_plan_2 : decode cX4_plan 2 = .ok (.getfield 15, 3) := by decide +kernel
theorem dX4_plan_5 : decode cX4_plan 5 = .ok (.ishl, 1) := by decide +kernel
theorem dX4_plan_6 : decode cX4_plan 6 = .ok (.istore_n 2, 1) := by decide +kernel
theorem dX4_plan_7 : decode cX4_plan 7 = .ok (.iconst 0, 1) := by decide +kernel
theorem dX4_plan_8 : decode cX4_plan 8 = .ok (.istore_n 3, 1) := by decide +kernel
theorem dX4_plan_9 : decode cX4_plan 9 = .ok (.iload_n 3, 1) := by decide +kernel
theorem dX4_plan_10 : decode cX4_plan 10 = .ok (.iload_n 2, 1) := by decide +kernel
theorem dX4_plan_11 : decode cX4_plan 11 = .ok (.if_icmp .ge 24, 3) := by decide +kernel
theorem dX4_plan_14 : decode cX4_plan 14 = .ok (.aload_n 0, 1) := by decide +kernel
theorem dX4_plan_15 : decode cX4_plan 15 = .ok (.getfield 11, 3) := by decide +kernel
theorem dX4_plan_18 : decode cX4_plan 18 = .ok (.bipush 64, 2) := by decide +kernel
theorem dX4_plan_20 : decode cX4_plan 20 = .ok (.aload_n 1, 1) := by decide +kernel
theorem dX4_plan_21 : decode cX4_plan 21 = .ok (.getfield 21, 3) := by decide +kernel
theorem dX4_plan_24 : decode cX4_plan 24 = .ok (.imul, 1) := by decide +kernel
theorem dX4_plan_25 : decode cX4_plan 25 = .ok (.iload_n 3, 1) := by decide +kernel
theorem dX4_plan_26 : decode cX4_plan 26 = .ok (.iadd, 1) := by decide +kernel
theorem dX4_plan_27 : decode cX4_plan 27 = .ok (.iconst 0, 1) := by decide +kernel
theorem dX4_plan_28 : decode cX4_plan 28 = .ok (.iastore, 1) := by decide +kernel
theorem dX4_plan_29 : decode cX4_plan 29 = .ok (.iinc 3 1, 3) := by decide +kernel
theorem dX4_plan_32 : decode cX4_plan 32 = .ok (.goto (-23), 3) := by decide +kernel
theorem dX4_plan_35 : decode cX4_plan 35 = .ok (.aload_n 1, 1) := by decide +kernel
theorem dX4_plan_36 : decode cX4_plan 36 = .ok (.getfield 21, 3) := by decide +kernel
theorem dX4_plan_39 : decode cX4_plan 39 = .ok (.iconst 1, 1) := by decide +kernel
theorem dX4_plan_40 : decode cX4_plan 40 = .ok (.isub, 1) := by decide +kernel
theorem dX4_plan_41 : decode cX4_plan 41 = .ok (.istore_n 3, 1) := by decide +kernel
theorem dX4_plan_42 : decode cX4_plan 42 = .ok (.iload_n 3, 1) := by decide +kernel
theorem dX4_plan_43 : decode cX4_plan 43 = .ok (.ifCond .lt 76, 3) := by decide +kernel
theorem dX4_plan_46 : decode cX4_plan 46 = .ok (.iconst 0, 1) := by decide +kernel
theorem dX4_plan_47 : decode cX4_plan 47 = .ok (.istore 4, 2) := by decide +kernel
theorem dX4_plan_49 : decode cX4_plan 49 = .ok (.iload 4, 2) := by decide +kernel
theorem dX4_plan_51 : decode cX4_plan 51 = .ok (.iload_n 2, 1) := by decide +kernel
theorem dX4_plan_52 : decode cX4_plan 52 = .ok (.if_icmp .ge 28, 3) := by decide +kernel
theorem dX4_plan_55 : decode cX4_plan 55 = .ok (.aload_n 0, 1) := by decide +kernel
theorem dX4_plan_56 : decode cX4_plan 56 = .ok (.getfield 11, 3) := by decide +kernel
theorem dX4_plan_59 : decode cX4_plan 59 = .ok (.bipush 64, 2) := by decide +kernel
theorem dX4_plan_61 : decode cX4_plan 61 = .ok (.iload_n 3, 1) := by decide +kernel
theorem dX4_plan_62 : decode cX4_plan 62 = .ok (.imul, 1) := by decide +kernel
theorem dX4_plan_63 : decode cX4_plan 63 = .ok (.iload 4, 2) := by decide +kernel
theorem dX4_plan_65 : decode cX4_plan 65 = .ok (.iadd, 1) := by decide +kernel
theorem dX4_plan_66 : decode cX4_plan 66 = .ok (.aload_n 0, 1) := by decide +kernel
theorem dX4_plan_67 : decode cX4_plan 67 = .ok (.iload_n 3, 1) := by decide +kernel
theorem dX4_plan_68 : decode cX4_plan 68 = .ok (.iload 4, 2) := by decide +kernel
theorem dX4_plan_70 : decode cX4_plan 70 = .ok (.invokevirtual 24, 3) := by decide +kernel
theorem dX4_plan_73 : decode cX4_plan 73 = .ok (.iastore, 1) := by decide +kernel
theorem dX4_plan_74 : decode cX4_plan 74 = .ok (.iinc 4 1, 3) := by decide +kernel
theorem dX4_plan_77 : decode cX4_plan 77 = .ok (.goto (-28), 3) := by decide +kernel
theorem dX4_plan_80 : decode cX4_plan 80 = .ok (.iconst 0, 1) := by decide +kernel
theorem dX4_plan_81 : decode cX4_plan 81 = .ok (.istore 4, 2) := by decide +kernel
theorem dX4_plan_83 : decode cX4_plan 83 = .ok (.iload 4, 2) := by decide +kernel
theorem dX4_plan_85 : decode cX4_plan 85 = .ok (.aload_n 1, 1) := by decide +kernel
theorem dX4_plan_86 : decode cX4_plan 86 = .ok (.getfield 15, 3) := by decide +kernel
theorem dX4_plan_89 : decode cX4_plan 89 = .ok (.if_icmp .ge 24, 3) := by decide +kernel
theorem dX4_plan_92 : decode cX4_plan 92 = .ok (.aload_n 0, 1) := by decide +kernel
theorem dX4_plan_93 : decode cX4_plan 93 = .ok (.iload_n 3, 1) := by decide +kernel
theorem dX4_plan_94 : decode cX4_plan 94 = .ok (.iload 4, 2) := by decide +kernel
theorem dX4_plan_96 : decode cX4_plan 96 = .ok (.aload_n 1, 1) := by decide +kernel
theorem dX4_plan_97 : decode cX4_plan 97 = .ok (.iload_n 3, 1) := by decide +kernel
theorem dX4_plan_98 : decode cX4_plan 98 = .ok (.iload 4, 2) := by decide +kernel
theorem dX4_plan_100 : decode cX4_plan 100 = .ok (.invokevirtual 28, 3) := by decide +kernel
theorem dX4_plan_103 : decode cX4_plan 103 = .ok (.iload_n 2, 1) := by decide +kernel
theorem dX4_plan_104 : decode cX4_plan 104 = .ok (.invokevirtual 31, 3) := by decide +kernel
theorem dX4_plan_107 : decode cX4_plan 107 = .ok (.iinc 4 1, 3) := by decide +kernel
theorem dX4_plan_110 : decode cX4_plan 110 = .ok (.goto (-27), 3) := by decide +kernel
theorem dX4_plan_113 : decode cX4_plan 113 = .ok (.iinc 3 (-1), 3) := by decide +kernel
theorem dX4_plan_116 : decode cX4_plan 116 = .ok (.goto (-74), 3) := by decide +kernel
theorem dX4_plan_119 : decode cX4_plan 119 = .ok (.return_, 1) := by decide +kernel
theorem dX4_planSeat_0 : decode cX4_planSeat 0 = .ok (.iconst 0, 1) := by decide +kernel
theorem dX4_planSeat_1 : decode cX4_planSeat 1 = .ok (.istore 5, 2) := by decide +kernel
theorem dX4_planSeat_3 : decode cX4_planSeat 3 = .ok (.iload 5, 2) := by decide +kernel
theorem dX4_planSeat_5 : decode cX4_planSeat 5 = .ok (.iload 4, 2) := by decide +kernel
theorem dX4_planSeat_7 : decode cX4_planSeat 7 = .ok (.if_icmp .ge 62, 3) := by decide +kernel
theorem dX4_planSeat_10 : decode cX4_planSeat 10 = .ok (.iload_n 2, 1) := by decide +kernel
theorem dX4_planSeat_11 : decode cX4_planSeat 11 = .ok (.iload 5, 2) := by decide +kernel
theorem dX4_planSeat_13 : decode cX4_planSeat 13 = .ok (.invokestatic 35, 3) := by decide +kernel
theorem dX4_planSeat_16 : decode cX4_planSeat 16 = .ok (.ifCond .eq 47, 3) := by decide +kernel
theorem dX4_planSeat_19 : decode cX4_planSeat 19 = .ok (.iload_n 3, 1) := by decide +kernel
theorem dX4_planSeat_20 : decode cX4_planSeat 20 = .ok (.aload_n 0, 1) := by decide +kernel
theorem dX4_planSeat_21 : decode cX4_planSeat 21 = .ok (.iload_n 1, 1) := by decide +kernel
theorem dX4_planSeat_22 : decode cX4_planSeat 22 = .ok (.iload 5, 2) := by decide +kernel
theorem dX4_planSeat_24 : decode cX4_planSeat 24 = .ok (.iconst 1, 1) := by decide +kernel
theorem dX4_planSeat_25 : decode cX4_planSeat 25 = .ok (.iload_n 2, 1) := by decide +kernel
theorem dX4_planSeat_26 : decode cX4_planSeat 26 = .ok (.ishl, 1) := by decide +kernel
theorem dX4_planSeat_27 : decode cX4_planSeat 27 = .ok (.ior, 1) := by decide +kernel
theorem dX4_planSeat_28 : decode cX4_planSeat 28 = .ok (.invokevirtual 24, 3) := by decide +kernel
theorem dX4_planSeat_31 : decode cX4_planSeat 31 = .ok (.iadd, 1) := by decide +kernel
theorem dX4_planSeat_32 : decode cX4_planSeat 32 = .ok (.istore 6, 2) := by decide +kernel
theorem dX4_planSeat_34 : decode cX4_planSeat 34 = .ok (.aload_n 0, 1) := by decide +kernel
theorem dX4_planSeat_35 : decode cX4_planSeat 35 = .ok (.getfield 11, 3) := by decide +kernel
theorem dX4_planSeat_38 : decode cX4_planSeat 38 = .ok (.bipush 64, 2) := by decide +kernel
theorem dX4_planSeat_40 : decode cX4_planSeat 40 = .ok (.iload_n 1, 1) := by decide +kernel
theorem dX4_planSeat_41 : decode cX4_planSeat 41 = .ok (.imul, 1) := by decide +kernel
theorem dX4_planSeat_42 : decode cX4_planSeat 42 = .ok (.iload 5, 2) := by decide +kernel
theorem dX4_planSeat_44 : decode cX4_planSeat 44 = .ok (.iadd, 1) := by decide +kernel
theorem dX4_planSeat_45 : decode cX4_planSeat 45 = .ok (.aload_n 0, 1) := by decide +kernel
theorem dX4_planSeat_46 : decode cX4_planSeat 46 = .ok (.getfield 11, 3) := by decide +kernel
theorem dX4_planSeat_49 : decode cX4_planSeat 49 = .ok (.bipush 64, 2) := by decide +kernel
theorem dX4_planSeat_51 : decode cX4_planSeat 51 = .ok (.iload_n 1, 1) := by decide +kernel
theorem dX4_planSeat_52 : decode cX4_planSeat 52 = .ok (.imul, 1) := by decide +kernel
theorem dX4_planSeat_53 : decode cX4_planSeat 53 = .ok (.iload 5, 2) := by decide +kernel
theorem dX4_planSeat_55 : decode cX4_planSeat 55 = .ok (.iadd, 1) := by decide +kernel
theorem dX4_planSeat_56 : decode cX4_planSeat 56 = .ok (.iaload, 1) := by decide +kernel
theorem dX4_planSeat_57 : decode cX4_planSeat 57 = .ok (.iload 6, 2) := by decide +kernel
theorem dX4_planSeat_59 : decode cX4_planSeat 59 = .ok (.invokestatic 39, 3) := by decide +kernel
theorem dX4_planSeat_62 : decode cX4_planSeat 62 = .ok (.iastore, 1) := by decide +kernel
theorem dX4_planSeat_63 : decode cX4_planSeat 63 = .ok (.iinc 5 1, 3) := by decide +kernel
theorem dX4_planSeat_66 : decode cX4_planSeat 66 = .ok (.goto (-63), 3) := by decide +kernel
theorem dX4_planSeat_69 : decode cX4_planSeat 69 = .ok (.return_, 1) := by decide +kernel
theorem dX4_most_0 : decode cX4_most 0 = .ok (.aload_n 0, 1) := by decide +kernel
theorem dX4_most_1 : decode cX4_most 1 = .ok (.getfield 11, 3) := by decide +kernel
theorem dX4_most_4 : decode cX4_most 4 = .ok (.iconst 0, 1) := by decide +kernel
theorem dX4_most_5 : decode cX4_most 5 = .ok (.iaload, 1) := by decide +kernel
theorem dX4_most_6 : decode cX4_most 6 = .ok (.ireturn, 1) := by decide +kernel
theorem dX4_seatOf_0 : decode cX4_seatOf 0 = .ok (.iconst 0, 1) := by decide +kernel
theorem dX4_seatOf_1 : decode cX4_seatOf 1 = .ok (.istore_n 3, 1) := by decide +kernel
theorem dX4_seatOf_2 : decode cX4_seatOf 2 = .ok (.bipush (-9), 2) := by decide +kernel
theorem dX4_seatOf_4 : decode cX4_seatOf 4 = .ok (.istore 4, 2) := by decide +kernel
theorem dX4_seatOf_6 : decode cX4_seatOf 6 = .ok (.iconst 0, 1) := by decide +kernel
theorem dX4_seatOf_7 : decode cX4_seatOf 7 = .ok (.istore 5, 2) := by decide +kernel
theorem dX4_seatOf_9 : decode cX4_seatOf 9 = .ok (.iload 5, 2) := by decide +kernel
theorem dX4_seatOf_11 : decode cX4_seatOf 11 = .ok (.iload_n 2, 1) := by decide +kernel
theorem dX4_seatOf_12 : decode cX4_seatOf 12 = .ok (.if_icmp .gt 37, 3) := by decide +kernel
theorem dX4_seatOf_15 : decode cX4_seatOf 15 = .ok (.aload_n 0, 1) := by decide +kernel
theorem dX4_seatOf_16 : decode cX4_seatOf 16 = .ok (.aload_n 1, 1) := by decide +kernel
theorem dX4_seatOf_17 : decode cX4_seatOf 17 = .ok (.iload 5, 2) := by decide +kernel
theorem dX4_seatOf_19 : decode cX4_seatOf 19 = .ok (.iload_n 3, 1) := by decide +kernel
theorem dX4_seatOf_20 : decode cX4_seatOf 20 = .ok (.invokevirtual 44, 3) := by decide +kernel
theorem dX4_seatOf_23 : decode cX4_seatOf 23 = .ok (.istore 4, 2) := by decide +kernel
theorem dX4_seatOf_25 : decode cX4_seatOf 25 = .ok (.iload_n 3, 1) := by decide +kernel
theorem dX4_seatOf_26 : decode cX4_seatOf 26 = .ok (.iload 4, 2) := by decide +kernel
theorem dX4_seatOf_28 : decode cX4_seatOf 28 = .ok (.bipush (-9), 2) := by decide +kernel
theorem dX4_seatOf_30 : decode cX4_seatOf 30 = .ok (.if_icmp .ne 7, 3) := by decide +kernel
theorem dX4_seatOf_33 : decode cX4_seatOf 33 = .ok (.iconst 0, 1) := by decide +kernel
theorem dX4_seatOf_34 : decode cX4_seatOf 34 = .ok (.goto 7, 3) := by decide +kernel
theorem dX4_seatOf_37 : decode cX4_seatOf 37 = .ok (.iconst 1, 1) := by decide +kernel
theorem dX4_seatOf_38 : decode cX4_seatOf 38 = .ok (.iload 4, 2) := by decide +kernel
theorem dX4_seatOf_40 : decode cX4_seatOf 40 = .ok (.ishl, 1) := by decide +kernel
theorem dX4_seatOf_41 : decode cX4_seatOf 41 = .ok (.ior, 1) := by decide +kernel
theorem dX4_seatOf_42 : decode cX4_seatOf 42 = .ok (.istore_n 3, 1) := by decide +kernel
theorem dX4_seatOf_43 : decode cX4_seatOf 43 = .ok (.iinc 5 1, 3) := by decide +kernel
theorem dX4_seatOf_46 : decode cX4_seatOf 46 = .ok (.goto (-37), 3) := by decide +kernel
theorem dX4_seatOf_49 : decode cX4_seatOf 49 = .ok (.iload 4, 2) := by decide +kernel
theorem dX4_seatOf_51 : decode cX4_seatOf 51 = .ok (.ireturn, 1) := by decide +kernel
theorem dX4_firstSeat_0 : decode cX4_firstSeat 0 = .ok (.iconst 0, 1) := by decide +kernel
theorem dX4_firstSeat_1 : decode cX4_firstSeat 1 = .ok (.istore 4, 2) := by decide +kernel
theorem dX4_firstSeat_3 : decode cX4_firstSeat 3 = .ok (.iload 4, 2) := by decide +kernel
theorem dX4_firstSeat_5 : decode cX4_firstSeat 5 = .ok (.aload_n 1, 1) := by decide +kernel
theorem dX4_firstSeat_6 : decode cX4_firstSeat 6 = .ok (.getfield 15, 3) := by decide +kernel
theorem dX4_firstSeat_9 : decode cX4_firstSeat 9 = .ok (.if_icmp .ge 58, 3) := by decide +kernel
theorem dX4_firstSeat_12 : decode cX4_firstSeat 12 = .ok (.iload 4, 2) := by decide +kernel
theorem dX4_firstSeat_14 : decode cX4_firstSeat 14 = .ok (.iload_n 3, 1) := by decide +kernel
theorem dX4_firstSeat_15 : decode cX4_firstSeat 15 = .ok (.invokestatic 35, 3) := by decide +kernel
theorem dX4_firstSeat_18 : decode cX4_firstSeat 18 = .ok (.ifCond .eq 43, 3) := by decide +kernel
theorem dX4_firstSeat_21 : decode cX4_firstSeat 21 = .ok (.aload_n 1, 1) := by decide +kernel
theorem dX4_firstSeat_22 : decode cX4_firstSeat 22 = .ok (.iload_n 2, 1) := by decide +kernel
theorem dX4_firstSeat_23 : decode cX4_firstSeat 23 = .ok (.iload 4, 2) := by decide +kernel
theorem dX4_firstSeat_25 : decode cX4_firstSeat 25 = .ok (.invokevirtual 28, 3) := by decide +kernel
theorem dX4_firstSeat_28 : decode cX4_firstSeat 28 = .ok (.aload_n 0, 1) := by decide +kernel
theorem dX4_firstSeat_29 : decode cX4_firstSeat 29 = .ok (.iload_n 2, 1) := by decide +kernel
theorem dX4_firstSeat_30 : decode cX4_firstSeat 30 = .ok (.iload_n 3, 1) := by decide +kernel
theorem dX4_firstSeat_31 : decode cX4_firstSeat 31 = .ok (.iconst 1, 1) := by decide +kernel
theorem dX4_firstSeat_32 : decode cX4_firstSeat 32 = .ok (.iload 4, 2) := by decide +kernel
theorem dX4_firstSeat_34 : decode cX4_firstSeat 34 = .ok (.ishl, 1) := by decide +kernel
theorem dX4_firstSeat_35 : decode cX4_firstSeat 35 = .ok (.ior, 1) := by decide +kernel
theorem dX4_firstSeat_36 : decode cX4_firstSeat 36 = .ok (.invokevirtual 24, 3) := by decide +kernel
theorem dX4_firstSeat_39 : decode cX4_firstSeat 39 = .ok (.iadd, 1) := by decide +kernel
theorem dX4_firstSeat_40 : decode cX4_firstSeat 40 = .ok (.istore 5, 2) := by decide +kernel
theorem dX4_firstSeat_42 : decode cX4_firstSeat 42 = .ok (.iload 5, 2) := by decide +kernel
theorem dX4_firstSeat_44 : decode cX4_firstSeat 44 = .ok (.aload_n 0, 1) := by decide +kernel
theorem dX4_firstSeat_45 : decode cX4_firstSeat 45 = .ok (.getfield 11, 3) := by decide +kernel
theorem dX4_firstSeat_48 : decode cX4_firstSeat 48 = .ok (.bipush 64, 2) := by decide +kernel
theorem dX4_firstSeat_50 : decode cX4_firstSeat 50 = .ok (.iload_n 2, 1) := by decide +kernel
theorem dX4_firstSeat_51 : decode cX4_firstSeat 51 = .ok (.imul, 1) := by decide +kernel
theorem dX4_firstSeat_52 : decode cX4_firstSeat 52 = .ok (.iload_n 3, 1) := by decide +kernel
theorem dX4_firstSeat_53 : decode cX4_firstSeat 53 = .ok (.iadd, 1) := by decide +kernel
theorem dX4_firstSeat_54 : decode cX4_firstSeat 54 = .ok (.iaload, 1) := by decide +kernel
theorem dX4_firstSeat_55 : decode cX4_firstSeat 55 = .ok (.if_icmp .ne 6, 3) := by decide +kernel
theorem dX4_firstSeat_58 : decode cX4_firstSeat 58 = .ok (.iload 4, 2) := by decide +kernel
theorem dX4_firstSeat_60 : decode cX4_firstSeat 60 = .ok (.ireturn, 1) := by decide +kernel
theorem dX4_firstSeat_61 : decode cX4_firstSeat 61 = .ok (.iinc 4 1, 3) := by decide +kernel
theorem dX4_firstSeat_64 : decode cX4_firstSeat 64 = .ok (.goto (-61), 3) := by decide +kernel
theorem dX4_firstSeat_67 : decode cX4_firstSeat 67 = .ok (.bipush (-9), 2) := by decide +kernel
theorem dX4_firstSeat_69 : decode cX4_firstSeat 69 = .ok (.ireturn, 1) := by decide +kernel
theorem dX4_mostBehind_0 : decode cX4_mostBehind 0 = .ok (.aload_n 0, 1) := by decide +kernel
theorem dX4_mostBehind_1 : decode cX4_mostBehind 1 = .ok (.getfield 11, 3) := by decide +kernel
theorem dX4_mostBehind_4 : decode cX4_mostBehind 4 = .ok (.bipush 64, 2) := by decide +kernel
theorem dX4_mostBehind_6 : decode cX4_mostBehind 6 = .ok (.iload_n 1, 1) := by decide +kernel
theorem dX4_mostBehind_7 : decode cX4_mostBehind 7 = .ok (.iconst 1, 1) := by decide +kernel
theorem dX4_mostBehind_8 : decode cX4_mostBehind 8 = .ok (.iadd, 1) := by decide +kernel
theorem dX4_mostBehind_9 : decode cX4_mostBehind 9 = .ok (.imul, 1) := by decide +kernel
theorem dX4_mostBehind_10 : decode cX4_mostBehind 10 = .ok (.iload_n 2, 1) := by decide +kernel
theorem dX4_mostBehind_11 : decode cX4_mostBehind 11 = .ok (.iadd, 1) := by decide +kernel
theorem dX4_mostBehind_12 : decode cX4_mostBehind 12 = .ok (.iaload, 1) := by decide +kernel
theorem dX4_mostBehind_13 : decode cX4_mostBehind 13 = .ok (.ireturn, 1) := by decide +kernel
theorem dX4_isOpen_0 : decode cX4_isOpen 0 = .ok (.iload_n 1, 1) := by decide +kernel
theorem dX4_isOpen_1 : decode cX4_isOpen 1 = .ok (.iconst 1, 1) := by decide +kernel
theorem dX4_isOpen_2 : decode cX4_isOpen 2 = .ok (.iload_n 0, 1) := by decide +kernel
theorem dX4_isOpen_3 : decode cX4_isOpen 3 = .ok (.ishl, 1) := by decide +kernel
theorem dX4_isOpen_4 : decode cX4_isOpen 4 = .ok (.iand, 1) := by decide +kernel
theorem dX4_isOpen_5 : decode cX4_isOpen 5 = .ok (.ifCond .ne 7, 3) := by decide +kernel
theorem dX4_isOpen_8 : decode cX4_isOpen 8 = .ok (.iconst 1, 1) := by decide +kernel
theorem dX4_isOpen_9 : decode cX4_isOpen 9 = .ok (.goto 4, 3) := by decide +kernel
theorem dX4_isOpen_12 : decode cX4_isOpen 12 = .ok (.iconst 0, 1) := by decide +kernel
theorem dX4_isOpen_13 : decode cX4_isOpen 13 = .ok (.ireturn, 1) := by decide +kernel
theorem dX5_init_0 : decode cX5_init 0 = .ok (.aload_n 0, 1) := by decide +kernel
theorem dX5_init_1 : decode cX5_init 1 = .ok (.invokespecial 1, 3) := by decide +kernel
theorem dX5_init_4 : decode cX5_init 4 = .ok (.aload_n 0, 1) := by decide +kernel
theorem dX5_init_5 : decode cX5_init 5 = .ok (.new 7, 3) := by decide +kernel
theorem dX5_init_8 : decode cX5_init 8 = .ok (.dup, 1) := by decide +kernel
theorem dX5_init_9 : decode cX5_init 9 = .ok (.invokespecial 9, 3) := by decide +kernel
theorem dX5_init_12 : decode cX5_init 12 = .ok (.putfield 10, 3) := by decide +kernel
theorem dX5_init_15 : decode cX5_init 15 = .ok (.aload_n 0, 1) := by decide +kernel
theorem dX5_init_16 : decode cX5_init 16 = .ok (.new 7, 3) := by decide +kernel
theorem dX5_init_19 : decode cX5_init 19 = .ok (.dup, 1) := by decide +kernel
theorem dX5_init_20 : decode cX5_init 20 = .ok (.invokespecial 9, 3) := by decide +kernel
theorem dX5_init_23 : decode cX5_init 23 = .ok (.putfield 16, 3) := by decide +kernel
theorem dX5_init_26 : decode cX5_init 26 = .ok (.aload_n 0, 1) := by decide +kernel
theorem dX5_init_27 : decode cX5_init 27 = .ok (.new 7, 3) := by decide +kernel
theorem dX5_init_30 : decode cX5_init 30 = .ok (.dup, 1) := by decide +kernel
theorem dX5_init_31 : decode cX5_init 31 = .ok (.invokespecial 9, 3) := by decide +kernel
theorem dX5_init_34 : decode cX5_init 34 = .ok (.putfield 19, 3) := by decide +kernel
theorem dX5_init_37 : decode cX5_init 37 = .ok (.aload_n 0, 1) := by decide +kernel
theorem dX5_init_38 : decode cX5_init 38 = .ok (.new 22, 3) := by decide +kernel
theorem dX5_init_41 : decode cX5_init 41 = .ok (.dup, 1) := by decide +kernel
theorem dX5_init_42 : decode cX5_init 42 = .ok (.invokespecial 24, 3) := by decide +kernel
theorem dX5_init_45 : decode cX5_init 45 = .ok (.putfield 25, 3) := by decide +kernel
theorem dX5_init_48 : decode cX5_init 48 = .ok (.aload_n 0, 1) := by decide +kernel
theorem dX5_init_49 : decode cX5_init 49 = .ok (.new 29, 3) := by decide +kernel
theorem dX5_init_52 : decode cX5_init 52 = .ok (.dup, 1) := by decide +kernel
theorem dX5_init_53 : decode cX5_init 53 = .ok (.invokespecial 31, 3) := by decide +kernel
theorem dX5_init_56 : decode cX5_init 56 = .ok (.putfield 32, 3) := by decide +kernel
theorem dX5_init_59 : decode cX5_init 59 = .ok (.aload_n 0, 1) := by decide +kernel
theorem dX5_init_60 : decode cX5_init 60 = .ok (.bipush 16, 2) := by decide +kernel
theorem dX5_init_62 : decode cX5_init 62 = .ok (.newarray .int, 2) := by decide +kernel
theorem dX5_init_64 : decode cX5_init 64 = .ok (.putfield 36, 3) := by decide +kernel
theorem dX5_init_67 : decode cX5_init 67 = .ok (.aload_n 0, 1) := by decide +kernel
theorem dX5_init_68 : decode cX5_init 68 = .ok (.bipush 7, 2) := by decide +kernel
theorem dX5_init_70 : decode cX5_init 70 = .ok (.newarray .int, 2) := by decide +kernel
theorem dX5_init_72 : decode cX5_init 72 = .ok (.putfield 40, 3) := by decide +kernel
theorem dX5_init_75 : decode cX5_init 75 = .ok (.return_, 1) := by decide +kernel
theorem dX5_letter_0 : decode cX5_letter 0 = .ok (.iload_n 1, 1) := by decide +kernel
theorem dX5_letter_1 : decode cX5_letter 1 = .ok (.iconst 0, 1) := by decide +kernel
theorem dX5_letter_2 : decode cX5_letter 2 = .ok (.sipush 255, 3) := by decide +kernel
theorem dX5_letter_5 : decode cX5_letter 5 = .ok (.invokestatic 43, 3) := by decide +kernel
theorem dX5_letter_8 : decode cX5_letter 8 = .ok (.aload_n 0, 1) := by decide +kernel
theorem dX5_letter_9 : decode cX5_letter 9 = .ok (.getfield 25, 3) := by decide +kernel
theorem dX5_letter_12 : decode cX5_letter 12 = .ok (.invokevirtual 47, 3) := by decide +kernel
theorem dX5_letter_15 : decode cX5_letter 15 = .ok (.ifCond .ne 7, 3) := by decide +kernel
theorem dX5_letter_18 : decode cX5_letter 18 = .ok (.iconst 1, 1) := by decide +kernel
theorem dX5_letter_19 : decode cX5_letter 19 = .ok (.goto 4, 3) := by decide +kernel
theorem dX5_letter_22 : decode cX5_letter 22 = .ok (.iconst 0, 1) := by decide +kernel
theorem dX5_letter_23 : decode cX5_letter 23 = .ok (.invokestatic 51, 3) := by decide +kernel
theorem dX5_letter_26 : decode cX5_letter 26 = .ok (.iconst 0, 1) := by decide +kernel
theorem dX5_letter_27 : decode cX5_letter 27 = .ok (.invokestatic 55, 3) := by decide +kernel
theorem dX5_letter_30 : decode cX5_letter 30 = .ok (.istore_n 2, 1) := by decide +kernel
theorem dX5_letter_31 : decode cX5_letter 31 = .ok (.iload_n 2, 1) := by decide +kernel
theorem dX5_letter_32 : decode cX5_letter 32 = .ok (.ifCond .eq 9, 3) := by decide +kernel
theorem dX5_letter_35 : decode cX5_letter 35 = .ok (.aload_n 0, 1) := by decide +kernel
theorem dX5_letter_36 : decode cX5_letter 36 = .ok (.iload_n 2, 1) := by decide +kernel
theorem dX5_letter_37 : decode cX5_letter 37 = .ok (.invokevirtual 58, 3) := by decide +kernel
theorem dX5_letter_40 : decode cX5_letter 40 = .ok (.ireturn, 1) := by decide +kernel
theorem dX5_letter_41 : decode cX5_letter 41 = .ok (.aload_n 0, 1) := by decide +kernel
theorem dX5_letter_42 : decode cX5_letter 42 = .ok (.getfield 25, 3) := by decide +kernel
theorem dX5_letter_45 : decode cX5_letter 45 = .ok (.iload_n 1, 1) := by decide +kernel
theorem dX5_letter_46 : decode cX5_letter 46 = .ok (.invokevirtual 62, 3) := by decide +kernel
theorem dX5_letter_49 : decode cX5_letter 49 = .ok (.aload_n 0, 1) := by decide +kernel
theorem dX5_letter_50 : decode cX5_letter 50 = .ok (.getfield 25, 3) := by decide +kernel
theorem dX5_letter_53 : decode cX5_letter 53 = .ok (.getfield 66, 3) := by decide +kernel
theorem dX5_letter_56 : decode cX5_letter 56 = .ok (.ireturn, 1) := by decide +kernel
theorem dX5_land_0 : decode cX5_land 0 = .ok (.aload_n 0, 1) := by decide +kernel
theorem dX5_land_1 : decode cX5_land 1 = .ok (.getfield 19, 3) := by decide +kernel
theorem dX5_land_4 : decode cX5_land 4 = .ok (.aload_n 0, 1) := by decide +kernel
theorem dX5_land_5 : decode cX5_land 5 = .ok (.getfield 10, 3) := by decide +kernel
theorem dX5_land_8 : decode cX5_land 8 = .ok (.invokevirtual 70, 3) := by decide +kernel
theorem dX5_land_11 : decode cX5_land 11 = .ok (.aload_n 0, 1) := by decide +kernel
theorem dX5_land_12 : decode cX5_land 12 = .ok (.getfield 25, 3) := by decide +kernel
theorem dX5_land_15 : decode cX5_land 15 = .ok (.aload_n 0, 1) := by decide +kernel
theorem dX5_land_16 : decode cX5_land 16 = .ok (.getfield 19, 3) := by decide +kernel
theorem dX5_land_19 : decode cX5_land 19 = .ok (.invokevirtual 74, 3) := by decide +kernel
theorem dX5_land_22 : decode cX5_land 22 = .ok (.istore_n 1, 1) := by decide +kernel
theorem dX5_land_23 : decode cX5_land 23 = .ok (.iload_n 1, 1) := by decide +kernel
theorem dX5_land_24 : decode cX5_land 24 = .ok (.ifCond .lt 14, 3) := by decide +kernel
theorem dX5_land_27 : decode cX5_land 27 = .ok (.aload_n 0, 1) := by decide +kernel
theorem dX5_land_28 : decode cX5_land 28 = .ok (.getfield 10, 3) := by decide +kernel
theorem dX5_land_31 : decode cX5_land 31 = .ok (.aload_n 0, 1) := by decide +kernel
theorem dX5_land_32 : decode cX5_land 32 = .ok (.getfield 19, 3) := by decide +kernel
theorem dX5_land_35 : decode cX5_land 35 = .ok (.invokevirtual 70, 3) := by decide +kernel
theorem dX5_land_38 : decode cX5_land 38 = .ok (.aload_n 0, 1) := by decide +kernel
theorem dX5_land_39 : decode cX5_land 39 = .ok (.getfield 25, 3) := by decide +kernel
theorem dX5_land_42 : decode cX5_land 42 = .ok (.iconst 0, 1) := by decide +kernel
theorem dX5_land_43 : decode cX5_land 43 = .ok (.putfield 66, 3) := by decide +kernel
theorem dX5_land_46 : decode cX5_land 46 = .ok (.iload_n 1, 1) := by decide +kernel
theorem dX5_land_47 : decode cX5_land 47 = .ok (.ireturn, 1) := by decide +kernel
theorem dX5_farm_0 : decode cX5_farm 0 = .ok (.aload_n 0, 1) := by decide +kernel
theorem dX5_farm_1 : decode cX5_farm 1 = .ok (.getfield 10, 3) := by decide +kernel
theorem dX5_farm_4 : decode cX5_farm 4 = .ok (.iload_n 1, 1) := by decide +kernel
theorem dX5_farm_5 : decode cX5_farm 5 = .ok (.invokevirtual 78, 3) := by decide +kernel
theorem dX5_farm_8 : decode cX5_farm 8 = .ok (.invokestatic 82, 3) := by decide +kernel
theorem dX5_farm_11 : decode cX5_farm 11 = .ok (.iload_n 2, 1) := by decide +kernel
theorem dX5_farm_12 : decode cX5_farm 12 = .ok (.iconst 4, 1) := by decide +kernel
theorem dX5_farm_13 : decode cX5_farm 13 = .ok (.invokestatic 85, 3) := by decide +kernel
theorem dX5_farm_16 : decode cX5_farm 16 = .ok (.iconst 0, 1) := by decide +kernel
theorem dX5_farm_17 : decode cX5_farm 17 = .ok (.invokestatic 55, 3) := by decide +kernel
theorem dX5_farm_20 : decode cX5_farm 20 = .ok (.istore_n 3, 1) := by decide +kernel
theorem dX5_farm_21 : decode cX5_farm 21 = .ok (.iload_n 3, 1) := by decide +kernel
theorem dX5_farm_22 : decode cX5_farm 22 = .ok (.ifCond .eq 9, 3) := by decide +kernel
theorem dX5_farm_25 : decode cX5_farm 25 = .ok (.aload_n 0, 1) := by decide +kernel
theorem dX5_farm_26 : decode cX5_farm 26 = .ok (.iload_n 3, 1) := by decide +kernel
theorem dX5_farm_27 : decode cX5_farm 27 = .ok (.invokevirtual 58, 3) := by decide +kernel
theorem dX5_farm_30 : decode cX5_farm 30 = .ok (.ireturn, 1) := by decide +kernel
theorem dX5_farm_31 : decode cX5_farm 31 = .ok (.iload_n 2, 1) := by decide +kernel
theorem dX5_farm_32 : decode cX5_farm 32 = .ok (.iconst 3, 1) := by decide +kernel
theorem dX5_farm_33 : decode cX5_farm 33 = .ok (.if_icmp .ne 12, 3) := by decide +kernel
theorem dX5_farm_36 : decode cX5_farm 36 = .ok (.aload_n 0, 1) := by decide +kernel
theorem dX5_farm_37 : decode cX5_farm 37 = .ok (.getfield 10, 3) := by decide +kernel
theorem dX5_farm_40 : decode cX5_farm 40 = .ok (.iload_n 1, 1) := by decide +kernel
theorem dX5_farm_41 : decode cX5_farm 41 = .ok (.invokevirtual 89, 3) := by decide +kernel
theorem dX5_farm_44 : decode cX5_farm 44 = .ok (.ireturn, 1) := by decide +kernel
theorem dX5_farm_45 : decode cX5_farm 45 = .ok (.iload_n 2, 1) := by decide +kernel
theorem dX5_farm_46 : decode cX5_farm 46 = .ok (.iconst 4, 1) := by decide +kernel
theorem dX5_farm_47 : decode cX5_farm 47 = .ok (.if_icmp .ne 14, 3) := by decide +kernel
theorem dX5_farm_50 : decode cX5_farm 50 = .ok (.aload_n 0, 1) := by decide +kernel
theorem dX5_farm_51 : decode cX5_farm 51 = .ok (.getfield 10, 3) := by decide +kernel
theorem dX5_farm_54 : decode cX5_farm 54 = .ok (.iload_n 1, 1) := by decide +kernel
theorem dX5_farm_55 : decode cX5_farm 55 = .ok (.invokevirtual 92, 3) := by decide +kernel
theorem dX5_farm_58 : decode cX5_farm 58 = .ok (.goto 12, 3) := by decide +kernel
theorem dX5_farm_61 : decode cX5_farm 61 = .ok (.aload_n 0, 1) := by decide +kernel
theorem dX5_farm_62 : decode cX5_farm 62 = .ok (.getfield 10, 3) := by decide +kernel
theorem dX5_farm_65 : decode cX5_farm 65 = .ok (.iload_n 1, 1) := by decide +kernel
theorem dX5_farm_66 : decode cX5_farm 66 = .ok (.iload_n 2, 1) := by decide +kernel
theorem dX5_farm_67 : decode cX5_farm 67 = .ok (.invokevirtual 95, 3) := by decide +kernel
theorem dX5_farm_70 : decode cX5_farm 70 = .ok (.ireturn, 1) := by decide +kernel
theorem dX5_farmer_0 : decode cX5_farmer 0 = .ok (.aload_n 0, 1) := by decide +kernel
theorem dX5_farmer_1 : decode cX5_farmer 1 = .ok (.getfield 10, 3) := by decide +kernel
theorem dX5_farmer_4 : decode cX5_farmer 4 = .ok (.iload_n 1, 1) := by decide +kernel
theorem dX5_farmer_5 : decode cX5_farmer 5 = .ok (.invokevirtual 98, 3) := by decide +kernel
theorem dX5_farmer_8 : decode cX5_farmer 8 = .ok (.invokestatic 82, 3) := by decide +kernel
theorem dX5_farmer_11 : decode cX5_farmer 11 = .ok (.iload_n 2, 1) := by decide +kernel
theorem dX5_farmer_12 : decode cX5_farmer 12 = .ok (.iconst 5, 1) := by decide +kernel
theorem dX5_farmer_13 : decode cX5_farmer 13 = .ok (.invokestatic 85, 3) := by decide +kernel
theorem dX5_farmer_16 : decode cX5_farmer 16 = .ok (.iconst 0, 1) := by decide +kernel
theorem dX5_farmer_17 : decode cX5_farmer 17 = .ok (.invokestatic 55, 3) := by decide +kernel
theorem dX5_farmer_20 : decode cX5_farmer 20 = .ok (.istore_n 3, 1) := by decide +kernel
theorem dX5_farmer_21 : decode cX5_farmer 21 = .ok (.iload_n 3, 1) := by decide +kernel
theorem dX5_farmer_22 : decode cX5_farmer 22 = .ok (.ifCond .eq 9, 3) := by decide +kernel
theorem dX5_farmer_25 : decode cX5_farmer 25 = .ok (.aload_n 0, 1) := by decide +kernel
theorem dX5_farmer_26 : decode cX5_farmer 26 = .ok (.iload_n 3, 1) := by decide +kernel
theorem dX5_farmer_27 : decode cX5_farmer 27 = .ok (.invokevirtual 58, 3) := by decide +kernel
theorem dX5_farmer_30 : decode cX5_farmer 30 = .ok (.ireturn, 1) := by decide +kernel
theorem dX5_farmer_31 : decode cX5_farmer 31 = .ok (.iload_n 2, 1) := by decide +kernel
theorem dX5_farmer_32 : decode cX5_farmer 32 = .ok (.tableswitch 85 0 4 #[36, 46, 56, 66, 76], 36) := by decide +kernel
theorem dX5_farmer_68 : decode cX5_farmer 68 = .ok (.aload_n 0, 1) := by decide +kernel
theorem dX5_farmer_69 : decode cX5_farmer 69 = .ok (.getfield 10, 3) := by decide +kernel
theorem dX5_farmer_72 : decode cX5_farmer 72 = .ok (.getfield 101, 3) := by decide +kernel
theorem dX5_farmer_75 : decode cX5_farmer 75 = .ok (.iload_n 1, 1) := by decide +kernel
theorem dX5_farmer_76 : decode cX5_farmer 76 = .ok (.iaload, 1) := by decide +kernel
theorem dX5_farmer_77 : decode cX5_farmer 77 = .ok (.ireturn, 1) := by decide +kernel
theorem dX5_farmer_78 : decode cX5_farmer 78 = .ok (.aload_n 0, 1) := by decide +kernel
theorem dX5_farmer_79 : decode cX5_farmer 79 = .ok (.getfield 10, 3) := by decide +kernel
theorem dX5_farmer_82 : decode cX5_farmer 82 = .ok (.getfield 104, 3) := by decide +kernel
theorem dX5_farmer_85 : decode cX5_farmer 85 = .ok (.iload_n 1, 1) := by decide +kernel
theorem dX5_farmer_86 : decode cX5_farmer 86 = .ok (.iaload, 1) := by decide +kernel
theorem dX5_farmer_87 : decode cX5_farmer 87 = .ok (.ireturn, 1) := by decide +kernel
theorem dX5_farmer_88 : decode cX5_farmer 88 = .ok (.aload_n 0, 1) := by decide +kernel
theorem dX5_farmer_89 : decode cX5_farmer 89 = .ok (.getfield 10, 3) := by decide +kernel
theorem dX5_farmer_92 : decode cX5_farmer 92 = .ok (.getfield 107, 3) := by decide +kernel
theorem dX5_farmer_95 : decode cX5_farmer 95 = .ok (.iload_n 1, 1) := by decide +kernel
theorem dX5_farmer_96 : decode cX5_farmer 96 = .ok (.iaload, 1) := by decide +kernel
theorem dX5_farmer_97 : decode cX5_farmer 97 = .ok (.ireturn, 1) := by decide +kernel
theorem dX5_farmer_98 : decode cX5_farmer 98 = .ok (.aload_n 0, 1) := by decide +kernel
theorem dX5_farmer_99 : decode cX5_farmer 99 = .ok (.getfield 10, 3) := by decide +kernel
theorem dX5_farmer_102 : decode cX5_farmer 102 = .ok (.getfield 110, 3) := by decide +kernel
theorem dX5_farmer_105 : decode cX5_farmer 105 = .ok (.iload_n 1, 1) := by decide +kernel
theorem dX5_farmer_106 : decode cX5_farmer 106 = .ok (.iaload, 1) := by decide +kernel
theorem dX5_farmer_107 : decode cX5_farmer 107 = .ok (.ireturn, 1) := by decide +kernel
theorem dX5_farmer_108 : decode cX5_farmer 108 = .ok (.aload_n 0, 1) := by decide +kernel
theorem dX5_farmer_109 : decode cX5_farmer 109 = .ok (.getfield 10, 3) := by decide +kernel
theorem dX5_farmer_112 : decode cX5_farmer 112 = .ok (.iload_n 1, 1) := by decide +kernel
theorem dX5_farmer_113 : decode cX5_farmer 113 = .ok (.invokevirtual 113, 3) := by decide +kernel
theorem dX5_farmer_116 : decode cX5_farmer 116 = .ok (.ireturn, 1) := by decide +kernel
theorem dX5_farmer_117 : decode cX5_farmer 117 = .ok (.aload_n 0, 1) := by decide +kernel
theorem dX5_farmer_118 : decode cX5_farmer 118 = .ok (.getfield 10, 3) := by decide +kernel
theorem dX5_farmer_121 : decode cX5_farmer 121 = .ok (.getfield 101, 3) := by decide +kernel
theorem dX5_farmer_124 : decode cX5_farmer 124 = .ok (.iload_n 1, 1) := by decide +kernel
theorem dX5_farmer_125 : decode cX5_farmer 125 = .ok (.iaload, 1) := by decide +kernel
theorem dX5_farmer_126 : decode cX5_farmer 126 = .ok (.invokestatic 116, 3) := by decide +kernel
theorem dX5_farmer_129 : decode cX5_farmer 129 = .ok (.ireturn, 1) := by decide +kernel
theorem dX5_sits_0 : decode cX5_sits 0 = .ok (.aload_n 0, 1) := by decide +kernel
theorem dX5_sits_1 : decode cX5_sits 1 = .ok (.getfield 10, 3) := by decide +kernel
theorem dX5_sits_4 : decode cX5_sits 4 = .ok (.iload_n 1, 1) := by decide +kernel
theorem dX5_sits_5 : decode cX5_sits 5 = .ok (.invokevirtual 98, 3) := by decide +kernel
theorem dX5_sits_8 : decode cX5_sits 8 = .ok (.ifCond .eq 18, 3) := by decide +kernel
theorem dX5_sits_11 : decode cX5_sits 11 = .ok (.aload_n 0, 1) := by decide +kernel
theorem dX5_sits_12 : decode cX5_sits 12 = .ok (.getfield 10, 3) := by decide +kernel
theorem dX5_sits_15 : decode cX5_sits 15 = .ok (.iload_n 2, 1) := by decide +kernel
theorem dX5_sits_16 : decode cX5_sits 16 = .ok (.invokevirtual 78, 3) := by decide +kernel
theorem dX5_sits_19 : decode cX5_sits 19 = .ok (.ifCond .eq 7, 3) := by decide +kernel
theorem dX5_sits_22 : decode cX5_sits 22 = .ok (.iconst 1, 1) := by decide +kernel
theorem dX5_sits_23 : decode cX5_sits 23 = .ok (.goto 4, 3) := by decide +kernel
theorem dX5_sits_26 : decode cX5_sits 26 = .ok (.iconst 0, 1) := by decide +kernel
theorem dX5_sits_27 : decode cX5_sits 27 = .ok (.invokestatic 82, 3) := by decide +kernel
theorem dX5_sits_30 : decode cX5_sits 30 = .ok (.istore_n 3, 1) := by decide +kernel
theorem dX5_sits_31 : decode cX5_sits 31 = .ok (.iload_n 3, 1) := by decide +kernel
theorem dX5_sits_32 : decode cX5_sits 32 = .ok (.ifCond .eq 9, 3) := by decide +kernel
theorem dX5_sits_35 : decode cX5_sits 35 = .ok (.aload_n 0, 1) := by decide +kernel
theorem dX5_sits_36 : decode cX5_sits 36 = .ok (.iload_n 3, 1) := by decide +kernel
theorem dX5_sits_37 : decode cX5_sits 37 = .ok (.invokevirtual 58, 3) := by decide +kernel
theorem dX5_sits_40 : decode cX5_sits 40 = .ok (.ireturn, 1) := by decide +kernel
theorem dX5_sits_41 : decode cX5_sits 41 = .ok (.aload_n 0, 1) := by decide +kernel
theorem dX5_sits_42 : decode cX5_sits 42 = .ok (.getfield 10, 3) := by decide +kernel
theorem dX5_sits_45 : decode cX5_sits 45 = .ok (.iload_n 2, 1) := by decide +kernel
theorem dX5_sits_46 : decode cX5_sits 46 = .ok (.invokevirtual 92, 3) := by decide +kernel
theorem dX5_sits_49 : decode cX5_sits 49 = .ok (.istore 4, 2) := by decide +kernel
theorem dX5_sits_51 : decode cX5_sits 51 = .ok (.aload_n 0, 1) := by decide +kernel
theorem dX5_sits_52 : decode cX5_sits 52 = .ok (.getfield 10, 3) := by decide +kernel
theorem dX5_sits_55 : decode cX5_sits 55 = .ok (.iload_n 1, 1) := by decide +kernel
theorem dX5_sits_56 : decode cX5_sits 56 = .ok (.iload_n 2, 1) := by decide +kernel
theorem dX5_sits_57 : decode cX5_sits 57 = .ok (.invokevirtual 121, 3) := by decide +kernel
theorem dX5_sits_60 : decode cX5_sits 60 = .ok (.iload 4, 2) := by decide +kernel
theorem dX5_sits_62 : decode cX5_sits 62 = .ok (.ireturn, 1) := by decide +kernel
theorem dX5_leaves_0 : decode cX5_leaves 0 = .ok (.aload_n 0, 1) := by decide +kernel
theorem dX5_leaves_1 : decode cX5_leaves 1 = .ok (.getfield 10, 3) := by decide +kernel
theorem dX5_leaves_4 : decode cX5_leaves 4 = .ok (.iload_n 1, 1) := by decide +kernel
theorem dX5_leaves_5 : decode cX5_leaves 5 = .ok (.invokevirtual 98, 3) := by decide +kernel
theorem dX5_leaves_8 : decode cX5_leaves 8 = .ok (.ifCond .ne 9, 3) := by decide +kernel
theorem dX5_leaves_11 : decode cX5_leaves 11 = .ok (.aload_n 0, 1) := by decide +kernel
theorem dX5_leaves_12 : decode cX5_leaves 12 = .ok (.iconst (-1), 1) := by decide +kernel
theorem dX5_leaves_13 : decode cX5_leaves 13 = .ok (.invokevirtual 58, 3) := by decide +kernel
theorem dX5_leaves_16 : decode cX5_leaves 16 = .ok (.ireturn, 1) := by decide +kernel
theorem dX5_leaves_17 : decode cX5_leaves 17 = .ok (.aload_n 0, 1) := by decide +kernel
theorem dX5_leaves_18 : decode cX5_leaves 18 = .ok (.getfield 10, 3) := by decide +kernel
theorem dX5_leaves_21 : decode cX5_leaves 21 = .ok (.getfield 110, 3) := by decide +kernel
theorem dX5_leaves_24 : decode cX5_leaves 24 = .ok (.iload_n 1, 1) := by decide +kernel
theorem dX5_leaves_25 : decode cX5_leaves 25 = .ok (.iaload, 1) := by decide +kernel
theorem dX5_leaves_26 : decode cX5_leaves 26 = .ok (.istore_n 2, 1) := by decide +kernel
theorem dX5_leaves_27 : decode cX5_leaves 27 = .ok (.iload_n 2, 1) := by decide +kernel
theorem dX5_leaves_28 : decode cX5_leaves 28 = .ok (.bipush (-9), 2) := by decide +kernel
theorem dX5_leaves_30 : decode cX5_leaves 30 = .ok (.if_icmp .ne 10, 3) := by decide +kernel
theorem dX5_leaves_33 : decode cX5_leaves 33 = .ok (.aload_n 0, 1) := by decide +kernel
theorem dX5_leaves_34 : decode cX5_leaves 34 = .ok (.bipush (-3), 2) := by decide +kernel
theorem dX5_leaves_36 : decode cX5_leaves 36 = .ok (.invokevirtual 58, 3) := by decide +kernel
theorem dX5_leaves_39 : decode cX5_leaves 39 = .ok (.ireturn, 1) := by decide +kernel
theorem dX5_leaves_40 : decode cX5_leaves 40 = .ok (.aload_n 0, 1) := by decide +kernel
theorem dX5_leaves_41 : decode cX5_leaves 41 = .ok (.getfield 10, 3) := by decide +kernel
theorem dX5_leaves_44 : decode cX5_leaves 44 = .ok (.getfield 110, 3) := by decide +kernel
theorem dX5_leaves_47 : decode cX5_leaves 47 = .ok (.iload_n 1, 1) := by decide +kernel
theorem dX5_leaves_48 : decode cX5_leaves 48 = .ok (.bipush (-9), 2) := by decide +kernel
theorem dX5_leaves_50 : decode cX5_leaves 50 = .ok (.iastore, 1) := by decide +kernel
theorem dX5_leaves_51 : decode cX5_leaves 51 = .ok (.iload_n 2, 1) := by decide +kernel
theorem dX5_leaves_52 : decode cX5_leaves 52 = .ok (.ireturn, 1) := by decide +kernel
theorem dX5_hearts_0 : decode cX5_hearts 0 = .ok (.aload_n 0, 1) := by decide +kernel
theorem dX5_hearts_1 : decode cX5_hearts 1 = .ok (.getfield 10, 3) := by decide +kernel
theorem dX5_hearts_4 : decode cX5_hearts 4 = .ok (.iload_n 1, 1) := by decide +kernel
theorem dX5_hearts_5 : decode cX5_hearts 5 = .ok (.invokevirtual 78, 3) := by decide +kernel
theorem dX5_hearts_8 : decode cX5_hearts 8 = .ok (.ifCond .eq 14, 3) := by decide +kernel
theorem dX5_hearts_11 : decode cX5_hearts 11 = .ok (.iload_n 2, 1) := by decide +kernel
theorem dX5_hearts_12 : decode cX5_hearts 12 = .ok (.invokestatic 125, 3) := by decide +kernel
theorem dX5_hearts_15 : decode cX5_hearts 15 = .ok (.ifCond .eq 7, 3) := by decide +kernel
theorem dX5_hearts_18 : decode cX5_hearts 18 = .ok (.iconst 1, 1) := by decide +kernel
theorem dX5_hearts_19 : decode cX5_hearts 19 = .ok (.goto 4, 3) := by decide +kernel
theorem dX5_hearts_22 : decode cX5_hearts 22 = .ok (.iconst 0, 1) := by decide +kernel
theorem dX5_hearts_23 : decode cX5_hearts 23 = .ok (.invokestatic 82, 3) := by decide +kernel
theorem dX5_hearts_26 : decode cX5_hearts 26 = .ok (.iload_n 3, 1) := by decide +kernel
theorem dX5_hearts_27 : decode cX5_hearts 27 = .ok (.iconst 0, 1) := by decide +kernel
theorem dX5_hearts_28 : decode cX5_hearts 28 = .ok (.bipush 30, 2) := by decide +kernel
theorem dX5_hearts_30 : decode cX5_hearts 30 = .ok (.invokestatic 43, 3) := by decide +kernel
theorem dX5_hearts_33 : decode cX5_hearts 33 = .ok (.iconst 0, 1) := by decide +kernel
theorem dX5_hearts_34 : decode cX5_hearts 34 = .ok (.invokestatic 55, 3) := by decide +kernel
theorem dX5_hearts_37 : decode cX5_hearts 37 = .ok (.istore 4, 2) := by decide +kernel
theorem dX5_hearts_39 : decode cX5_hearts 39 = .ok (.iload 4, 2) := by decide +kernel
theorem dX5_hearts_41 : decode cX5_hearts 41 = .ok (.ifCond .eq 10, 3) := by decide +kernel
theorem dX5_hearts_44 : decode cX5_hearts 44 = .ok (.aload_n 0, 1) := by decide +kernel
theorem dX5_hearts_45 : decode cX5_hearts 45 = .ok (.iload 4, 2) := by decide +kernel
theorem dX5_hearts_47 : decode cX5_hearts 47 = .ok (.invokevirtual 58, 3) := by decide +kernel
theorem dX5_hearts_50 : decode cX5_hearts 50 = .ok (.ireturn, 1) := by decide +kernel
theorem dX5_hearts_51 : decode cX5_hearts 51 = .ok (.aload_n 0, 1) := by decide +kernel
theorem dX5_hearts_52 : decode cX5_hearts 52 = .ok (.getfield 10, 3) := by decide +kernel
theorem dX5_hearts_55 : decode cX5_hearts 55 = .ok (.iload_n 1, 1) := by decide +kernel
theorem dX5_hearts_56 : decode cX5_hearts 56 = .ok (.iload_n 2, 1) := by decide +kernel
theorem dX5_hearts_57 : decode cX5_hearts 57 = .ok (.invokevirtual 95, 3) := by decide +kernel
theorem dX5_hearts_60 : decode cX5_hearts 60 = .ok (.istore 5, 2) := by decide +kernel
theorem dX5_hearts_62 : decode cX5_hearts 62 = .ok (.aload_n 0, 1) := by decide +kernel
theorem dX5_hearts_63 : decode cX5_hearts 63 = .ok (.getfield 10, 3) := by decide +kernel
theorem dX5_hearts_66 : decode cX5_hearts 66 = .ok (.iload_n 1, 1) := by decide +kernel
theorem dX5_hearts_67 : decode cX5_hearts 67 = .ok (.iload_n 2, 1) := by decide +kernel
theorem dX5_hearts_68 : decode cX5_hearts 68 = .ok (.iload_n 3, 1) := by decide +kernel
theorem dX5_hearts_69 : decode cX5_hearts 69 = .ok (.invokevirtual 128, 3) := by decide +kernel
theorem dX5_hearts_72 : decode cX5_hearts 72 = .ok (.iload 5, 2) := by decide +kernel
theorem dX5_hearts_74 : decode cX5_hearts 74 = .ok (.ireturn, 1) := by decide +kernel
theorem dX5_steps_0 : decode cX5_steps 0 = .ok (.iload_n 1, 1) := by decide +kernel
theorem dX5_steps_1 : decode cX5_steps 1 = .ok (.iconst 0, 1) := by decide +kernel
theorem dX5_steps_2 : decode cX5_steps 2 = .ok (.iconst 5, 1) := by decide +kernel
theorem dX5_steps_3 : decode cX5_steps 3 = .ok (.invokestatic 43, 3) := by decide +kernel
theorem dX5_steps_6 : decode cX5_steps 6 = .ok (.istore_n 2, 1) := by decide +kernel
theorem dX5_steps_7 : decode cX5_steps 7 = .ok (.iload_n 2, 1) := by decide +kernel
theorem dX5_steps_8 : decode cX5_steps 8 = .ok (.ifCond .eq 9, 3) := by decide +kernel
theorem dX5_steps_11 : decode cX5_steps 11 = .ok (.aload_n 0, 1) := by decide +kernel
theorem dX5_steps_12 : decode cX5_steps 12 = .ok (.iload_n 2, 1) := by decide +kernel
theorem dX5_steps_13 : decode cX5_steps 13 = .ok (.invokevirtual 58, 3) := by decide +kernel
theorem dX5_steps_16 : decode cX5_steps 16 = .ok (.ireturn, 1) := by decide +kernel
theorem dX5_steps_17 : decode cX5_steps 17 = .ok (.aload_n 0, 1) := by decide +kernel
theorem dX5_steps_18 : decode cX5_steps 18 = .ok (.getfield 10, 3) := by decide +kernel
theorem dX5_steps_21 : decode cX5_steps 21 = .ok (.getfield 132, 3) := by decide +kernel
theorem dX5_steps_24 : decode cX5_steps 24 = .ok (.istore_n 3, 1) := by decide +kernel
theorem dX5_steps_25 : decode cX5_steps 25 = .ok (.aload_n 0, 1) := by decide +kernel
theorem dX5_steps_26 : decode cX5_steps 26 = .ok (.getfield 10, 3) := by decide +kernel
theorem dX5_steps_29 : decode cX5_steps 29 = .ok (.iload_n 1, 1) := by decide +kernel
theorem dX5_steps_30 : decode cX5_steps 30 = .ok (.putfield 132, 3) := by decide +kernel
theorem dX5_steps_33 : decode cX5_steps 33 = .ok (.iload_n 3, 1) := by decide +kernel
theorem dX5_steps_34 : decode cX5_steps 34 = .ok (.ireturn, 1) := by decide +kernel
theorem dX5_tires_0 : decode cX5_tires 0 = .ok (.aload_n 0, 1) := by decide +kernel
theorem dX5_tires_1 : decode cX5_tires 1 = .ok (.getfield 10, 3) := by decide +kernel
theorem dX5_tires_4 : decode cX5_tires 4 = .ok (.iload_n 1, 1) := by decide +kernel
theorem dX5_tires_5 : decode cX5_tires 5 = .ok (.invokevirtual 98, 3) := by decide +kernel
theorem dX5_tires_8 : decode cX5_tires 8 = .ok (.invokestatic 82, 3) := by decide +kernel
theorem dX5_tires_11 : decode cX5_tires 11 = .ok (.iload_n 2, 1) := by decide +kernel
theorem dX5_tires_12 : decode cX5_tires 12 = .ok (.iconst 0, 1) := by decide +kernel
theorem dX5_tires_13 : decode cX5_tires 13 = .ok (.bipush 20, 2) := by decide +kernel
theorem dX5_tires_15 : decode cX5_tires 15 = .ok (.invokestatic 43, 3) := by decide +kernel
theorem dX5_tires_18 : decode cX5_tires 18 = .ok (.iconst 0, 1) := by decide +kernel
theorem dX5_tires_19 : decode cX5_tires 19 = .ok (.invokestatic 55, 3) := by decide +kernel
theorem dX5_tires_22 : decode cX5_tires 22 = .ok (.istore_n 3, 1) := by decide +kernel
theorem dX5_tires_23 : decode cX5_tires 23 = .ok (.iload_n 3, 1) := by decide +kernel
theorem dX5_tires_24 : decode cX5_tires 24 = .ok (.ifCond .eq 9, 3) := by decide +kernel
theorem dX5_tires_27 : decode cX5_tires 27 = .ok (.aload_n 0, 1) := by decide +kernel
theorem dX5_tires_28 : decode cX5_tires 28 = .ok (.iload_n 3, 1) := by decide +kernel
theorem dX5_tires_29 : decode cX5_tires 29 = .ok (.invokevirtual 58, 3) := by decide +kernel
theorem dX5_tires_32 : decode cX5_tires 32 = .ok (.ireturn, 1) := by decide +kernel
theorem dX5_tires_33 : decode cX5_tires 33 = .ok (.aload_n 0, 1) := by decide +kernel
theorem dX5_tires_34 : decode cX5_tires 34 = .ok (.getfield 10, 3) := by decide +kernel
theorem dX5_tires_37 : decode cX5_tires 37 = .ok (.getfield 107, 3) := by decide +kernel
theorem dX5_tires_40 : decode cX5_tires 40 = .ok (.iload_n 1, 1) := by decide +kernel
theorem dX5_tires_41 : decode cX5_tires 41 = .ok (.iaload, 1) := by decide +kernel
theorem dX5_tires_42 : decode cX5_tires 42 = .ok (.istore 4, 2) := by decide +kernel
theorem dX5_tires_44 : decode cX5_tires 44 = .ok (.aload_n 0, 1) := by decide +kernel
theorem dX5_tires_45 : decode cX5_tires 45 = .ok (.getfield 10, 3) := by decide +kernel
theorem dX5_tires_48 : decode cX5_tires 48 = .ok (.getfield 107, 3) := by decide +kernel
theorem dX5_tires_51 : decode cX5_tires 51 = .ok (.iload_n 1, 1) := by decide +kernel
theorem dX5_tires_52 : decode cX5_tires 52 = .ok (.iload_n 2, 1) := by decide +kernel
theorem dX5_tires_53 : decode cX5_tires 53 = .ok (.iastore, 1) := by decide +kernel
theorem dX5_tires_54 : decode cX5_tires 54 = .ok (.iload 4, 2) := by decide +kernel
theorem dX5_tires_56 : decode cX5_tires 56 = .ok (.ireturn, 1) := by decide +kernel
theorem dX5_turn_0 : decode cX5_turn 0 = .ok (.aload_n 0, 1) := by decide +kernel
theorem dX5_turn_1 : decode cX5_turn 1 = .ok (.getfield 10, 3) := by decide +kernel
theorem dX5_turn_4 : decode cX5_turn 4 = .ok (.iload_n 1, 1) := by decide +kernel
theorem dX5_turn_5 : decode cX5_turn 5 = .ok (.invokevirtual 98, 3) := by decide +kernel
theorem dX5_turn_8 : decode cX5_turn 8 = .ok (.invokestatic 82, 3) := by decide +kernel
theorem dX5_turn_11 : decode cX5_turn 11 = .ok (.iload_n 2, 1) := by decide +kernel
theorem dX5_turn_12 : decode cX5_turn 12 = .ok (.iconst 5, 1) := by decide +kernel
theorem dX5_turn_13 : decode cX5_turn 13 = .ok (.invokestatic 85, 3) := by decide +kernel
theorem dX5_turn_16 : decode cX5_turn 16 = .ok (.iload_n 3, 1) := by decide +kernel
theorem dX5_turn_17 : decode cX5_turn 17 = .ok (.iconst 0, 1) := by decide +kernel
theorem dX5_turn_18 : decode cX5_turn 18 = .ok (.bipush 9, 2) := by decide +kernel
theorem dX5_turn_20 : decode cX5_turn 20 = .ok (.invokestatic 43, 3) := by decide +kernel
theorem dX5_turn_23 : decode cX5_turn 23 = .ok (.invokestatic 55, 3) := by decide +kernel
theorem dX5_turn_26 : decode cX5_turn 26 = .ok (.istore 4, 2) := by decide +kernel
theorem dX5_turn_28 : decode cX5_turn 28 = .ok (.iload 4, 2) := by decide +kernel
theorem dX5_turn_30 : decode cX5_turn 30 = .ok (.ifCond .eq 10, 3) := by decide +kernel
theorem dX5_turn_33 : decode cX5_turn 33 = .ok (.aload_n 0, 1) := by decide +kernel
theorem dX5_turn_34 : decode cX5_turn 34 = .ok (.iload 4, 2) := by decide +kernel
theorem dX5_turn_36 : decode cX5_turn 36 = .ok (.invokevirtual 58, 3) := by decide +kernel
theorem dX5_turn_39 : decode cX5_turn 39 = .ok (.ireturn, 1) := by decide +kernel
theorem dX5_turn_40 : decode cX5_turn 40 = .ok (.bipush 10, 2) := by decide +kernel
theorem dX5_turn_42 : decode cX5_turn 42 = .ok (.aload_n 0, 1) := by decide +kernel
theorem dX5_turn_43 : decode cX5_turn 43 = .ok (.getfield 10, 3) := by decide +kernel
theorem dX5_turn_46 : decode cX5_turn 46 = .ok (.getfield 101, 3) := by decide +kernel
theorem dX5_turn_49 : decode cX5_turn 49 = .ok (.iload_n 1, 1) := by decide +kernel
theorem dX5_turn_50 : decode cX5_turn 50 = .ok (.iaload, 1) := by decide +kernel
theorem dX5_turn_51 : decode cX5_turn 51 = .ok (.imul, 1) := by decide +kernel
theorem dX5_turn_52 : decode cX5_turn 52 = .ok (.aload_n 0, 1) := by decide +kernel
theorem dX5_turn_53 : decode cX5_turn 53 = .ok (.getfield 10, 3) := by decide +kernel
theorem dX5_turn_56 : decode cX5_turn 56 = .ok (.getfield 104, 3) := by decide +kernel
theorem dX5_turn_59 : decode cX5_turn 59 = .ok (.iload_n 1, 1) := by decide +kernel
theorem dX5_turn_60 : decode cX5_turn 60 = .ok (.iaload, 1) := by decide +kernel
theorem dX5_turn_61 : decode cX5_turn 61 = .ok (.iadd, 1) := by decide +kernel
theorem dX5_turn_62 : decode cX5_turn 62 = .ok (.istore 5, 2) := by decide +kernel
theorem dX5_turn_64 : decode cX5_turn 64 = .ok (.aload_n 0, 1) := by decide +kernel
theorem dX5_turn_65 : decode cX5_turn 65 = .ok (.getfield 10, 3) := by decide +kernel
theorem dX5_turn_68 : decode cX5_turn 68 = .ok (.getfield 101, 3) := by decide +kernel
theorem dX5_turn_71 : decode cX5_turn 71 = .ok (.iload_n 1, 1) := by decide +kernel
theorem dX5_turn_72 : decode cX5_turn 72 = .ok (.iload_n 2, 1) := by decide +kernel
theorem dX5_turn_73 : decode cX5_turn 73 = .ok (.iastore, 1) := by decide +kernel
theorem dX5_turn_74 : decode cX5_turn 74 = .ok (.aload_n 0, 1) := by decide +kernel
theorem dX5_turn_75 : decode cX5_turn 75 = .ok (.getfield 10, 3) := by decide +kernel
theorem dX5_turn_78 : decode cX5_turn 78 = .ok (.getfield 104, 3) := by decide +kernel
theorem dX5_turn_81 : decode cX5_turn 81 = .ok (.iload_n 1, 1) := by decide +kernel
theorem dX5_turn_82 : decode cX5_turn 82 = .ok (.iload_n 3, 1) := by decide +kernel
theorem dX5_turn_83 : decode cX5_turn 83 = .ok (.iastore, 1) := by decide +kernel
theorem dX5_turn_84 : decode cX5_turn 84 = .ok (.iload 5, 2) := by decide +kernel
theorem dX5_turn_86 : decode cX5_turn 86 = .ok (.ireturn, 1) := by decide +kernel
theorem dX5_years_0 : decode cX5_years 0 = .ok (.iload_n 1, 1) := by decide +kernel
theorem dX5_years_1 : decode cX5_years 1 = .ok (.iconst 1, 1) := by decide +kernel
theorem dX5_years_2 : decode cX5_years 2 = .ok (.bipush 60, 2) := by decide +kernel
theorem dX5_years_4 : decode cX5_years 4 = .ok (.invokestatic 43, 3) := by decide +kernel
theorem dX5_years_7 : decode cX5_years 7 = .ok (.aload_n 0, 1) := by decide +kernel
theorem dX5_years_8 : decode cX5_years 8 = .ok (.getfield 10, 3) := by decide +kernel
theorem dX5_years_11 : decode cX5_years 11 = .ok (.iload_n 1, 1) := by decide +kernel
theorem dX5_years_12 : decode cX5_years 12 = .ok (.invokevirtual 135, 3) := by decide +kernel
theorem dX5_years_15 : decode cX5_years 15 = .ok (.invokestatic 51, 3) := by decide +kernel
theorem dX5_years_18 : decode cX5_years 18 = .ok (.iconst 0, 1) := by decide +kernel
theorem dX5_years_19 : decode cX5_years 19 = .ok (.invokestatic 55, 3) := by decide +kernel
theorem dX5_years_22 : decode cX5_years 22 = .ok (.istore_n 2, 1) := by decide +kernel
theorem dX5_years_23 : decode cX5_years 23 = .ok (.iload_n 2, 1) := by decide +kernel
theorem dX5_years_24 : decode cX5_years 24 = .ok (.ifCond .eq 9, 3) := by decide +kernel
theorem dX5_years_27 : decode cX5_years 27 = .ok (.aload_n 0, 1) := by decide +kernel
theorem dX5_years_28 : decode cX5_years 28 = .ok (.iload_n 2, 1) := by decide +kernel
theorem dX5_years_29 : decode cX5_years 29 = .ok (.invokevirtual 58, 3) := by decide +kernel
theorem dX5_years_32 : decode cX5_years 32 = .ok (.ireturn, 1) := by decide +kernel
theorem dX5_years_33 : decode cX5_years 33 = .ok (.aload_n 0, 1) := by decide +kernel
theorem dX5_years_34 : decode cX5_years 34 = .ok (.getfield 10, 3) := by decide +kernel
theorem dX5_years_37 : decode cX5_years 37 = .ok (.iload_n 1, 1) := by decide +kernel
theorem dX5_years_38 : decode cX5_years 38 = .ok (.invokevirtual 138, 3) := by decide +kernel
theorem dX5_years_41 : decode cX5_years 41 = .ok (.pop, 1) := by decide +kernel
theorem dX5_years_42 : decode cX5_years 42 = .ok (.aload_n 0, 1) := by decide +kernel
theorem dX5_years_43 : decode cX5_years 43 = .ok (.getfield 10, 3) := by decide +kernel
theorem dX5_years_46 : decode cX5_years 46 = .ok (.getfield 141, 3) := by decide +kernel
theorem dX5_years_49 : decode cX5_years 49 = .ok (.ireturn, 1) := by decide +kernel
theorem dX5_heartThen_0 : decode cX5_heartThen 0 = .ok (.aload_n 0, 1) := by decide +kernel
theorem dX5_heartThen_1 : decode cX5_heartThen 1 = .ok (.getfield 10, 3) := by decide +kernel
theorem dX5_heartThen_4 : decode cX5_heartThen 4 = .ok (.iload_n 1, 1) := by decide +kernel
theorem dX5_heartThen_5 : decode cX5_heartThen 5 = .ok (.invokevirtual 78, 3) := by decide +kernel
theorem dX5_heartThen_8 : decode cX5_heartThen 8 = .ok (.ifCond .eq 14, 3) := by decide +kernel
theorem dX5_heartThen_11 : decode cX5_heartThen 11 = .ok (.iload_n 2, 1) := by decide +kernel
theorem dX5_heartThen_12 : decode cX5_heartThen 12 = .ok (.invokestatic 125, 3) := by decide +kernel
theorem dX5_heartThen_15 : decode cX5_heartThen 15 = .ok (.ifCond .eq 7, 3) := by decide +kernel
theorem dX5_heartThen_18 : decode cX5_heartThen 18 = .ok (.iconst 1, 1) := by decide +kernel
theorem dX5_heartThen_19 : decode cX5_heartThen 19 = .ok (.goto 4, 3) := by decide +kernel
theorem dX5_heartThen_22 : decode cX5_heartThen 22 = .ok (.iconst 0, 1) := by decide +kernel
theorem dX5_heartThen_23 : decode cX5_heartThen 23 = .ok (.invokestatic 82, 3) := by decide +kernel
theorem dX5_heartThen_26 : decode cX5_heartThen 26 = .ok (.iload_n 3, 1) := by decide +kernel
theorem dX5_heartThen_27 : decode cX5_heartThen 27 = .ok (.iconst 0, 1) := by decide +kernel
theorem dX5_heartThen_28 : decode cX5_heartThen 28 = .ok (.bipush 60, 2) := by decide +kernel
theorem dX5_heartThen_30 : decode cX5_heartThen 30 = .ok (.invokestatic 43, 3) := by decide +kernel
theorem dX5_heartThen_33 : decode cX5_heartThen 33 = .ok (.iconst 0, 1) := by decide +kernel
theorem dX5_heartThen_34 : decode cX5_heartThen 34 = .ok (.invokestatic 55, 3) := by decide +kernel
theorem dX5_heartThen_37 : decode cX5_heartThen 37 = .ok (.istore 4, 2) := by decide +kernel
theorem dX5_heartThen_39 : decode cX5_heartThen 39 = .ok (.iload 4, 2) := by decide +kernel
theorem dX5_heartThen_41 : decode cX5_heartThen 41 = .ok (.ifCond .eq 12, 3) := by decide +kernel
theorem dX5_heartThen_44 : decode cX5_heartThen 44 = .ok (.aload_n 0, 1) := by decide +kernel
theorem dX5_heartThen_45 : decode cX5_heartThen 45 = .ok (.iload 4, 2) := by decide +kernel
theorem dX5_heartThen_47 : decode cX5_heartThen 47 = .ok (.invokevirtual 58, 3) := by decide +kernel
theorem dX5_heartThen_50 : decode cX5_heartThen 50 = .ok (.goto 20, 3) := by decide +kernel
theorem dX5_heartThen_53 : decode cX5_heartThen 53 = .ok (.aload_n 0, 1) := by decide +kernel
theorem dX5_heartThen_54 : decode cX5_heartThen 54 = .ok (.getfield 32, 3) := by decide +kernel
theorem dX5_heartThen_57 : decode cX5_heartThen 57 = .ok (.aload_n 0, 1) := by decide +kernel
theorem dX5_heartThen_58 : decode cX5_heartThen 58 = .ok (.getfield 10, 3) := by decide +kernel
theorem dX5_heartThen_61 : decode cX5_heartThen 61 = .ok (.iload_n 3, 1) := by decide +kernel
theorem dX5_heartThen_62 : decode cX5_heartThen 62 = .ok (.invokevirtual 144, 3) := by decide +kernel
theorem dX5_heartThen_65 : decode cX5_heartThen 65 = .ok (.iload_n 1, 1) := by decide +kernel
theorem dX5_heartThen_66 : decode cX5_heartThen 66 = .ok (.iload_n 2, 1) := by decide +kernel
theorem dX5_heartThen_67 : decode cX5_heartThen 67 = .ok (.invokevirtual 95, 3) := by decide +kernel
theorem dX5_heartThen_70 : decode cX5_heartThen 70 = .ok (.ireturn, 1) := by decide +kernel
theorem dX5_farmerThen_0 : decode cX5_farmerThen 0 = .ok (.aload_n 0, 1) := by decide +kernel
theorem dX5_farmerThen_1 : decode cX5_farmerThen 1 = .ok (.getfield 10, 3) := by decide +kernel
theorem dX5_farmerThen_4 : decode cX5_farmerThen 4 = .ok (.iload_n 1, 1) := by decide +kernel
theorem dX5_farmerThen_5 : decode cX5_farmerThen 5 = .ok (.invokevirtual 98, 3) := by decide +kernel
theorem dX5_farmerThen_8 : decode cX5_farmerThen 8 = .ok (.invokestatic 82, 3) := by decide +kernel
theorem dX5_farmerThen_11 : decode cX5_farmerThen 11 = .ok (.iload_n 2, 1) := by decide +kernel
theorem dX5_farmerThen_12 : decode cX5_farmerThen 12 = .ok (.iconst 0, 1) := by decide +kernel
theorem dX5_farmerThen_13 : decode cX5_farmerThen 13 = .ok (.bipush 60, 2) := by decide +kernel
theorem dX5_farmerThen_15 : decode cX5_farmerThen 15 = .ok (.invokestatic 43, 3) := by decide +kernel
theorem dX5_farmerThen_18 : decode cX5_farmerThen 18 = .ok (.iload_n 3, 1) := by decide +kernel
theorem dX5_farmerThen_19 : decode cX5_farmerThen 19 = .ok (.iconst 1, 1) := by decide +kernel
theorem dX5_farmerThen_20 : decode cX5_farmerThen 20 = .ok (.invokestatic 85, 3) := by decide +kernel
theorem dX5_farmerThen_23 : decode cX5_farmerThen 23 = .ok (.invokestatic 55, 3) := by decide +kernel
theorem dX5_farmerThen_26 : decode cX5_farmerThen 26 = .ok (.istore 4, 2) := by decide +kernel
theorem dX5_farmerThen_28 : decode cX5_farmerThen 28 = .ok (.iload 4, 2) := by decide +kernel
theorem dX5_farmerThen_30 : decode cX5_farmerThen 30 = .ok (.ifCond .eq 10, 3) := by decide +kernel
theorem dX5_farmerThen_33 : decode cX5_farmerThen 33 = .ok (.aload_n 0, 1) := by decide +kernel
theorem dX5_farmerThen_34 : decode cX5_farmerThen 34 = .ok (.iload 4, 2) := by decide +kernel
theorem dX5_farmerThen_36 : decode cX5_farmerThen 36 = .ok (.invokevirtual 58, 3) := by decide +kernel
theorem dX5_farmerThen_39 : decode cX5_farmerThen 39 = .ok (.ireturn, 1) := by decide +kernel
theorem dX5_farmerThen_40 : decode cX5_farmerThen 40 = .ok (.aload_n 0, 1) := by decide +kernel
theorem dX5_farmerThen_41 : decode cX5_farmerThen 41 = .ok (.getfield 32, 3) := by decide +kernel
theorem dX5_farmerThen_44 : decode cX5_farmerThen 44 = .ok (.aload_n 0, 1) := by decide +kernel
theorem dX5_farmerThen_45 : decode cX5_farmerThen 45 = .ok (.getfield 10, 3) := by decide +kernel
theorem dX5_farmerThen_48 : decode cX5_farmerThen 48 = .ok (.iload_n 2, 1) := by decide +kernel
theorem dX5_farmerThen_49 : decode cX5_farmerThen 49 = .ok (.invokevirtual 144, 3) := by decide +kernel
theorem dX5_farmerThen_52 : decode cX5_farmerThen 52 = .ok (.astore 5, 2) := by decide +kernel
theorem dX5_farmerThen_54 : decode cX5_farmerThen 54 = .ok (.iload_n 3, 1) := by decide +kernel
theorem dX5_farmerThen_55 : decode cX5_farmerThen 55 = .ok (.ifCond .ne 13, 3) := by decide +kernel
theorem dX5_farmerThen_58 : decode cX5_farmerThen 58 = .ok (.aload 5, 2) := by decide +kernel
theorem dX5_farmerThen_60 : decode cX5_farmerThen 60 = .ok (.getfield 107, 3) := by decide +kernel
theorem dX5_farmerThen_63 : decode cX5_farmerThen 63 = .ok (.iload_n 1, 1) := by decide +kernel
theorem dX5_farmerThen_64 : decode cX5_farmerThen 64 = .ok (.iaload, 1) := by decide +kernel
theorem dX5_farmerThen_65 : decode cX5_farmerThen 65 = .ok (.goto 10, 3) := by decide +kernel
theorem dX5_farmerThen_68 : decode cX5_farmerThen 68 = .ok (.aload 5, 2) := by decide +kernel
theorem dX5_farmerThen_70 : decode cX5_farmerThen 70 = .ok (.getfield 110, 3) := by decide +kernel
theorem dX5_farmerThen_73 : decode cX5_farmerThen 73 = .ok (.iload_n 1, 1) := by decide +kernel
theorem dX5_farmerThen_74 : decode cX5_farmerThen 74 = .ok (.iaload, 1) := by decide +kernel
theorem dX5_farmerThen_75 : decode cX5_farmerThen 75 = .ok (.ireturn, 1) := by decide +kernel
theorem dX5_barnThen_0 : decode cX5_barnThen 0 = .ok (.iload_n 1, 1) := by decide +kernel
theorem dX5_barnThen_1 : decode cX5_barnThen 1 = .ok (.iconst 0, 1) := by decide +kernel
theorem dX5_barnThen_2 : decode cX5_barnThen 2 = .ok (.bipush 60, 2) := by decide +kernel
theorem dX5_barnThen_4 : decode cX5_barnThen 4 = .ok (.invokestatic 43, 3) := by decide +kernel
theorem dX5_barnThen_7 : decode cX5_barnThen 7 = .ok (.istore_n 2, 1) := by decide +kernel
theorem dX5_barnThen_8 : decode cX5_barnThen 8 = .ok (.iload_n 2, 1) := by decide +kernel
theorem dX5_barnThen_9 : decode cX5_barnThen 9 = .ok (.ifCond .eq 11, 3) := by decide +kernel
theorem dX5_barnThen_12 : decode cX5_barnThen 12 = .ok (.aload_n 0, 1) := by decide +kernel
theorem dX5_barnThen_13 : decode cX5_barnThen 13 = .ok (.iload_n 2, 1) := by decide +kernel
theorem dX5_barnThen_14 : decode cX5_barnThen 14 = .ok (.invokevirtual 58, 3) := by decide +kernel
theorem dX5_barnThen_17 : decode cX5_barnThen 17 = .ok (.goto 18, 3) := by decide +kernel
theorem dX5_barnThen_20 : decode cX5_barnThen 20 = .ok (.aload_n 0, 1) := by decide +kernel
theorem dX5_barnThen_21 : decode cX5_barnThen 21 = .ok (.getfield 32, 3) := by decide +kernel
theorem dX5_barnThen_24 : decode cX5_barnThen 24 = .ok (.aload_n 0, 1) := by decide +kernel
theorem dX5_barnThen_25 : decode cX5_barnThen 25 = .ok (.getfield 10, 3) := by decide +kernel
theorem dX5_barnThen_28 : decode cX5_barnThen 28 = .ok (.iload_n 1, 1) := by decide +kernel
theorem dX5_barnThen_29 : decode cX5_barnThen 29 = .ok (.invokevirtual 144, 3) := by decide +kernel
theorem dX5_barnThen_32 : decode cX5_barnThen 32 = .ok (.getfield 141, 3) := by decide +kernel
theorem dX5_barnThen_35 : decode cX5_barnThen 35 = .ok (.ireturn, 1) := by decide +kernel
theorem dX5_greenest_0 : decode cX5_greenest 0 = .ok (.aload_n 0, 1) := by decide +kernel
theorem dX5_greenest_1 : decode cX5_greenest 1 = .ok (.getfield 10, 3) := by decide +kernel
theorem dX5_greenest_4 : decode cX5_greenest 4 = .ok (.invokevirtual 148, 3) := by decide +kernel
theorem dX5_greenest_7 : decode cX5_greenest 7 = .ok (.ireturn, 1) := by decide +kernel
theorem dX5_lost_0 : decode cX5_lost 0 = .ok (.iload_n 1, 1) := by decide +kernel
theorem dX5_lost_1 : decode cX5_lost 1 = .ok (.iconst 1, 1) := by decide +kernel
theorem dX5_lost_2 : decode cX5_lost 2 = .ok (.invokestatic 85, 3) := by decide +kernel
theorem dX5_lost_5 : decode cX5_lost 5 = .ok (.istore_n 2, 1) := by decide +kernel
theorem dX5_lost_6 : decode cX5_lost 6 = .ok (.iload_n 2, 1) := by decide +kernel
theorem dX5_lost_7 : decode cX5_lost 7 = .ok (.ifCond .eq 9, 3) := by decide +kernel
theorem dX5_lost_10 : decode cX5_lost 10 = .ok (.aload_n 0, 1) := by decide +kernel
theorem dX5_lost_11 : decode cX5_lost 11 = .ok (.iload_n 2, 1) := by decide +kernel
theorem dX5_lost_12 : decode cX5_lost 12 = .ok (.invokevirtual 58, 3) := by decide +kernel
theorem dX5_lost_15 : decode cX5_lost 15 = .ok (.ireturn, 1) := by decide +kernel
theorem dX5_lost_16 : decode cX5_lost 16 = .ok (.iload_n 1, 1) := by decide +kernel
theorem dX5_lost_17 : decode cX5_lost 17 = .ok (.ifCond .ne 17, 3) := by decide +kernel
theorem dX5_lost_20 : decode cX5_lost 20 = .ok (.aload_n 0, 1) := by decide +kernel
theorem dX5_lost_21 : decode cX5_lost 21 = .ok (.getfield 32, 3) := by decide +kernel
theorem dX5_lost_24 : decode cX5_lost 24 = .ok (.aload_n 0, 1) := by decide +kernel
theorem dX5_lost_25 : decode cX5_lost 25 = .ok (.getfield 10, 3) := by decide +kernel
theorem dX5_lost_28 : decode cX5_lost 28 = .ok (.invokevirtual 152, 3) := by decide +kernel
theorem dX5_lost_31 : decode cX5_lost 31 = .ok (.goto 14, 3) := by decide +kernel
theorem dX5_lost_34 : decode cX5_lost 34 = .ok (.aload_n 0, 1) := by decide +kernel
theorem dX5_lost_35 : decode cX5_lost 35 = .ok (.getfield 32, 3) := by decide +kernel
theorem dX5_lost_38 : decode cX5_lost 38 = .ok (.aload_n 0, 1) := by decide +kernel
theorem dX5_lost_39 : decode cX5_lost 39 = .ok (.getfield 10, 3) := by decide +kernel
theorem dX5_lost_42 : decode cX5_lost 42 = .ok (.invokevirtual 155, 3) := by decide +kernel
theorem dX5_lost_45 : decode cX5_lost 45 = .ok (.ireturn, 1) := by decide +kernel
theorem dX5_crop_0 : decode cX5_crop 0 = .ok (.iload_n 1, 1) := by decide +kernel
theorem dX5_crop_1 : decode cX5_crop 1 = .ok (.iconst (-1), 1) := by decide +kernel
theorem dX5_crop_2 : decode cX5_crop 2 = .ok (.if_icmp .eq 14, 3) := by decide +kernel
theorem dX5_crop_5 : decode cX5_crop 5 = .ok (.aload_n 0, 1) := by decide +kernel
theorem dX5_crop_6 : decode cX5_crop 6 = .ok (.getfield 10, 3) := by decide +kernel
theorem dX5_crop_9 : decode cX5_crop 9 = .ok (.iload_n 1, 1) := by decide +kernel
theorem dX5_crop_10 : decode cX5_crop 10 = .ok (.invokevirtual 78, 3) := by decide +kernel
theorem dX5_crop_13 : decode cX5_crop 13 = .ok (.ifCond .eq 7, 3) := by decide +kernel
theorem dX5_crop_16 : decode cX5_crop 16 = .ok (.iconst 1, 1) := by decide +kernel
theorem dX5_crop_17 : decode cX5_crop 17 = .ok (.goto 4, 3) := by decide +kernel
theorem dX5_crop_20 : decode cX5_crop 20 = .ok (.iconst 0, 1) := by decide +kernel
theorem dX5_crop_21 : decode cX5_crop 21 = .ok (.invokestatic 82, 3) := by decide +kernel
theorem dX5_crop_24 : decode cX5_crop 24 = .ok (.iload_n 2, 1) := by decide +kernel
theorem dX5_crop_25 : decode cX5_crop 25 = .ok (.iconst 1, 1) := by decide +kernel
theorem dX5_crop_26 : decode cX5_crop 26 = .ok (.bipush 60, 2) := by decide +kernel
theorem dX5_crop_28 : decode cX5_crop 28 = .ok (.invokestatic 43, 3) := by decide +kernel
theorem dX5_crop_31 : decode cX5_crop 31 = .ok (.iconst 0, 1) := by decide +kernel
theorem dX5_crop_32 : decode cX5_crop 32 = .ok (.invokestatic 55, 3) := by decide +kernel
theorem dX5_crop_35 : decode cX5_crop 35 = .ok (.istore_n 3, 1) := by decide +kernel
theorem dX5_crop_36 : decode cX5_crop 36 = .ok (.iload_n 3, 1) := by decide +kernel
theorem dX5_crop_37 : decode cX5_crop 37 = .ok (.ifCond .eq 9, 3) := by decide +kernel
theorem dX5_crop_40 : decode cX5_crop 40 = .ok (.aload_n 0, 1) := by decide +kernel
theorem dX5_crop_41 : decode cX5_crop 41 = .ok (.iload_n 3, 1) := by decide +kernel
theorem dX5_crop_42 : decode cX5_crop 42 = .ok (.invokevirtual 58, 3) := by decide +kernel
theorem dX5_crop_45 : decode cX5_crop 45 = .ok (.ireturn, 1) := by decide +kernel
theorem dX5_crop_46 : decode cX5_crop 46 = .ok (.iload_n 1, 1) := by decide +kernel
theorem dX5_crop_47 : decode cX5_crop 47 = .ok (.iconst (-1), 1) := by decide +kernel
theorem dX5_crop_48 : decode cX5_crop 48 = .ok (.if_icmp .ne 18, 3) := by decide +kernel
theorem dX5_crop_51 : decode cX5_crop 51 = .ok (.aload_n 0, 1) := by decide +kernel
theorem dX5_crop_52 : decode cX5_crop 52 = .ok (.getfield 32, 3) := by decide +kernel
theorem dX5_crop_55 : decode cX5_crop 55 = .ok (.aload_n 0, 1) := by decide +kernel
theorem dX5_crop_56 : decode cX5_crop 56 = .ok (.getfield 10, 3) := by decide +kernel
theorem dX5_crop_59 : decode cX5_crop 59 = .ok (.iload_n 2, 1) := by decide +kernel
theorem dX5_crop_60 : decode cX5_crop 60 = .ok (.invokevirtual 158, 3) := by decide +kernel
theorem dX5_crop_63 : decode cX5_crop 63 = .ok (.goto 16, 3) := by decide +kernel
theorem dX5_crop_66 : decode cX5_crop 66 = .ok (.aload_n 0, 1) := by decide +kernel
theorem dX5_crop_67 : decode cX5_crop 67 = .ok (.getfield 32, 3) := by decide +kernel
theorem dX5_crop_70 : decode cX5_crop 70 = .ok (.aload_n 0, 1) := by decide +kernel
theorem dX5_crop_71 : decode cX5_crop 71 = .ok (.getfield 10, 3) := by decide +kernel
theorem dX5_crop_74 : decode cX5_crop 74 = .ok (.iload_n 1, 1) := by decide +kernel
theorem dX5_crop_75 : decode cX5_crop 75 = .ok (.iload_n 2, 1) := by decide +kernel
theorem dX5_crop_76 : decode cX5_crop 76 = .ok (.invokevirtual 162, 3) := by decide +kernel
theorem dX5_crop_79 : decode cX5_crop 79 = .ok (.ireturn, 1) := by decide +kernel
theorem dX5_bestStep_0 : decode cX5_bestStep 0 = .ok (.iload_n 1, 1) := by decide +kernel
theorem dX5_bestStep_1 : decode cX5_bestStep 1 = .ok (.iconst 1, 1) := by decide +kernel
theorem dX5_bestStep_2 : decode cX5_bestStep 2 = .ok (.bipush 30, 2) := by decide +kernel
theorem dX5_bestStep_4 : decode cX5_bestStep 4 = .ok (.invokestatic 43, 3) := by decide +kernel
theorem dX5_bestStep_7 : decode cX5_bestStep 7 = .ok (.iload_n 2, 1) := by decide +kernel
theorem dX5_bestStep_8 : decode cX5_bestStep 8 = .ok (.iconst 1, 1) := by decide +kernel
theorem dX5_bestStep_9 : decode cX5_bestStep 9 = .ok (.invokestatic 85, 3) := by decide +kernel
theorem dX5_bestStep_12 : decode cX5_bestStep 12 = .ok (.iconst 0, 1) := by decide +kernel
theorem dX5_bestStep_13 : decode cX5_bestStep 13 = .ok (.invokestatic 55, 3) := by decide +kernel
theorem dX5_bestStep_16 : decode cX5_bestStep 16 = .ok (.istore_n 3, 1) := by decide +kernel
theorem dX5_bestStep_17 : decode cX5_bestStep 17 = .ok (.iload_n 3, 1) := by decide +kernel
theorem dX5_bestStep_18 : decode cX5_bestStep 18 = .ok (.ifCond .eq 9, 3) := by decide +kernel
theorem dX5_bestStep_21 : decode cX5_bestStep 21 = .ok (.aload_n 0, 1) := by decide +kernel
theorem dX5_bestStep_22 : decode cX5_bestStep 22 = .ok (.iload_n 3, 1) := by decide +kernel
theorem dX5_bestStep_23 : decode cX5_bestStep 23 = .ok (.invokevirtual 58, 3) := by decide +kernel
theorem dX5_bestStep_26 : decode cX5_bestStep 26 = .ok (.ireturn, 1) := by decide +kernel
theorem dX5_bestStep_27 : decode cX5_bestStep 27 = .ok (.aload_n 0, 1) := by decide +kernel
theorem dX5_bestStep_28 : decode cX5_bestStep 28 = .ok (.getfield 32, 3) := by decide +kernel
theorem dX5_bestStep_31 : decode cX5_bestStep 31 = .ok (.aload_n 0, 1) := by decide +kernel
theorem dX5_bestStep_32 : decode cX5_bestStep 32 = .ok (.getfield 10, 3) := by decide +kernel
theorem dX5_bestStep_35 : decode cX5_bestStep 35 = .ok (.iload_n 1, 1) := by decide +kernel
theorem dX5_bestStep_36 : decode cX5_bestStep 36 = .ok (.invokevirtual 166, 3) := by decide +kernel
theorem dX5_bestStep_39 : decode cX5_bestStep 39 = .ok (.istore 4, 2) := by decide +kernel
theorem dX5_bestStep_41 : decode cX5_bestStep 41 = .ok (.iload_n 2, 1) := by decide +kernel
theorem dX5_bestStep_42 : decode cX5_bestStep 42 = .ok (.ifCond .ne 8, 3) := by decide +kernel
theorem dX5_bestStep_45 : decode cX5_bestStep 45 = .ok (.iload 4, 2) := by decide +kernel
theorem dX5_bestStep_47 : decode cX5_bestStep 47 = .ok (.goto 17, 3) := by decide +kernel
theorem dX5_bestStep_50 : decode cX5_bestStep 50 = .ok (.aload_n 0, 1) := by decide +kernel
theorem dX5_bestStep_51 : decode cX5_bestStep 51 = .ok (.getfield 32, 3) := by decide +kernel
theorem dX5_bestStep_54 : decode cX5_bestStep 54 = .ok (.aload_n 0, 1) := by decide +kernel
theorem dX5_bestStep_55 : decode cX5_bestStep 55 = .ok (.getfield 10, 3) := by decide +kernel
theorem dX5_bestStep_58 : decode cX5_bestStep 58 = .ok (.iload 4, 2) := by decide +kernel
theorem dX5_bestStep_60 : decode cX5_bestStep 60 = .ok (.iload_n 1, 1) := by decide +kernel
theorem dX5_bestStep_61 : decode cX5_bestStep 61 = .ok (.invokevirtual 169, 3) := by decide +kernel
theorem dX5_bestStep_64 : decode cX5_bestStep 64 = .ok (.ireturn, 1) := by decide +kernel
theorem dX5_send_0 : decode cX5_send 0 = .ok (.iload_n 1, 1) := by decide +kernel
theorem dX5_send_1 : decode cX5_send 1 = .ok (.iconst 1, 1) := by decide +kernel
theorem dX5_send_2 : decode cX5_send 2 = .ok (.bipush 30, 2) := by decide +kernel
theorem dX5_send_4 : decode cX5_send 4 = .ok (.invokestatic 43, 3) := by decide +kernel
theorem dX5_send_7 : decode cX5_send 7 = .ok (.istore_n 2, 1) := by decide +kernel
theorem dX5_send_8 : decode cX5_send 8 = .ok (.iload_n 2, 1) := by decide +kernel
theorem dX5_send_9 : decode cX5_send 9 = .ok (.ifCond .eq 11, 3) := by decide +kernel
theorem dX5_send_12 : decode cX5_send 12 = .ok (.aload_n 0, 1) := by decide +kernel
theorem dX5_send_13 : decode cX5_send 13 = .ok (.iload_n 2, 1) := by decide +kernel
theorem dX5_send_14 : decode cX5_send 14 = .ok (.invokevirtual 58, 3) := by decide +kernel
theorem dX5_send_17 : decode cX5_send 17 = .ok (.goto 15, 3) := by decide +kernel
theorem dX5_send_20 : decode cX5_send 20 = .ok (.aload_n 0, 1) := by decide +kernel
theorem dX5_send_21 : decode cX5_send 21 = .ok (.getfield 32, 3) := by decide +kernel
theorem dX5_send_24 : decode cX5_send 24 = .ok (.aload_n 0, 1) := by decide +kernel
theorem dX5_send_25 : decode cX5_send 25 = .ok (.getfield 10, 3) := by decide +kernel
theorem dX5_send_28 : decode cX5_send 28 = .ok (.iload_n 1, 1) := by decide +kernel
theorem dX5_send_29 : decode cX5_send 29 = .ok (.invokevirtual 172, 3) := by decide +kernel
theorem dX5_send_32 : decode cX5_send 32 = .ok (.ireturn, 1) := by decide +kernel
theorem dX5_change_0 : decode cX5_change 0 = .ok (.iload_n 1, 1) := by decide +kernel
theorem dX5_change_1 : decode cX5_change 1 = .ok (.iconst 1, 1) := by decide +kernel
theorem dX5_change_2 : decode cX5_change 2 = .ok (.bipush 30, 2) := by decide +kernel
theorem dX5_change_4 : decode cX5_change 4 = .ok (.invokestatic 43, 3) := by decide +kernel
theorem dX5_change_7 : decode cX5_change 7 = .ok (.istore_n 2, 1) := by decide +kernel
theorem dX5_change_8 : decode cX5_change 8 = .ok (.iload_n 2, 1) := by decide +kernel
theorem dX5_change_9 : decode cX5_change 9 = .ok (.ifCond .eq 11, 3) := by decide +kernel
theorem dX5_change_12 : decode cX5_change 12 = .ok (.aload_n 0, 1) := by decide +kernel
theorem dX5_change_13 : decode cX5_change 13 = .ok (.iload_n 2, 1) := by decide +kernel
theorem dX5_change_14 : decode cX5_change 14 = .ok (.invokevirtual 58, 3) := by decide +kernel
theorem dX5_change_17 : decode cX5_change 17 = .ok (.goto 15, 3) := by decide +kernel
theorem dX5_change_20 : decode cX5_change 20 = .ok (.aload_n 0, 1) := by decide +kernel
theorem dX5_change_21 : decode cX5_change 21 = .ok (.getfield 32, 3) := by decide +kernel
theorem dX5_change_24 : decode cX5_change 24 = .ok (.aload_n 0, 1) := by decide +kernel
theorem dX5_change_25 : decode cX5_change 25 = .ok (.getfield 10, 3) := by decide +kernel
theorem dX5_change_28 : decode cX5_change 28 = .ok (.iload_n 1, 1) := by decide +kernel
theorem dX5_change_29 : decode cX5_change 29 = .ok (.invokevirtual 175, 3) := by decide +kernel
theorem dX5_change_32 : decode cX5_change 32 = .ok (.ireturn, 1) := by decide +kernel
theorem dX5_next_0 : decode cX5_next 0 = .ok (.iload_n 1, 1) := by decide +kernel
theorem dX5_next_1 : decode cX5_next 1 = .ok (.iconst (-1), 1) := by decide +kernel
theorem dX5_next_2 : decode cX5_next 2 = .ok (.if_icmp .eq 14, 3) := by decide +kernel
theorem dX5_next_5 : decode cX5_next 5 = .ok (.aload_n 0, 1) := by decide +kernel
theorem dX5_next_6 : decode cX5_next 6 = .ok (.getfield 10, 3) := by decide +kernel
theorem dX5_next_9 : decode cX5_next 9 = .ok (.iload_n 1, 1) := by decide +kernel
theorem dX5_next_10 : decode cX5_next 10 = .ok (.invokevirtual 98, 3) := by decide +kernel
theorem dX5_next_13 : decode cX5_next 13 = .ok (.ifCond .eq 7, 3) := by decide +kernel
theorem dX5_next_16 : decode cX5_next 16 = .ok (.iconst 1, 1) := by decide +kernel
theorem dX5_next_17 : decode cX5_next 17 = .ok (.goto 4, 3) := by decide +kernel
theorem dX5_next_20 : decode cX5_next 20 = .ok (.iconst 0, 1) := by decide +kernel
theorem dX5_next_21 : decode cX5_next 21 = .ok (.invokestatic 82, 3) := by decide +kernel
theorem dX5_next_24 : decode cX5_next 24 = .ok (.istore_n 2, 1) := by decide +kernel
theorem dX5_next_25 : decode cX5_next 25 = .ok (.iload_n 2, 1) := by decide +kernel
theorem dX5_next_26 : decode cX5_next 26 = .ok (.ifCond .eq 9, 3) := by decide +kernel
theorem dX5_next_29 : decode cX5_next 29 = .ok (.aload_n 0, 1) := by decide +kernel
theorem dX5_next_30 : decode cX5_next 30 = .ok (.iload_n 2, 1) := by decide +kernel
theorem dX5_next_31 : decode cX5_next 31 = .ok (.invokevirtual 58, 3) := by decide +kernel
theorem dX5_next_34 : decode cX5_next 34 = .ok (.ireturn, 1) := by decide +kernel
theorem dX5_next_35 : decode cX5_next 35 = .ok (.aload_n 0, 1) := by decide +kernel
theorem dX5_next_36 : decode cX5_next 36 = .ok (.getfield 32, 3) := by decide +kernel
theorem dX5_next_39 : decode cX5_next 39 = .ok (.getfield 178, 3) := by decide +kernel
theorem dX5_next_42 : decode cX5_next 42 = .ok (.aload_n 0, 1) := by decide +kernel
theorem dX5_next_43 : decode cX5_next 43 = .ok (.getfield 10, 3) := by decide +kernel
theorem dX5_next_46 : decode cX5_next 46 = .ok (.invokevirtual 182, 3) := by decide +kernel
theorem dX5_next_49 : decode cX5_next 49 = .ok (.iload_n 1, 1) := by decide +kernel
theorem dX5_next_50 : decode cX5_next 50 = .ok (.iconst (-1), 1) := by decide +kernel
theorem dX5_next_51 : decode cX5_next 51 = .ok (.if_icmp .ne 16, 3) := by decide +kernel
theorem dX5_next_54 : decode cX5_next 54 = .ok (.aload_n 0, 1) := by decide +kernel
theorem dX5_next_55 : decode cX5_next 55 = .ok (.getfield 32, 3) := by decide +kernel
theorem dX5_next_58 : decode cX5_next 58 = .ok (.getfield 178, 3) := by decide +kernel
theorem dX5_next_61 : decode cX5_next 61 = .ok (.invokevirtual 187, 3) := by decide +kernel
theorem dX5_next_64 : decode cX5_next 64 = .ok (.goto 18, 3) := by decide +kernel
theorem dX5_next_67 : decode cX5_next 67 = .ok (.aload_n 0, 1) := by decide +kernel
theorem dX5_next_68 : decode cX5_next 68 = .ok (.getfield 32, 3) := by decide +kernel
theorem dX5_next_71 : decode cX5_next 71 = .ok (.getfield 178, 3) := by decide +kernel
theorem dX5_next_74 : decode cX5_next 74 = .ok (.aload_n 0, 1) := by decide +kernel
theorem dX5_next_75 : decode cX5_next 75 = .ok (.getfield 10, 3) := by decide +kernel
theorem dX5_next_78 : decode cX5_next 78 = .ok (.iload_n 1, 1) := by decide +kernel
theorem dX5_next_79 : decode cX5_next 79 = .ok (.invokevirtual 190, 3) := by decide +kernel
theorem dX5_next_82 : decode cX5_next 82 = .ok (.ireturn, 1) := by decide +kernel
theorem dX5_feed_0 : decode cX5_feed 0 = .ok (.aload_n 0, 1) := by decide +kernel
theorem dX5_feed_1 : decode cX5_feed 1 = .ok (.getfield 10, 3) := by decide +kernel
theorem dX5_feed_4 : decode cX5_feed 4 = .ok (.iload_n 1, 1) := by decide +kernel
theorem dX5_feed_5 : decode cX5_feed 5 = .ok (.invokevirtual 78, 3) := by decide +kernel
theorem dX5_feed_8 : decode cX5_feed 8 = .ok (.invokestatic 82, 3) := by decide +kernel
theorem dX5_feed_11 : decode cX5_feed 11 = .ok (.iload_n 2, 1) := by decide +kernel
theorem dX5_feed_12 : decode cX5_feed 12 = .ok (.iconst 1, 1) := by decide +kernel
theorem dX5_feed_13 : decode cX5_feed 13 = .ok (.invokestatic 85, 3) := by decide +kernel
theorem dX5_feed_16 : decode cX5_feed 16 = .ok (.iconst 0, 1) := by decide +kernel
theorem dX5_feed_17 : decode cX5_feed 17 = .ok (.invokestatic 55, 3) := by decide +kernel
theorem dX5_feed_20 : decode cX5_feed 20 = .ok (.istore_n 3, 1) := by decide +kernel
theorem dX5_feed_21 : decode cX5_feed 21 = .ok (.iload_n 3, 1) := by decide +kernel
theorem dX5_feed_22 : decode cX5_feed 22 = .ok (.ifCond .eq 9, 3) := by decide +kernel
theorem dX5_feed_25 : decode cX5_feed 25 = .ok (.aload_n 0, 1) := by decide +kernel
theorem dX5_feed_26 : decode cX5_feed 26 = .ok (.iload_n 3, 1) := by decide +kernel
theorem dX5_feed_27 : decode cX5_feed 27 = .ok (.invokevirtual 58, 3) := by decide +kernel
theorem dX5_feed_30 : decode cX5_feed 30 = .ok (.ireturn, 1) := by decide +kernel
theorem dX5_feed_31 : decode cX5_feed 31 = .ok (.aload_n 0, 1) := by decide +kernel
theorem dX5_feed_32 : decode cX5_feed 32 = .ok (.getfield 10, 3) := by decide +kernel
theorem dX5_feed_35 : decode cX5_feed 35 = .ok (.iload_n 1, 1) := by decide +kernel
theorem dX5_feed_36 : decode cX5_feed 36 = .ok (.invokevirtual 193, 3) := by decide +kernel
theorem dX5_feed_39 : decode cX5_feed 39 = .ok (.istore 4, 2) := by decide +kernel
theorem dX5_feed_41 : decode cX5_feed 41 = .ok (.iload_n 2, 1) := by decide +kernel
theorem dX5_feed_42 : decode cX5_feed 42 = .ok (.ifCond .ne 8, 3) := by decide +kernel
theorem dX5_feed_45 : decode cX5_feed 45 = .ok (.iload 4, 2) := by decide +kernel
theorem dX5_feed_47 : decode cX5_feed 47 = .ok (.goto 13, 3) := by decide +kernel
theorem dX5_feed_50 : decode cX5_feed 50 = .ok (.aload_n 0, 1) := by decide +kernel
theorem dX5_feed_51 : decode cX5_feed 51 = .ok (.getfield 10, 3) := by decide +kernel
theorem dX5_feed_54 : decode cX5_feed 54 = .ok (.iload_n 1, 1) := by decide +kernel
theorem dX5_feed_55 : decode cX5_feed 55 = .ok (.iload 4, 2) := by decide +kernel
theorem dX5_feed_57 : decode cX5_feed 57 = .ok (.invokevirtual 196, 3) := by decide +kernel
theorem dX5_feed_60 : decode cX5_feed 60 = .ok (.ireturn, 1) := by decide +kernel
theorem dX5_settles_0 : decode cX5_settles 0 = .ok (.aload_n 0, 1) := by decide +kernel
theorem dX5_settles_1 : decode cX5_settles 1 = .ok (.getfield 32, 3) := by decide +kernel
theorem dX5_settles_4 : decode cX5_settles 4 = .ok (.aload_n 0, 1) := by decide +kernel
theorem dX5_settles_5 : decode cX5_settles 5 = .ok (.getfield 10, 3) := by decide +kernel
theorem dX5_settles_8 : decode cX5_settles 8 = .ok (.invokevirtual 199, 3) := by decide +kernel
theorem dX5_settles_11 : decode cX5_settles 11 = .ok (.ireturn, 1) := by decide +kernel
theorem dX5_round_0 : decode cX5_round 0 = .ok (.aload_n 0, 1) := by decide +kernel
theorem dX5_round_1 : decode cX5_round 1 = .ok (.getfield 32, 3) := by decide +kernel
theorem dX5_round_4 : decode cX5_round 4 = .ok (.aload_n 0, 1) := by decide +kernel
theorem dX5_round_5 : decode cX5_round 5 = .ok (.getfield 10, 3) := by decide +kernel
theorem dX5_round_8 : decode cX5_round 8 = .ok (.invokevirtual 202, 3) := by decide +kernel
theorem dX5_round_11 : decode cX5_round 11 = .ok (.ireturn, 1) := by decide +kernel
theorem dX5_free_0 : decode cX5_free 0 = .ok (.iload_n 1, 1) := by decide +kernel
theorem dX5_free_1 : decode cX5_free 1 = .ok (.iconst 2, 1) := by decide +kernel
theorem dX5_free_2 : decode cX5_free 2 = .ok (.invokestatic 85, 3) := by decide +kernel
theorem dX5_free_5 : decode cX5_free 5 = .ok (.istore_n 2, 1) := by decide +kernel
theorem dX5_free_6 : decode cX5_free 6 = .ok (.iload_n 2, 1) := by decide +kernel
theorem dX5_free_7 : decode cX5_free 7 = .ok (.ifCond .eq 9, 3) := by decide +kernel
theorem dX5_free_10 : decode cX5_free 10 = .ok (.aload_n 0, 1) := by decide +kernel
theorem dX5_free_11 : decode cX5_free 11 = .ok (.iload_n 2, 1) := by decide +kernel
theorem dX5_free_12 : decode cX5_free 12 = .ok (.invokevirtual 58, 3) := by decide +kernel
theorem dX5_free_15 : decode cX5_free 15 = .ok (.ireturn, 1) := by decide +kernel
theorem dX5_free_16 : decode cX5_free 16 = .ok (.iload_n 1, 1) := by decide +kernel
theorem dX5_free_17 : decode cX5_free 17 = .ok (.ifCond .ne 11, 3) := by decide +kernel
theorem dX5_free_20 : decode cX5_free 20 = .ok (.aload_n 0, 1) := by decide +kernel
theorem dX5_free_21 : decode cX5_free 21 = .ok (.getfield 10, 3) := by decide +kernel
theorem dX5_free_24 : decode cX5_free 24 = .ok (.invokevirtual 205, 3) := by decide +kernel
theorem dX5_free_27 : decode cX5_free 27 = .ok (.ireturn, 1) := by decide +kernel
theorem dX5_free_28 : decode cX5_free 28 = .ok (.iload_n 1, 1) := by decide +kernel
theorem dX5_free_29 : decode cX5_free 29 = .ok (.iconst 1, 1) := by decide +kernel
theorem dX5_free_30 : decode cX5_free 30 = .ok (.if_icmp .ne 13, 3) := by decide +kernel
theorem dX5_free_33 : decode cX5_free 33 = .ok (.aload_n 0, 1) := by decide +kernel
theorem dX5_free_34 : decode cX5_free 34 = .ok (.getfield 10, 3) := by decide +kernel
theorem dX5_free_37 : decode cX5_free 37 = .ok (.invokevirtual 208, 3) := by decide +kernel
theorem dX5_free_40 : decode cX5_free 40 = .ok (.goto 10, 3) := by decide +kernel
theorem dX5_free_43 : decode cX5_free 43 = .ok (.aload_n 0, 1) := by decide +kernel
theorem dX5_free_44 : decode cX5_free 44 = .ok (.getfield 10, 3) := by decide +kernel
theorem dX5_free_47 : decode cX5_free 47 = .ok (.invokevirtual 211, 3) := by decide +kernel
theorem dX5_free_50 : decode cX5_free 50 = .ok (.ireturn, 1) := by decide +kernel
theorem dX5_inHeart_0 : decode cX5_inHeart 0 = .ok (.aload_n 0, 1) := by decide +kernel
theorem dX5_inHeart_1 : decode cX5_inHeart 1 = .ok (.getfield 32, 3) := by decide +kernel
theorem dX5_inHeart_4 : decode cX5_inHeart 4 = .ok (.aload_n 0, 1) := by decide +kernel
theorem dX5_inHeart_5 : decode cX5_inHeart 5 = .ok (.getfield 10, 3) := by decide +kernel
theorem dX5_inHeart_8 : decode cX5_inHeart 8 = .ok (.invokevirtual 155, 3) := by decide +kernel
theorem dX5_inHeart_11 : decode cX5_inHeart 11 = .ok (.istore_n 1, 1) := by decide +kernel
theorem dX5_inHeart_12 : decode cX5_inHeart 12 = .ok (.iload_n 1, 1) := by decide +kernel
theorem dX5_inHeart_13 : decode cX5_inHeart 13 = .ok (.bipush (-9), 2) := by decide +kernel
theorem dX5_inHeart_15 : decode cX5_inHeart 15 = .ok (.if_icmp .ne 8, 3) := by decide +kernel
theorem dX5_inHeart_18 : decode cX5_inHeart 18 = .ok (.bipush 61, 2) := by decide +kernel
theorem dX5_inHeart_20 : decode cX5_inHeart 20 = .ok (.goto 4, 3) := by decide +kernel
theorem dX5_inHeart_23 : decode cX5_inHeart 23 = .ok (.iload_n 1, 1) := by decide +kernel
theorem dX5_inHeart_24 : decode cX5_inHeart 24 = .ok (.ireturn, 1) := by decide +kernel
theorem dX5_even_0 : decode cX5_even 0 = .ok (.aload_n 0, 1) := by decide +kernel
theorem dX5_even_1 : decode cX5_even 1 = .ok (.getfield 10, 3) := by decide +kernel
theorem dX5_even_4 : decode cX5_even 4 = .ok (.invokevirtual 214, 3) := by decide +kernel
theorem dX5_even_7 : decode cX5_even 7 = .ok (.aload_n 0, 1) := by decide +kernel
theorem dX5_even_8 : decode cX5_even 8 = .ok (.getfield 10, 3) := by decide +kernel
theorem dX5_even_11 : decode cX5_even 11 = .ok (.invokevirtual 217, 3) := by decide +kernel
theorem dX5_even_14 : decode cX5_even 14 = .ok (.isub, 1) := by decide +kernel
theorem dX5_even_15 : decode cX5_even 15 = .ok (.ireturn, 1) := by decide +kernel
theorem dX5_two_0 : decode cX5_two 0 = .ok (.aload_n 0, 1) := by decide +kernel
theorem dX5_two_1 : decode cX5_two 1 = .ok (.getfield 10, 3) := by decide +kernel
theorem dX5_two_4 : decode cX5_two 4 = .ok (.iload_n 1, 1) := by decide +kernel
theorem dX5_two_5 : decode cX5_two 5 = .ok (.invokevirtual 98, 3) := by decide +kernel
theorem dX5_two_8 : decode cX5_two 8 = .ok (.ifCond .eq 23, 3) := by decide +kernel
theorem dX5_two_11 : decode cX5_two 11 = .ok (.aload_n 0, 1) := by decide +kernel
theorem dX5_two_12 : decode cX5_two 12 = .ok (.getfield 10, 3) := by decide +kernel
theorem dX5_two_15 : decode cX5_two 15 = .ok (.iload_n 2, 1) := by decide +kernel
theorem dX5_two_16 : decode cX5_two 16 = .ok (.invokevirtual 98, 3) := by decide +kernel
theorem dX5_two_19 : decode cX5_two 19 = .ok (.ifCond .eq 12, 3) := by decide +kernel
theorem dX5_two_22 : decode cX5_two 22 = .ok (.iload_n 1, 1) := by decide +kernel
theorem dX5_two_23 : decode cX5_two 23 = .ok (.iload_n 2, 1) := by decide +kernel
theorem dX5_two_24 : decode cX5_two 24 = .ok (.if_icmp .eq 7, 3) := by decide +kernel
theorem dX5_two_27 : decode cX5_two 27 = .ok (.iconst 1, 1) := by decide +kernel
theorem dX5_two_28 : decode cX5_two 28 = .ok (.goto 4, 3) := by decide +kernel
theorem dX5_two_31 : decode cX5_two 31 = .ok (.iconst 0, 1) := by decide +kernel
theorem dX5_two_32 : decode cX5_two 32 = .ok (.invokestatic 82, 3) := by decide +kernel
theorem dX5_two_35 : decode cX5_two 35 = .ok (.iload_n 3, 1) := by decide +kernel
theorem dX5_two_36 : decode cX5_two 36 = .ok (.iconst 1, 1) := by decide +kernel
theorem dX5_two_37 : decode cX5_two 37 = .ok (.bipush 30, 2) := by decide +kernel
theorem dX5_two_39 : decode cX5_two 39 = .ok (.invokestatic 43, 3) := by decide +kernel
theorem dX5_two_42 : decode cX5_two 42 = .ok (.iconst 0, 1) := by decide +kernel
theorem dX5_two_43 : decode cX5_two 43 = .ok (.invokestatic 55, 3) := by decide +kernel
theorem dX5_two_46 : decode cX5_two 46 = .ok (.istore 4, 2) := by decide +kernel
theorem dX5_two_48 : decode cX5_two 48 = .ok (.iload 4, 2) := by decide +kernel
theorem dX5_two_50 : decode cX5_two 50 = .ok (.ifCond .eq 12, 3) := by decide +kernel
theorem dX5_two_53 : decode cX5_two 53 = .ok (.aload_n 0, 1) := by decide +kernel
theorem dX5_two_54 : decode cX5_two 54 = .ok (.iload 4, 2) := by decide +kernel
theorem dX5_two_56 : decode cX5_two 56 = .ok (.invokevirtual 58, 3) := by decide +kernel
theorem dX5_two_59 : decode cX5_two 59 = .ok (.goto 17, 3) := by decide +kernel
theorem dX5_two_62 : decode cX5_two 62 = .ok (.aload_n 0, 1) := by decide +kernel
theorem dX5_two_63 : decode cX5_two 63 = .ok (.getfield 32, 3) := by decide +kernel
theorem dX5_two_66 : decode cX5_two 66 = .ok (.aload_n 0, 1) := by decide +kernel
theorem dX5_two_67 : decode cX5_two 67 = .ok (.getfield 10, 3) := by decide +kernel
theorem dX5_two_70 : decode cX5_two 70 = .ok (.iload_n 1, 1) := by decide +kernel
theorem dX5_two_71 : decode cX5_two 71 = .ok (.iload_n 2, 1) := by decide +kernel
theorem dX5_two_72 : decode cX5_two 72 = .ok (.iload_n 3, 1) := by decide +kernel
theorem dX5_two_73 : decode cX5_two 73 = .ok (.invokevirtual 220, 3) := by decide +kernel
theorem dX5_two_76 : decode cX5_two 76 = .ok (.ireturn, 1) := by decide +kernel
theorem dX5_frost_0 : decode cX5_frost 0 = .ok (.iconst 0, 1) := by decide +kernel
theorem dX5_frost_1 : decode cX5_frost 1 = .ok (.istore 5, 2) := by decide +kernel
theorem dX5_frost_3 : decode cX5_frost 3 = .ok (.iload_n 1, 1) := by decide +kernel
theorem dX5_frost_4 : decode cX5_frost 4 = .ok (.ifCond .lt 12, 3) := by decide +kernel
theorem dX5_frost_7 : decode cX5_frost 7 = .ok (.iload_n 3, 1) := by decide +kernel
theorem dX5_frost_8 : decode cX5_frost 8 = .ok (.ifCond .lt 8, 3) := by decide +kernel
theorem dX5_frost_11 : decode cX5_frost 11 = .ok (.iload_n 2, 1) := by decide +kernel
theorem dX5_frost_12 : decode cX5_frost 12 = .ok (.iconst 2, 1) := by decide +kernel
theorem dX5_frost_13 : decode cX5_frost 13 = .ok (.if_icmp .ge 10, 3) := by decide +kernel
theorem dX5_frost_16 : decode cX5_frost 16 = .ok (.bipush (-4), 2) := by decide +kernel
theorem dX5_frost_18 : decode cX5_frost 18 = .ok (.istore 5, 2) := by decide +kernel
theorem dX5_frost_20 : decode cX5_frost 20 = .ok (.goto 37, 3) := by decide +kernel
theorem dX5_frost_23 : decode cX5_frost 23 = .ok (.iload_n 1, 1) := by decide +kernel
theorem dX5_frost_24 : decode cX5_frost 24 = .ok (.bipush 7, 2) := by decide +kernel
theorem dX5_frost_26 : decode cX5_frost 26 = .ok (.if_icmp .gt 16, 3) := by decide +kernel
theorem dX5_frost_29 : decode cX5_frost 29 = .ok (.iload_n 2, 1) := by decide +kernel
theorem dX5_frost_30 : decode cX5_frost 30 = .ok (.bipush 20, 2) := by decide +kernel
theorem dX5_frost_32 : decode cX5_frost 32 = .ok (.if_icmp .gt 10, 3) := by decide +kernel
theorem dX5_frost_35 : decode cX5_frost 35 = .ok (.iload_n 3, 1) := by decide +kernel
theorem dX5_frost_36 : decode cX5_frost 36 = .ok (.sipush 999, 3) := by decide +kernel
theorem dX5_frost_39 : decode cX5_frost 39 = .ok (.if_icmp .le 10, 3) := by decide +kernel
theorem dX5_frost_42 : decode cX5_frost 42 = .ok (.bipush (-6), 2) := by decide +kernel
theorem dX5_frost_44 : decode cX5_frost 44 = .ok (.istore 5, 2) := by decide +kernel
theorem dX5_frost_46 : decode cX5_frost 46 = .ok (.goto 11, 3) := by decide +kernel
theorem dX5_frost_49 : decode cX5_frost 49 = .ok (.iload 4, 2) := by decide +kernel
theorem dX5_frost_51 : decode cX5_frost 51 = .ok (.iconst 1, 1) := by decide +kernel
theorem dX5_frost_52 : decode cX5_frost 52 = .ok (.invokestatic 85, 3) := by decide +kernel
theorem dX5_frost_55 : decode cX5_frost 55 = .ok (.istore 5, 2) := by decide +kernel
theorem dX5_frost_57 : decode cX5_frost 57 = .ok (.iload 5, 2) := by decide +kernel
theorem dX5_frost_59 : decode cX5_frost 59 = .ok (.ifCond .eq 15, 3) := by decide +kernel
theorem dX5_frost_62 : decode cX5_frost 62 = .ok (.ldc2_w 224, 3) := by decide +kernel
theorem dX5_frost_65 : decode cX5_frost 65 = .ok (.aload_n 0, 1) := by decide +kernel
theorem dX5_frost_66 : decode cX5_frost 66 = .ok (.iload 5, 2) := by decide +kernel
theorem dX5_frost_68 : decode cX5_frost 68 = .ok (.invokevirtual 58, 3) := by decide +kernel
theorem dX5_frost_71 : decode cX5_frost 71 = .ok (.i2l, 1) := by decide +kernel
theorem dX5_frost_72 : decode cX5_frost 72 = .ok (.lsub, 1) := by decide +kernel
theorem dX5_frost_73 : decode cX5_frost 73 = .ok (.lreturn, 1) := by decide +kernel
theorem dX5_frost_74 : decode cX5_frost 74 = .ok (.lconst 1, 1) := by decide +kernel
theorem dX5_frost_75 : decode cX5_frost 75 = .ok (.lstore 6, 2) := by decide +kernel
theorem dX5_frost_77 : decode cX5_frost 77 = .ok (.iconst 0, 1) := by decide +kernel
theorem dX5_frost_78 : decode cX5_frost 78 = .ok (.istore 8, 2) := by decide +kernel
theorem dX5_frost_80 : decode cX5_frost 80 = .ok (.iload 8, 2) := by decide +kernel
theorem dX5_frost_82 : decode cX5_frost 82 = .ok (.iload_n 1, 1) := by decide +kernel
theorem dX5_frost_83 : decode cX5_frost 83 = .ok (.if_icmp .ge 16, 3) := by decide +kernel
theorem dX5_frost_86 : decode cX5_frost 86 = .ok (.lload 6, 2) := by decide +kernel
theorem dX5_frost_88 : decode cX5_frost 88 = .ok (.iload_n 2, 1) := by decide +kernel
theorem dX5_frost_89 : decode cX5_frost 89 = .ok (.i2l, 1) := by decide +kernel
theorem dX5_frost_90 : decode cX5_frost 90 = .ok (.lmul, 1) := by decide +kernel
theorem dX5_frost_91 : decode cX5_frost 91 = .ok (.lstore 6, 2) := by decide +kernel
theorem dX5_frost_93 : decode cX5_frost 93 = .ok (.iinc 8 1, 3) := by decide +kernel
theorem dX5_frost_96 : decode cX5_frost 96 = .ok (.goto (-16), 3) := by decide +kernel
theorem dX5_frost_99 : decode cX5_frost 99 = .ok (.aload_n 0, 1) := by decide +kernel
theorem dX5_frost_100 : decode cX5_frost 100 = .ok (.getfield 32, 3) := by decide +kernel
theorem dX5_frost_103 : decode cX5_frost 103 = .ok (.aload_n 0, 1) := by decide +kernel
theorem dX5_frost_104 : decode cX5_frost 104 = .ok (.getfield 10, 3) := by decide +kernel
theorem dX5_frost_107 : decode cX5_frost 107 = .ok (.iload_n 1, 1) := by decide +kernel
theorem dX5_frost_108 : decode cX5_frost 108 = .ok (.iload_n 2, 1) := by decide +kernel
theorem dX5_frost_109 : decode cX5_frost 109 = .ok (.iload_n 3, 1) := by decide +kernel
theorem dX5_frost_110 : decode cX5_frost 110 = .ok (.invokevirtual 226, 3) := by decide +kernel
theorem dX5_frost_113 : decode cX5_frost 113 = .ok (.lload 6, 2) := by decide +kernel
theorem dX5_frost_115 : decode cX5_frost 115 = .ok (.iload 4, 2) := by decide +kernel
theorem dX5_frost_117 : decode cX5_frost 117 = .ok (.invokestatic 230, 3) := by decide +kernel
theorem dX5_frost_120 : decode cX5_frost 120 = .ok (.lreturn, 1) := by decide +kernel
theorem dX5_mean_0 : decode cX5_mean 0 = .ok (.iload_n 1, 1) := by decide +kernel
theorem dX5_mean_1 : decode cX5_mean 1 = .ok (.iconst 1, 1) := by decide +kernel
theorem dX5_mean_2 : decode cX5_mean 2 = .ok (.invokestatic 85, 3) := by decide +kernel
theorem dX5_mean_5 : decode cX5_mean 5 = .ok (.istore_n 2, 1) := by decide +kernel
theorem dX5_mean_6 : decode cX5_mean 6 = .ok (.iload_n 2, 1) := by decide +kernel
theorem dX5_mean_7 : decode cX5_mean 7 = .ok (.ifCond .eq 14, 3) := by decide +kernel
theorem dX5_mean_10 : decode cX5_mean 10 = .ok (.ldc2_w 224, 3) := by decide +kernel
theorem dX5_mean_13 : decode cX5_mean 13 = .ok (.aload_n 0, 1) := by decide +kernel
theorem dX5_mean_14 : decode cX5_mean 14 = .ok (.iload_n 2, 1) := by decide +kernel
theorem dX5_mean_15 : decode cX5_mean 15 = .ok (.invokevirtual 58, 3) := by decide +kernel
theorem dX5_mean_18 : decode cX5_mean 18 = .ok (.i2l, 1) := by decide +kernel
theorem dX5_mean_19 : decode cX5_mean 19 = .ok (.lsub, 1) := by decide +kernel
theorem dX5_mean_20 : decode cX5_mean 20 = .ok (.lreturn, 1) := by decide +kernel
theorem dX5_mean_21 : decode cX5_mean 21 = .ok (.aload_n 0, 1) := by decide +kernel
theorem dX5_mean_22 : decode cX5_mean 22 = .ok (.getfield 10, 3) := by decide +kernel
theorem dX5_mean_25 : decode cX5_mean 25 = .ok (.invokevirtual 234, 3) := by decide +kernel
theorem dX5_mean_28 : decode cX5_mean 28 = .ok (.i2l, 1) := by decide +kernel
theorem dX5_mean_29 : decode cX5_mean 29 = .ok (.iconst 1, 1) := by decide +kernel
theorem dX5_mean_30 : decode cX5_mean 30 = .ok (.aload_n 0, 1) := by decide +kernel
theorem dX5_mean_31 : decode cX5_mean 31 = .ok (.getfield 10, 3) := by decide +kernel
theorem dX5_mean_34 : decode cX5_mean 34 = .ok (.getfield 237, 3) := by decide +kernel
theorem dX5_mean_37 : decode cX5_mean 37 = .ok (.invokestatic 240, 3) := by decide +kernel
theorem dX5_mean_40 : decode cX5_mean 40 = .ok (.i2l, 1) := by decide +kernel
theorem dX5_mean_41 : decode cX5_mean 41 = .ok (.iload_n 1, 1) := by decide +kernel
theorem dX5_mean_42 : decode cX5_mean 42 = .ok (.invokestatic 230, 3) := by decide +kernel
theorem dX5_mean_45 : decode cX5_mean 45 = .ok (.lreturn, 1) := by decide +kernel
theorem dX5_whoSat_0 : decode cX5_whoSat 0 = .ok (.aload_n 0, 1) := by decide +kernel
theorem dX5_whoSat_1 : decode cX5_whoSat 1 = .ok (.getfield 10, 3) := by decide +kernel
theorem dX5_whoSat_4 : decode cX5_whoSat 4 = .ok (.iload_n 1, 1) := by decide +kernel
theorem dX5_whoSat_5 : decode cX5_whoSat 5 = .ok (.invokevirtual 78, 3) := by decide +kernel
theorem dX5_whoSat_8 : decode cX5_whoSat 8 = .ok (.ifCond .eq 18, 3) := by decide +kernel
theorem dX5_whoSat_11 : decode cX5_whoSat 11 = .ok (.aload_n 0, 1) := by decide +kernel
theorem dX5_whoSat_12 : decode cX5_whoSat 12 = .ok (.getfield 10, 3) := by decide +kernel
theorem dX5_whoSat_15 : decode cX5_whoSat 15 = .ok (.iload_n 2, 1) := by decide +kernel
theorem dX5_whoSat_16 : decode cX5_whoSat 16 = .ok (.invokevirtual 98, 3) := by decide +kernel
theorem dX5_whoSat_19 : decode cX5_whoSat 19 = .ok (.ifCond .eq 7, 3) := by decide +kernel
theorem dX5_whoSat_22 : decode cX5_whoSat 22 = .ok (.iconst 1, 1) := by decide +kernel
theorem dX5_whoSat_23 : decode cX5_whoSat 23 = .ok (.goto 4, 3) := by decide +kernel
theorem dX5_whoSat_26 : decode cX5_whoSat 26 = .ok (.iconst 0, 1) := by decide +kernel
theorem dX5_whoSat_27 : decode cX5_whoSat 27 = .ok (.invokestatic 82, 3) := by decide +kernel
theorem dX5_whoSat_30 : decode cX5_whoSat 30 = .ok (.iload_n 3, 1) := by decide +kernel
theorem dX5_whoSat_31 : decode cX5_whoSat 31 = .ok (.iconst 1, 1) := by decide +kernel
theorem dX5_whoSat_32 : decode cX5_whoSat 32 = .ok (.invokestatic 85, 3) := by decide +kernel
theorem dX5_whoSat_35 : decode cX5_whoSat 35 = .ok (.iconst 0, 1) := by decide +kernel
theorem dX5_whoSat_36 : decode cX5_whoSat 36 = .ok (.invokestatic 55, 3) := by decide +kernel
theorem dX5_whoSat_39 : decode cX5_whoSat 39 = .ok (.istore 4, 2) := by decide +kernel
theorem dX5_whoSat_41 : decode cX5_whoSat 41 = .ok (.iload 4, 2) := by decide +kernel
theorem dX5_whoSat_43 : decode cX5_whoSat 43 = .ok (.ifCond .eq 10, 3) := by decide +kernel
theorem dX5_whoSat_46 : decode cX5_whoSat 46 = .ok (.aload_n 0, 1) := by decide +kernel
theorem dX5_whoSat_47 : decode cX5_whoSat 47 = .ok (.iload 4, 2) := by decide +kernel
theorem dX5_whoSat_49 : decode cX5_whoSat 49 = .ok (.invokevirtual 58, 3) := by decide +kernel
theorem dX5_whoSat_52 : decode cX5_whoSat 52 = .ok (.ireturn, 1) := by decide +kernel
theorem dX5_whoSat_53 : decode cX5_whoSat 53 = .ok (.iload_n 3, 1) := by decide +kernel
theorem dX5_whoSat_54 : decode cX5_whoSat 54 = .ok (.ifCond .ne 8, 3) := by decide +kernel
theorem dX5_whoSat_57 : decode cX5_whoSat 57 = .ok (.bipush 6, 2) := by decide +kernel
theorem dX5_whoSat_59 : decode cX5_whoSat 59 = .ok (.goto 5, 3) := by decide +kernel
theorem dX5_whoSat_62 : decode cX5_whoSat 62 = .ok (.bipush 10, 2) := by decide +kernel
theorem dX5_whoSat_64 : decode cX5_whoSat 64 = .ok (.istore 5, 2) := by decide +kernel
theorem dX5_whoSat_66 : decode cX5_whoSat 66 = .ok (.iconst 0, 1) := by decide +kernel
theorem dX5_whoSat_67 : decode cX5_whoSat 67 = .ok (.istore 6, 2) := by decide +kernel
theorem dX5_whoSat_69 : decode cX5_whoSat 69 = .ok (.iconst 0, 1) := by decide +kernel
theorem dX5_whoSat_70 : decode cX5_whoSat 70 = .ok (.istore 7, 2) := by decide +kernel
theorem dX5_whoSat_72 : decode cX5_whoSat 72 = .ok (.iload 7, 2) := by decide +kernel
theorem dX5_whoSat_74 : decode cX5_whoSat 74 = .ok (.iload 5, 2) := by decide +kernel
theorem dX5_whoSat_76 : decode cX5_whoSat 76 = .ok (.if_icmp .ge 86, 3) := by decide +kernel
theorem dX5_whoSat_79 : decode cX5_whoSat 79 = .ok (.iload_n 3, 1) := by decide +kernel
theorem dX5_whoSat_80 : decode cX5_whoSat 80 = .ok (.ifCond .ne 8, 3) := by decide +kernel
theorem dX5_whoSat_83 : decode cX5_whoSat 83 = .ok (.iload 7, 2) := by decide +kernel
theorem dX5_whoSat_85 : decode cX5_whoSat 85 = .ok (.goto 12, 3) := by decide +kernel
theorem dX5_whoSat_88 : decode cX5_whoSat 88 = .ok (.aload_n 0, 1) := by decide +kernel
theorem dX5_whoSat_89 : decode cX5_whoSat 89 = .ok (.getfield 10, 3) := by decide +kernel
theorem dX5_whoSat_92 : decode cX5_whoSat 92 = .ok (.getfield 101, 3) := by decide +kernel
theorem dX5_whoSat_95 : decode cX5_whoSat 95 = .ok (.iload_n 2, 1) := by decide +kernel
theorem dX5_whoSat_96 : decode cX5_whoSat 96 = .ok (.iaload, 1) := by decide +kernel
theorem dX5_whoSat_97 : decode cX5_whoSat 97 = .ok (.istore 8, 2) := by decide +kernel
theorem dX5_whoSat_99 : decode cX5_whoSat 99 = .ok (.iload_n 3, 1) := by decide +kernel
theorem dX5_whoSat_100 : decode cX5_whoSat 100 = .ok (.ifCond .ne 15, 3) := by decide +kernel
theorem dX5_whoSat_103 : decode cX5_whoSat 103 = .ok (.aload_n 0, 1) := by decide +kernel
theorem dX5_whoSat_104 : decode cX5_whoSat 104 = .ok (.getfield 10, 3) := by decide +kernel
theorem dX5_whoSat_107 : decode cX5_whoSat 107 = .ok (.getfield 104, 3) := by decide +kernel
theorem dX5_whoSat_110 : decode cX5_whoSat 110 = .ok (.iload_n 2, 1) := by decide +kernel
theorem dX5_whoSat_111 : decode cX5_whoSat 111 = .ok (.iaload, 1) := by decide +kernel
theorem dX5_whoSat_112 : decode cX5_whoSat 112 = .ok (.goto 5, 3) := by decide +kernel
theorem dX5_whoSat_115 : decode cX5_whoSat 115 = .ok (.iload 7, 2) := by decide +kernel
theorem dX5_whoSat_117 : decode cX5_whoSat 117 = .ok (.istore 9, 2) := by decide +kernel
theorem dX5_whoSat_119 : decode cX5_whoSat 119 = .ok (.aload_n 0, 1) := by decide +kernel
theorem dX5_whoSat_120 : decode cX5_whoSat 120 = .ok (.getfield 32, 3) := by decide +kernel
theorem dX5_whoSat_123 : decode cX5_whoSat 123 = .ok (.aload_n 0, 1) := by decide +kernel
theorem dX5_whoSat_124 : decode cX5_whoSat 124 = .ok (.getfield 10, 3) := by decide +kernel
theorem dX5_whoSat_127 : decode cX5_whoSat 127 = .ok (.iload_n 2, 1) := by decide +kernel
theorem dX5_whoSat_128 : decode cX5_whoSat 128 = .ok (.iload 8, 2) := by decide +kernel
theorem dX5_whoSat_130 : decode cX5_whoSat 130 = .ok (.iload 9, 2) := by decide +kernel
theorem dX5_whoSat_132 : decode cX5_whoSat 132 = .ok (.invokevirtual 245, 3) := by decide +kernel
theorem dX5_whoSat_135 : decode cX5_whoSat 135 = .ok (.iload 6, 2) := by decide +kernel
theorem dX5_whoSat_137 : decode cX5_whoSat 137 = .ok (.aload_n 0, 1) := by decide +kernel
theorem dX5_whoSat_138 : decode cX5_whoSat 138 = .ok (.iload_n 1, 1) := by decide +kernel
theorem dX5_whoSat_139 : decode cX5_whoSat 139 = .ok (.invokevirtual 249, 3) := by decide +kernel
theorem dX5_whoSat_142 : decode cX5_whoSat 142 = .ok (.ifCond .eq 10, 3) := by decide +kernel
theorem dX5_whoSat_145 : decode cX5_whoSat 145 = .ok (.iconst 1, 1) := by decide +kernel
theorem dX5_whoSat_146 : decode cX5_whoSat 146 = .ok (.iload 7, 2) := by decide +kernel
theorem dX5_whoSat_148 : decode cX5_whoSat 148 = .ok (.ishl, 1) := by decide +kernel
theorem dX5_whoSat_149 : decode cX5_whoSat 149 = .ok (.goto 4, 3) := by decide +kernel
theorem dX5_whoSat_152 : decode cX5_whoSat 152 = .ok (.iconst 0, 1) := by decide +kernel
theorem dX5_whoSat_153 : decode cX5_whoSat 153 = .ok (.ior, 1) := by decide +kernel
theorem dX5_whoSat_154 : decode cX5_whoSat 154 = .ok (.istore 6, 2) := by decide +kernel
theorem dX5_whoSat_156 : decode cX5_whoSat 156 = .ok (.iinc 7 1, 3) := by decide +kernel
theorem dX5_whoSat_159 : decode cX5_whoSat 159 = .ok (.goto (-87), 3) := by decide +kernel
theorem dX5_whoSat_162 : decode cX5_whoSat 162 = .ok (.iload 6, 2) := by decide +kernel
theorem dX5_whoSat_164 : decode cX5_whoSat 164 = .ok (.ireturn, 1) := by decide +kernel
theorem dX5_row_0 : decode cX5_row 0 = .ok (.iload_n 1, 1) := by decide +kernel
theorem dX5_row_1 : decode cX5_row 1 = .ok (.iconst 0, 1) := by decide +kernel
theorem dX5_row_2 : decode cX5_row 2 = .ok (.bipush 99, 2) := by decide +kernel
theorem dX5_row_4 : decode cX5_row 4 = .ok (.invokestatic 43, 3) := by decide +kernel
theorem dX5_row_7 : decode cX5_row 7 = .ok (.aload_n 0, 1) := by decide +kernel
theorem dX5_row_8 : decode cX5_row 8 = .ok (.getfield 252, 3) := by decide +kernel
theorem dX5_row_11 : decode cX5_row 11 = .ok (.bipush 16, 2) := by decide +kernel
theorem dX5_row_13 : decode cX5_row 13 = .ok (.if_icmp .ge 7, 3) := by decide +kernel
theorem dX5_row_16 : decode cX5_row 16 = .ok (.iconst 1, 1) := by decide +kernel
theorem dX5_row_17 : decode cX5_row 17 = .ok (.goto 4, 3) := by decide +kernel
theorem dX5_row_20 : decode cX5_row 20 = .ok (.iconst 0, 1) := by decide +kernel
theorem dX5_row_21 : decode cX5_row 21 = .ok (.invokestatic 51, 3) := by decide +kernel
theorem dX5_row_24 : decode cX5_row 24 = .ok (.iconst 0, 1) := by decide +kernel
theorem dX5_row_25 : decode cX5_row 25 = .ok (.invokestatic 55, 3) := by decide +kernel
theorem dX5_row_28 : decode cX5_row 28 = .ok (.istore_n 2, 1) := by decide +kernel
theorem dX5_row_29 : decode cX5_row 29 = .ok (.iload_n 2, 1) := by decide +kernel
theorem dX5_row_30 : decode cX5_row 30 = .ok (.ifCond .eq 9, 3) := by decide +kernel
theorem dX5_row_33 : decode cX5_row 33 = .ok (.aload_n 0, 1) := by decide +kernel
theorem dX5_row_34 : decode cX5_row 34 = .ok (.iload_n 2, 1) := by decide +kernel
theorem dX5_row_35 : decode cX5_row 35 = .ok (.invokevirtual 58, 3) := by decide +kernel
theorem dX5_row_38 : decode cX5_row 38 = .ok (.ireturn, 1) := by decide +kernel
theorem dX5_row_39 : decode cX5_row 39 = .ok (.aload_n 0, 1) := by decide +kernel
theorem dX5_row_40 : decode cX5_row 40 = .ok (.getfield 36, 3) := by decide +kernel
theorem dX5_row_43 : decode cX5_row 43 = .ok (.aload_n 0, 1) := by decide +kernel
theorem dX5_row_44 : decode cX5_row 44 = .ok (.getfield 252, 3) := by decide +kernel
theorem dX5_row_47 : decode cX5_row 47 = .ok (.iload_n 1, 1) := by decide +kernel
theorem dX5_row_48 : decode cX5_row 48 = .ok (.iastore, 1) := by decide +kernel
theorem dX5_row_49 : decode cX5_row 49 = .ok (.aload_n 0, 1) := by decide +kernel
theorem dX5_row_50 : decode cX5_row 50 = .ok (.dup, 1) := by decide +kernel
theorem dX5_row_51 : decode cX5_row 51 = .ok (.getfield 252, 3) := by decide +kernel
theorem dX5_row_54 : decode cX5_row 54 = .ok (.iconst 1, 1) := by decide +kernel
theorem dX5_row_55 : decode cX5_row 55 = .ok (.iadd, 1) := by decide +kernel
theorem dX5_row_56 : decode cX5_row 56 = .ok (.putfield 252, 3) := by decide +kernel
theorem dX5_row_59 : decode cX5_row 59 = .ok (.aload_n 0, 1) := by decide +kernel
theorem dX5_row_60 : decode cX5_row 60 = .ok (.getfield 252, 3) := by decide +kernel
theorem dX5_row_63 : decode cX5_row 63 = .ok (.ireturn, 1) := by decide +kernel
theorem dX5_judge_0 : decode cX5_judge 0 = .ok (.aload_n 0, 1) := by decide +kernel
theorem dX5_judge_1 : decode cX5_judge 1 = .ok (.invokevirtual 255, 3) := by decide +kernel
theorem dX5_judge_4 : decode cX5_judge 4 = .ok (.istore_n 1, 1) := by decide +kernel
theorem dX5_judge_5 : decode cX5_judge 5 = .ok (.aload_n 0, 1) := by decide +kernel
theorem dX5_judge_6 : decode cX5_judge 6 = .ok (.iconst 0, 1) := by decide +kernel
theorem dX5_judge_7 : decode cX5_judge 7 = .ok (.putfield 252, 3) := by decide +kernel
theorem dX5_judge_10 : decode cX5_judge 10 = .ok (.iload_n 1, 1) := by decide +kernel
theorem dX5_judge_11 : decode cX5_judge 11 = .ok (.ireturn, 1) := by decide +kernel
theorem dX5_clear_0 : decode cX5_clear 0 = .ok (.aload_n 0, 1) := by decide +kernel
theorem dX5_clear_1 : decode cX5_clear 1 = .ok (.getfield 252, 3) := by decide +kernel
theorem dX5_clear_4 : decode cX5_clear 4 = .ok (.istore_n 1, 1) := by decide +kernel
theorem dX5_clear_5 : decode cX5_clear 5 = .ok (.aload_n 0, 1) := by decide +kernel
theorem dX5_clear_6 : decode cX5_clear 6 = .ok (.iconst 0, 1) := by decide +kernel
theorem dX5_clear_7 : decode cX5_clear 7 = .ok (.putfield 252, 3) := by decide +kernel
theorem dX5_clear_10 : decode cX5_clear 10 = .ok (.iload_n 1, 1) := by decide +kernel
theorem dX5_clear_11 : decode cX5_clear 11 = .ok (.ireturn, 1) := by decide +kernel
theorem dX5_lots_0 : decode cX5_lots 0 = .ok (.iload_n 1, 1) := by decide +kernel
theorem dX5_lots_1 : decode cX5_lots 1 = .ok (.iconst 1, 1) := by decide +kernel
theorem dX5_lots_2 : decode cX5_lots 2 = .ok (.bipush 20, 2) := by decide +kernel
theorem dX5_lots_4 : decode cX5_lots 4 = .ok (.invokestatic 43, 3) := by decide +kernel
theorem dX5_lots_7 : decode cX5_lots 7 = .ok (.iload_n 3, 1) := by decide +kernel
theorem dX5_lots_8 : decode cX5_lots 8 = .ok (.iconst 1, 1) := by decide +kernel
theorem dX5_lots_9 : decode cX5_lots 9 = .ok (.invokestatic 85, 3) := by decide +kernel
theorem dX5_lots_12 : decode cX5_lots 12 = .ok (.iconst 0, 1) := by decide +kernel
theorem dX5_lots_13 : decode cX5_lots 13 = .ok (.invokestatic 55, 3) := by decide +kernel
theorem dX5_lots_16 : decode cX5_lots 16 = .ok (.istore 4, 2) := by decide +kernel
theorem dX5_lots_18 : decode cX5_lots 18 = .ok (.iload 4, 2) := by decide +kernel
theorem dX5_lots_20 : decode cX5_lots 20 = .ok (.ifCond .eq 12, 3) := by decide +kernel
theorem dX5_lots_23 : decode cX5_lots 23 = .ok (.aload_n 0, 1) := by decide +kernel
theorem dX5_lots_24 : decode cX5_lots 24 = .ok (.iload 4, 2) := by decide +kernel
theorem dX5_lots_26 : decode cX5_lots 26 = .ok (.invokevirtual 58, 3) := by decide +kernel
theorem dX5_lots_29 : decode cX5_lots 29 = .ok (.goto 25, 3) := by decide +kernel
theorem dX5_lots_32 : decode cX5_lots 32 = .ok (.aload_n 0, 1) := by decide +kernel
theorem dX5_lots_33 : decode cX5_lots 33 = .ok (.getfield 32, 3) := by decide +kernel
theorem dX5_lots_36 : decode cX5_lots 36 = .ok (.aload_n 0, 1) := by decide +kernel
theorem dX5_lots_37 : decode cX5_lots 37 = .ok (.getfield 10, 3) := by decide +kernel
theorem dX5_lots_40 : decode cX5_lots 40 = .ok (.iload_n 1, 1) := by decide +kernel
theorem dX5_lots_41 : decode cX5_lots 41 = .ok (.iload_n 2, 1) := by decide +kernel
theorem dX5_lots_42 : decode cX5_lots 42 = .ok (.iload_n 3, 1) := by decide +kernel
theorem dX5_lots_43 : decode cX5_lots 43 = .ok (.ifCond .ne 7, 3) := by decide +kernel
theorem dX5_lots_46 : decode cX5_lots 46 = .ok (.iconst 1, 1) := by decide +kernel
theorem dX5_lots_47 : decode cX5_lots 47 = .ok (.goto 4, 3) := by decide +kernel
theorem dX5_lots_50 : decode cX5_lots 50 = .ok (.iconst 0, 1) := by decide +kernel
theorem dX5_lots_51 : decode cX5_lots 51 = .ok (.invokevirtual 258, 3) := by decide +kernel
theorem dX5_lots_54 : decode cX5_lots 54 = .ok (.ireturn, 1) := by decide +kernel
theorem dX5_image_0 : decode cX5_image 0 = .ok (.aload_n 0, 1) := by decide +kernel
theorem dX5_image_1 : decode cX5_image 1 = .ok (.getfield 16, 3) := by decide +kernel
theorem dX5_image_4 : decode cX5_image 4 = .ok (.aload_n 0, 1) := by decide +kernel
theorem dX5_image_5 : decode cX5_image 5 = .ok (.getfield 10, 3) := by decide +kernel
theorem dX5_image_8 : decode cX5_image 8 = .ok (.invokevirtual 70, 3) := by decide +kernel
theorem dX5_image_11 : decode cX5_image 11 = .ok (.aload_n 0, 1) := by decide +kernel
theorem dX5_image_12 : decode cX5_image 12 = .ok (.iconst 1, 1) := by decide +kernel
theorem dX5_image_13 : decode cX5_image 13 = .ok (.putfield 262, 3) := by decide +kernel
theorem dX5_image_16 : decode cX5_image 16 = .ok (.aload_n 0, 1) := by decide +kernel
theorem dX5_image_17 : decode cX5_image 17 = .ok (.getfield 10, 3) := by decide +kernel
theorem dX5_image_20 : decode cX5_image 20 = .ok (.getfield 266, 3) := by decide +kernel
theorem dX5_image_23 : decode cX5_image 23 = .ok (.ireturn, 1) := by decide +kernel
theorem dX5_on_0 : decode cX5_on 0 = .ok (.aload_n 0, 1) := by decide +kernel
theorem dX5_on_1 : decode cX5_on 1 = .ok (.getfield 262, 3) := by decide +kernel
theorem dX5_on_4 : decode cX5_on 4 = .ok (.ifCond .ne 10, 3) := by decide +kernel
theorem dX5_on_7 : decode cX5_on 7 = .ok (.aload_n 0, 1) := by decide +kernel
theorem dX5_on_8 : decode cX5_on 8 = .ok (.bipush (-3), 2) := by decide +kernel
theorem dX5_on_10 : decode cX5_on 10 = .ok (.invokevirtual 58, 3) := by decide +kernel
theorem dX5_on_13 : decode cX5_on 13 = .ok (.ireturn, 1) := by decide +kernel
theorem dX5_on_14 : decode cX5_on 14 = .ok (.aload_n 0, 1) := by decide +kernel
theorem dX5_on_15 : decode cX5_on 15 = .ok (.getfield 10, 3) := by decide +kernel
theorem dX5_on_18 : decode cX5_on 18 = .ok (.aload_n 0, 1) := by decide +kernel
theorem dX5_on_19 : decode cX5_on 19 = .ok (.getfield 16, 3) := by decide +kernel
theorem dX5_on_22 : decode cX5_on 22 = .ok (.invokevirtual 70, 3) := by decide +kernel
theorem dX5_on_25 : decode cX5_on 25 = .ok (.aload_n 0, 1) := by decide +kernel
theorem dX5_on_26 : decode cX5_on 26 = .ok (.getfield 10, 3) := by decide +kernel
theorem dX5_on_29 : decode cX5_on 29 = .ok (.getfield 266, 3) := by decide +kernel
theorem dX5_on_32 : decode cX5_on 32 = .ok (.ireturn, 1) := by decide +kernel
theorem dX5_count_0 : decode cX5_count 0 = .ok (.iload_n 1, 1) := by decide +kernel
theorem dX5_count_1 : decode cX5_count 1 = .ok (.bipush 10, 2) := by decide +kernel
theorem dX5_count_3 : decode cX5_count 3 = .ok (.if_icmp .le 25, 3) := by decide +kernel
theorem dX5_count_6 : decode cX5_count 6 = .ok (.iload_n 1, 1) := by decide +kernel
theorem dX5_count_7 : decode cX5_count 7 = .ok (.bipush 10, 2) := by decide +kernel
theorem dX5_count_9 : decode cX5_count 9 = .ok (.isub, 1) := by decide +kernel
theorem dX5_count_10 : decode cX5_count 10 = .ok (.aload_n 0, 1) := by decide +kernel
theorem dX5_count_11 : decode cX5_count 11 = .ok (.getfield 40, 3) := by decide +kernel
theorem dX5_count_14 : decode cX5_count 14 = .ok (.arraylength, 1) := by decide +kernel
theorem dX5_count_15 : decode cX5_count 15 = .ok (.if_icmp .ge 13, 3) := by decide +kernel
theorem dX5_count_18 : decode cX5_count 18 = .ok (.aload_n 0, 1) := by decide +kernel
theorem dX5_count_19 : decode cX5_count 19 = .ok (.getfield 40, 3) := by decide +kernel
theorem dX5_count_22 : decode cX5_count 22 = .ok (.iload_n 1, 1) := by decide +kernel
theorem dX5_count_23 : decode cX5_count 23 = .ok (.bipush 10, 2) := by decide +kernel
theorem dX5_count_25 : decode cX5_count 25 = .ok (.isub, 1) := by decide +kernel
theorem dX5_count_26 : decode cX5_count 26 = .ok (.iaload, 1) := by decide +kernel
theorem dX5_count_27 : decode cX5_count 27 = .ok (.ireturn, 1) := by decide +kernel
theorem dX5_count_28 : decode cX5_count 28 = .ok (.iload_n 1, 1) := by decide +kernel
theorem dX5_count_29 : decode cX5_count 29 = .ok (.tableswitch 108 0 7 #[47, 55, 63, 71, 79, 87, 95, 100], 47) := by decide +kernel
theorem dX5_count_76 : decode cX5_count 76 = .ok (.aload_n 0, 1) := by decide +kernel
theorem dX5_count_77 : decode cX5_count 77 = .ok (.getfield 10, 3) := by decide +kernel
theorem dX5_count_80 : decode cX5_count 80 = .ok (.getfield 237, 3) := by decide +kernel
theorem dX5_count_83 : decode cX5_count 83 = .ok (.ireturn, 1) := by decide +kernel
theorem dX5_count_84 : decode cX5_count 84 = .ok (.aload_n 0, 1) := by decide +kernel
theorem dX5_count_85 : decode cX5_count 85 = .ok (.getfield 10, 3) := by decide +kernel
theorem dX5_count_88 : decode cX5_count 88 = .ok (.getfield 269, 3) := by decide +kernel
theorem dX5_count_91 : decode cX5_count 91 = .ok (.ireturn, 1) := by decide +kernel
theorem dX5_count_92 : decode cX5_count 92 = .ok (.aload_n 0, 1) := by decide +kernel
theorem dX5_count_93 : decode cX5_count 93 = .ok (.getfield 10, 3) := by decide +kernel
theorem dX5_count_96 : decode cX5_count 96 = .ok (.getfield 266, 3) := by decide +kernel
theorem dX5_count_99 : decode cX5_count 99 = .ok (.ireturn, 1) := by decide +kernel
theorem dX5_count_100 : decode cX5_count 100 = .ok (.aload_n 0, 1) := by decide +kernel
theorem dX5_count_101 : decode cX5_count 101 = .ok (.getfield 10, 3) := by decide +kernel
theorem dX5_count_104 : decode cX5_count 104 = .ok (.getfield 132, 3) := by decide +kernel
theorem dX5_count_107 : decode cX5_count 107 = .ok (.ireturn, 1) := by decide +kernel
theorem dX5_count_108 : decode cX5_count 108 = .ok (.aload_n 0, 1) := by decide +kernel
theorem dX5_count_109 : decode cX5_count 109 = .ok (.getfield 10, 3) := by decide +kernel
theorem dX5_count_112 : decode cX5_count 112 = .ok (.getfield 141, 3) := by decide +kernel
theorem dX5_count_115 : decode cX5_count 115 = .ok (.ireturn, 1) := by decide +kernel
theorem dX5_count_116 : decode cX5_count 116 = .ok (.aload_n 0, 1) := by decide +kernel
theorem dX5_count_117 : decode cX5_count 117 = .ok (.getfield 10, 3) := by decide +kernel
theorem dX5_count_120 : decode cX5_count 120 = .ok (.invokevirtual 234, 3) := by decide +kernel
theorem dX5_count_123 : decode cX5_count 123 = .ok (.ireturn, 1) := by decide +kernel
theorem dX5_count_124 : decode cX5_count 124 = .ok (.aload_n 0, 1) := by decide +kernel
theorem dX5_count_125 : decode cX5_count 125 = .ok (.getfield 252, 3) := by decide +kernel
theorem dX5_count_128 : decode cX5_count 128 = .ok (.ireturn, 1) := by decide +kernel
theorem dX5_count_129 : decode cX5_count 129 = .ok (.aload_n 0, 1) := by decide +kernel
theorem dX5_count_130 : decode cX5_count 130 = .ok (.getfield 25, 3) := by decide +kernel
theorem dX5_count_133 : decode cX5_count 133 = .ok (.getfield 66, 3) := by decide +kernel
theorem dX5_count_136 : decode cX5_count 136 = .ok (.ireturn, 1) := by decide +kernel
theorem dX5_count_137 : decode cX5_count 137 = .ok (.bipush (-9), 2) := by decide +kernel
theorem dX5_count_139 : decode cX5_count 139 = .ok (.ireturn, 1) := by decide +kernel
theorem dX5_greensAreTheRow_0 : decode cX5_greensAreTheRow 0 = .ok (.iconst 0, 1) := by decide +kernel
theorem dX5_greensAreTheRow_1 : decode cX5_greensAreTheRow 1 = .ok (.istore_n 2, 1) := by decide +kernel
theorem dX5_greensAreTheRow_2 : decode cX5_greensAreTheRow 2 = .ok (.iload_n 2, 1) := by decide +kernel
theorem dX5_greensAreTheRow_3 : decode cX5_greensAreTheRow 3 = .ok (.aload_n 0, 1) := by decide +kernel
theorem dX5_greensAreTheRow_4 : decode cX5_greensAreTheRow 4 = .ok (.getfield 252, 3) := by decide +kernel
theorem dX5_greensAreTheRow_7 : decode cX5_greensAreTheRow 7 = .ok (.if_icmp .ge 45, 3) := by decide +kernel
theorem dX5_greensAreTheRow_10 : decode cX5_greensAreTheRow 10 = .ok (.iload_n 2, 1) := by decide +kernel
theorem dX5_greensAreTheRow_11 : decode cX5_greensAreTheRow 11 = .ok (.ifCond .le 13, 3) := by decide +kernel
theorem dX5_greensAreTheRow_14 : decode cX5_greensAreTheRow 14 = .ok (.aload_n 0, 1) := by decide +kernel
theorem dX5_greensAreTheRow_15 : decode cX5_greensAreTheRow 15 = .ok (.getfield 32, 3) := by decide +kernel
theorem dX5_greensAreTheRow_18 : decode cX5_greensAreTheRow 18 = .ok (.getfield 272, 3) := by decide +kernel
theorem dX5_greensAreTheRow_21 : decode cX5_greensAreTheRow 21 = .ok (.invokevirtual 275, 3) := by decide +kernel
theorem dX5_greensAreTheRow_24 : decode cX5_greensAreTheRow 24 = .ok (.aload_n 0, 1) := by decide +kernel
theorem dX5_greensAreTheRow_25 : decode cX5_greensAreTheRow 25 = .ok (.getfield 32, 3) := by decide +kernel
theorem dX5_greensAreTheRow_28 : decode cX5_greensAreTheRow 28 = .ok (.getfield 272, 3) := by decide +kernel
theorem dX5_greensAreTheRow_31 : decode cX5_greensAreTheRow 31 = .ok (.iload_n 1, 1) := by decide +kernel
theorem dX5_greensAreTheRow_32 : decode cX5_greensAreTheRow 32 = .ok (.invokevirtual 89, 3) := by decide +kernel
theorem dX5_greensAreTheRow_35 : decode cX5_greensAreTheRow 35 = .ok (.aload_n 0, 1) := by decide +kernel
theorem dX5_greensAreTheRow_36 : decode cX5_greensAreTheRow 36 = .ok (.getfield 36, 3) := by decide +kernel
theorem dX5_greensAreTheRow_39 : decode cX5_greensAreTheRow 39 = .ok (.iload_n 2, 1) := by decide +kernel
theorem dX5_greensAreTheRow_40 : decode cX5_greensAreTheRow 40 = .ok (.iaload, 1) := by decide +kernel
theorem dX5_greensAreTheRow_41 : decode cX5_greensAreTheRow 41 = .ok (.if_icmp .eq 5, 3) := by decide +kernel
theorem dX5_greensAreTheRow_44 : decode cX5_greensAreTheRow 44 = .ok (.iconst 0, 1) := by decide +kernel
theorem dX5_greensAreTheRow_45 : decode cX5_greensAreTheRow 45 = .ok (.ireturn, 1) := by decide +kernel
theorem dX5_greensAreTheRow_46 : decode cX5_greensAreTheRow 46 = .ok (.iinc 2 1, 3) := by decide +kernel
theorem dX5_greensAreTheRow_49 : decode cX5_greensAreTheRow 49 = .ok (.goto (-47), 3) := by decide +kernel
theorem dX5_greensAreTheRow_52 : decode cX5_greensAreTheRow 52 = .ok (.iconst 1, 1) := by decide +kernel
theorem dX5_greensAreTheRow_53 : decode cX5_greensAreTheRow 53 = .ok (.ireturn, 1) := by decide +kernel
theorem dX5_firstWrongCrop_0 : decode cX5_firstWrongCrop 0 = .ok (.aload_n 0, 1) := by decide +kernel
theorem dX5_firstWrongCrop_1 : decode cX5_firstWrongCrop 1 = .ok (.getfield 32, 3) := by decide +kernel
theorem dX5_firstWrongCrop_4 : decode cX5_firstWrongCrop 4 = .ok (.aload_n 0, 1) := by decide +kernel
theorem dX5_firstWrongCrop_5 : decode cX5_firstWrongCrop 5 = .ok (.getfield 10, 3) := by decide +kernel
theorem dX5_firstWrongCrop_8 : decode cX5_firstWrongCrop 8 = .ok (.iconst 0, 1) := by decide +kernel
theorem dX5_firstWrongCrop_9 : decode cX5_firstWrongCrop 9 = .ok (.invokevirtual 144, 3) := by decide +kernel
theorem dX5_firstWrongCrop_12 : decode cX5_firstWrongCrop 12 = .ok (.astore_n 1, 1) := by decide +kernel
theorem dX5_firstWrongCrop_13 : decode cX5_firstWrongCrop 13 = .ok (.iconst 0, 1) := by decide +kernel
theorem dX5_firstWrongCrop_14 : decode cX5_firstWrongCrop 14 = .ok (.istore_n 2, 1) := by decide +kernel
theorem dX5_firstWrongCrop_15 : decode cX5_firstWrongCrop 15 = .ok (.iload_n 2, 1) := by decide +kernel
theorem dX5_firstWrongCrop_16 : decode cX5_firstWrongCrop 16 = .ok (.aload_n 0, 1) := by decide +kernel
theorem dX5_firstWrongCrop_17 : decode cX5_firstWrongCrop 17 = .ok (.getfield 252, 3) := by decide +kernel
theorem dX5_firstWrongCrop_20 : decode cX5_firstWrongCrop 20 = .ok (.if_icmp .ge 28, 3) := by decide +kernel
theorem dX5_firstWrongCrop_23 : decode cX5_firstWrongCrop 23 = .ok (.aload_n 1, 1) := by decide +kernel
theorem dX5_firstWrongCrop_24 : decode cX5_firstWrongCrop 24 = .ok (.invokevirtual 275, 3) := by decide +kernel
theorem dX5_firstWrongCrop_27 : decode cX5_firstWrongCrop 27 = .ok (.aload_n 1, 1) := by decide +kernel
theorem dX5_firstWrongCrop_28 : decode cX5_firstWrongCrop 28 = .ok (.getfield 278, 3) := by decide +kernel
theorem dX5_firstWrongCrop_31 : decode cX5_firstWrongCrop 31 = .ok (.aload_n 0, 1) := by decide +kernel
theorem dX5_firstWrongCrop_32 : decode cX5_firstWrongCrop 32 = .ok (.getfield 36, 3) := by decide +kernel
theorem dX5_firstWrongCrop_35 : decode cX5_firstWrongCrop 35 = .ok (.iload_n 2, 1) := by decide +kernel
theorem dX5_firstWrongCrop_36 : decode cX5_firstWrongCrop 36 = .ok (.iaload, 1) := by decide +kernel
theorem dX5_firstWrongCrop_37 : decode cX5_firstWrongCrop 37 = .ok (.if_icmp .eq 5, 3) := by decide +kernel
theorem dX5_firstWrongCrop_40 : decode cX5_firstWrongCrop 40 = .ok (.iload_n 2, 1) := by decide +kernel
theorem dX5_firstWrongCrop_41 : decode cX5_firstWrongCrop 41 = .ok (.ireturn, 1) := by decide +kernel
theorem dX5_firstWrongCrop_42 : decode cX5_firstWrongCrop 42 = .ok (.iinc 2 1, 3) := by decide +kernel
theorem dX5_firstWrongCrop_45 : decode cX5_firstWrongCrop 45 = .ok (.goto (-30), 3) := by decide +kernel
theorem dX5_firstWrongCrop_48 : decode cX5_firstWrongCrop 48 = .ok (.bipush (-9), 2) := by decide +kernel
theorem dX5_firstWrongCrop_50 : decode cX5_firstWrongCrop 50 = .ok (.ireturn, 1) := by decide +kernel
theorem dX5_refuse_0 : decode cX5_refuse 0 = .ok (.iload_n 1, 1) := by decide +kernel
theorem dX5_refuse_1 : decode cX5_refuse 1 = .ok (.ineg, 1) := by decide +kernel
theorem dX5_refuse_2 : decode cX5_refuse 2 = .ok (.istore_n 2, 1) := by decide +kernel
theorem dX5_refuse_3 : decode cX5_refuse 3 = .ok (.iload_n 2, 1) := by decide +kernel
theorem dX5_refuse_4 : decode cX5_refuse 4 = .ok (.ifCond .lt 22, 3) := by decide +kernel
theorem dX5_refuse_7 : decode cX5_refuse 7 = .ok (.iload_n 2, 1) := by decide +kernel
theorem dX5_refuse_8 : decode cX5_refuse 8 = .ok (.aload_n 0, 1) := by decide +kernel
theorem dX5_refuse_9 : decode cX5_refuse 9 = .ok (.getfield 40, 3) := by decide +kernel
theorem dX5_refuse_12 : decode cX5_refuse 12 = .ok (.arraylength, 1) := by decide +kernel
theorem dX5_refuse_13 : decode cX5_refuse 13 = .ok (.if_icmp .ge 13, 3) := by decide +kernel
theorem dX5_refuse_16 : decode cX5_refuse 16 = .ok (.aload_n 0, 1) := by decide +kernel
theorem dX5_refuse_17 : decode cX5_refuse 17 = .ok (.getfield 40, 3) := by decide +kernel
theorem dX5_refuse_20 : decode cX5_refuse 20 = .ok (.iload_n 2, 1) := by decide +kernel
theorem dX5_refuse_21 : decode cX5_refuse 21 = .ok (.dup2, 1) := by decide +kernel
theorem dX5_refuse_22 : decode cX5_refuse 22 = .ok (.iaload, 1) := by decide +kernel
theorem dX5_refuse_23 : decode cX5_refuse 23 = .ok (.iconst 1, 1) := by decide +kernel
theorem dX5_refuse_24 : decode cX5_refuse 24 = .ok (.iadd, 1) := by decide +kernel
theorem dX5_refuse_25 : decode cX5_refuse 25 = .ok (.iastore, 1) := by decide +kernel
theorem dX5_refuse_26 : decode cX5_refuse 26 = .ok (.iload_n 1, 1) := by decide +kernel
theorem dX5_refuse_27 : decode cX5_refuse 27 = .ok (.ireturn, 1) := by decide +kernel
theorem dX5_firstOf_0 : decode cX5_firstOf 0 = .ok (.iload_n 0, 1) := by decide +kernel
theorem dX5_firstOf_1 : decode cX5_firstOf 1 = .ok (.ifCond .eq 5, 3) := by decide +kernel
theorem dX5_firstOf_4 : decode cX5_firstOf 4 = .ok (.iload_n 0, 1) := by decide +kernel
theorem dX5_firstOf_5 : decode cX5_firstOf 5 = .ok (.ireturn, 1) := by decide +kernel
theorem dX5_firstOf_6 : decode cX5_firstOf 6 = .ok (.iload_n 1, 1) := by decide +kernel
theorem dX5_firstOf_7 : decode cX5_firstOf 7 = .ok (.ifCond .eq 7, 3) := by decide +kernel
theorem dX5_firstOf_10 : decode cX5_firstOf 10 = .ok (.iload_n 1, 1) := by decide +kernel
theorem dX5_firstOf_11 : decode cX5_firstOf 11 = .ok (.goto 4, 3) := by decide +kernel
theorem dX5_firstOf_14 : decode cX5_firstOf 14 = .ok (.iload_n 2, 1) := by decide +kernel
theorem dX5_firstOf_15 : decode cX5_firstOf 15 = .ok (.ireturn, 1) := by decide +kernel
theorem dX5_nobodyUnless_0 : decode cX5_nobodyUnless 0 = .ok (.iload_n 0, 1) := by decide +kernel
theorem dX5_nobodyUnless_1 : decode cX5_nobodyUnless 1 = .ok (.ifCond .eq 7, 3) := by decide +kernel
theorem dX5_nobodyUnless_4 : decode cX5_nobodyUnless 4 = .ok (.iconst 0, 1) := by decide +kernel
theorem dX5_nobodyUnless_5 : decode cX5_nobodyUnless 5 = .ok (.goto 4, 3) := by decide +kernel
theorem dX5_nobodyUnless_8 : decode cX5_nobodyUnless 8 = .ok (.iconst (-1), 1) := by decide +kernel
theorem dX5_nobodyUnless_9 : decode cX5_nobodyUnless 9 = .ok (.ireturn, 1) := by decide +kernel
theorem dX5_otherUnless_0 : decode cX5_otherUnless 0 = .ok (.iload_n 0, 1) := by decide +kernel
theorem dX5_otherUnless_1 : decode cX5_otherUnless 1 = .ok (.ifCond .lt 12, 3) := by decide +kernel
theorem dX5_otherUnless_4 : decode cX5_otherUnless 4 = .ok (.iload_n 0, 1) := by decide +kernel
theorem dX5_otherUnless_5 : decode cX5_otherUnless 5 = .ok (.iload_n 1, 1) := by decide +kernel
theorem dX5_otherUnless_6 : decode cX5_otherUnless 6 = .ok (.if_icmp .gt 7, 3) := by decide +kernel
theorem dX5_otherUnless_9 : decode cX5_otherUnless 9 = .ok (.iconst 0, 1) := by decide +kernel
theorem dX5_otherUnless_10 : decode cX5_otherUnless 10 = .ok (.goto 5, 3) := by decide +kernel
theorem dX5_otherUnless_13 : decode cX5_otherUnless 13 = .ok (.bipush (-2), 2) := by decide +kernel
theorem dX5_otherUnless_15 : decode cX5_otherUnless 15 = .ok (.ireturn, 1) := by decide +kernel
theorem dX5_roomIf_0 : decode cX5_roomIf 0 = .ok (.iload_n 0, 1) := by decide +kernel
theorem dX5_roomIf_1 : decode cX5_roomIf 1 = .ok (.ifCond .eq 7, 3) := by decide +kernel
theorem dX5_roomIf_4 : decode cX5_roomIf 4 = .ok (.iconst 0, 1) := by decide +kernel
theorem dX5_roomIf_5 : decode cX5_roomIf 5 = .ok (.goto 5, 3) := by decide +kernel
theorem dX5_roomIf_8 : decode cX5_roomIf 8 = .ok (.bipush (-6), 2) := by decide +kernel
theorem dX5_roomIf_10 : decode cX5_roomIf 10 = .ok (.ireturn, 1) := by decide +kernel
theorem dX5_inRange_0 : decode cX5_inRange 0 = .ok (.iload_n 0, 1) := by decide +kernel
theorem dX5_inRange_1 : decode cX5_inRange 1 = .ok (.iload_n 1, 1) := by decide +kernel
theorem dX5_inRange_2 : decode cX5_inRange 2 = .ok (.if_icmp .ge 6, 3) := by decide +kernel
theorem dX5_inRange_5 : decode cX5_inRange 5 = .ok (.bipush (-4), 2) := by decide +kernel
theorem dX5_inRange_7 : decode cX5_inRange 7 = .ok (.ireturn, 1) := by decide +kernel
theorem dX5_inRange_8 : decode cX5_inRange 8 = .ok (.iload_n 0, 1) := by decide +kernel
theorem dX5_inRange_9 : decode cX5_inRange 9 = .ok (.iload_n 2, 1) := by decide +kernel
theorem dX5_inRange_10 : decode cX5_inRange 10 = .ok (.if_icmp .le 8, 3) := by decide +kernel
theorem dX5_inRange_13 : decode cX5_inRange 13 = .ok (.bipush (-6), 2) := by decide +kernel
theorem dX5_inRange_15 : decode cX5_inRange 15 = .ok (.goto 4, 3) := by decide +kernel
theorem dX5_inRange_18 : decode cX5_inRange 18 = .ok (.iconst 0, 1) := by decide +kernel
theorem dX5_inRange_19 : decode cX5_inRange 19 = .ok (.ireturn, 1) := by decide +kernel
theorem dX5_termOf_0 : decode cX5_termOf 0 = .ok (.lload_n 0, 1) := by decide +kernel
theorem dX5_termOf_1 : decode cX5_termOf 1 = .ok (.lstore 5, 2) := by decide +kernel
theorem dX5_termOf_3 : decode cX5_termOf 3 = .ok (.lload_n 2, 1) := by decide +kernel
theorem dX5_termOf_4 : decode cX5_termOf 4 = .ok (.lstore 7, 2) := by decide +kernel
theorem dX5_termOf_6 : decode cX5_termOf 6 = .ok (.iconst 0, 1) := by decide +kernel
theorem dX5_termOf_7 : decode cX5_termOf 7 = .ok (.istore 9, 2) := by decide +kernel
theorem dX5_termOf_9 : decode cX5_termOf 9 = .ok (.iload 9, 2) := by decide +kernel
theorem dX5_termOf_11 : decode cX5_termOf 11 = .ok (.bipush 100, 2) := by decide +kernel
theorem dX5_termOf_13 : decode cX5_termOf 13 = .ok (.if_icmp .ge 31, 3) := by decide +kernel
theorem dX5_termOf_16 : decode cX5_termOf 16 = .ok (.lload 7, 2) := by decide +kernel
theorem dX5_termOf_18 : decode cX5_termOf 18 = .ok (.lconst 0, 1) := by decide +kernel
theorem dX5_termOf_19 : decode cX5_termOf 19 = .ok (.lcmp, 1) := by decide +kernel
theorem dX5_termOf_20 : decode cX5_termOf 20 = .ok (.ifCond .eq 24, 3) := by decide +kernel
theorem dX5_termOf_23 : decode cX5_termOf 23 = .ok (.lload 5, 2) := by decide +kernel
theorem dX5_termOf_25 : decode cX5_termOf 25 = .ok (.lload 7, 2) := by decide +kernel
theorem dX5_termOf_27 : decode cX5_termOf 27 = .ok (.lrem, 1) := by decide +kernel
theorem dX5_termOf_28 : decode cX5_termOf 28 = .ok (.lstore 10, 2) := by decide +kernel
theorem dX5_termOf_30 : decode cX5_termOf 30 = .ok (.lload 7, 2) := by decide +kernel
theorem dX5_termOf_32 : decode cX5_termOf 32 = .ok (.lstore 5, 2) := by decide +kernel
theorem dX5_termOf_34 : decode cX5_termOf 34 = .ok (.lload 10, 2) := by decide +kernel
theorem dX5_termOf_36 : decode cX5_termOf 36 = .ok (.lstore 7, 2) := by decide +kernel
theorem dX5_termOf_38 : decode cX5_termOf 38 = .ok (.iinc 9 1, 3) := by decide +kernel
theorem dX5_termOf_41 : decode cX5_termOf 41 = .ok (.goto (-32), 3) := by decide +kernel
theorem dX5_termOf_44 : decode cX5_termOf 44 = .ok (.lconst 1, 1) := by decide +kernel
theorem dX5_termOf_45 : decode cX5_termOf 45 = .ok (.lload 5, 2) := by decide +kernel
theorem dX5_termOf_47 : decode cX5_termOf 47 = .ok (.invokestatic 281, 3) := by decide +kernel
theorem dX5_termOf_50 : decode cX5_termOf 50 = .ok (.lstore 9, 2) := by decide +kernel
theorem dX5_termOf_52 : decode cX5_termOf 52 = .ok (.iload 4, 2) := by decide +kernel
theorem dX5_termOf_54 : decode cX5_termOf 54 = .ok (.ifCond .ne 7, 3) := by decide +kernel
theorem dX5_termOf_57 : decode cX5_termOf 57 = .ok (.lload_n 0, 1) := by decide +kernel
theorem dX5_termOf_58 : decode cX5_termOf 58 = .ok (.goto 4, 3) := by decide +kernel
theorem dX5_termOf_61 : decode cX5_termOf 61 = .ok (.lload_n 2, 1) := by decide +kernel
theorem dX5_termOf_62 : decode cX5_termOf 62 = .ok (.lload 9, 2) := by decide +kernel
theorem dX5_termOf_64 : decode cX5_termOf 64 = .ok (.ldiv, 1) := by decide +kernel
theorem dX5_termOf_65 : decode cX5_termOf 65 = .ok (.lreturn, 1) := by decide +kernel
