theorem dX1_init_0 : decode cX1_init 0 = .ok (.aload_n 0, 1) := by decide +kernel
theorem dX1_init_1 : decode cX1_init 1 = .ok (.invokespecial 3, 3) := by decide +kernel
theorem dX1_init_4 : decode cX1_init 4 = .ok (.aload_n 0, 1) := by decide +kernel
theorem dX1_init_5 : decode cX1_init 5 = .ok (.bipush 8, 2) := by decide +kernel
theorem dX1_init_7 : decode cX1_init 7 = .ok (.newarray .int, 2) := by decide +kernel
theorem dX1_init_9 : decode cX1_init 9 = .ok (.putfield 9, 3) := by decide +kernel
theorem dX1_init_12 : decode cX1_init 12 = .ok (.aload_n 0, 1) := by decide +kernel
theorem dX1_init_13 : decode cX1_init 13 = .ok (.bipush 8, 2) := by decide +kernel
theorem dX1_init_15 : decode cX1_init 15 = .ok (.newarray .int, 2) := by decide +kernel
theorem dX1_init_17 : decode cX1_init 17 = .ok (.putfield 15, 3) := by decide +kernel
theorem dX1_init_20 : decode cX1_init 20 = .ok (.aload_n 0, 1) := by decide +kernel
theorem dX1_init_21 : decode cX1_init 21 = .ok (.new 18, 3) := by decide +kernel
theorem dX1_init_24 : decode cX1_init 24 = .ok (.dup, 1) := by decide +kernel
theorem dX1_init_25 : decode cX1_init 25 = .ok (.invokespecial 20, 3) := by decide +kernel
theorem dX1_init_28 : decode cX1_init 28 = .ok (.putfield 21, 3) := by decide +kernel
theorem dX1_init_31 : decode cX1_init 31 = .ok (.return_, 1) := by decide +kernel
theorem dX1_narrow_0 : decode cX1_narrow 0 = .ok (.iconst 0, 1) := by decide +kernel
theorem dX1_narrow_1 : decode cX1_narrow 1 = .ok (.istore_n 2, 1) := by decide +kernel
theorem dX1_narrow_2 : decode cX1_narrow 2 = .ok (.iload_n 2, 1) := by decide +kernel
theorem dX1_narrow_3 : decode cX1_narrow 3 = .ok (.bipush 8, 2) := by decide +kernel
theorem dX1_narrow_5 : decode cX1_narrow 5 = .ok (.if_icmp .ge 19, 3) := by decide +kernel
theorem dX1_narrow_8 : decode cX1_narrow 8 = .ok (.aload_n 0, 1) := by decide +kernel
theorem dX1_narrow_9 : decode cX1_narrow 9 = .ok (.getfield 9, 3) := by decide +kernel
theorem dX1_narrow_12 : decode cX1_narrow 12 = .ok (.iload_n 2, 1) := by decide +kernel
theorem dX1_narrow_13 : decode cX1_narrow 13 = .ok (.dup2, 1) := by decide +kernel
theorem dX1_narrow_14 : decode cX1_narrow 14 = .ok (.iaload, 1) := by decide +kernel
theorem dX1_narrow_15 : decode cX1_narrow 15 = .ok (.iload_n 1, 1) := by decide +kernel
theorem dX1_narrow_16 : decode cX1_narrow 16 = .ok (.iand, 1) := by decide +kernel
theorem dX1_narrow_17 : decode cX1_narrow 17 = .ok (.iastore, 1) := by decide +kernel
theorem dX1_narrow_18 : decode cX1_narrow 18 = .ok (.iinc 2 1, 3) := by decide +kernel
theorem dX1_narrow_21 : decode cX1_narrow 21 = .ok (.goto (-19), 3) := by decide +kernel
theorem dX1_narrow_24 : decode cX1_narrow 24 = .ok (.return_, 1) := by decide +kernel
theorem dX1_tryBlock_0 : decode cX1_tryBlock 0 = .ok (.aload_n 0, 1) := by decide +kernel
theorem dX1_tryBlock_1 : decode cX1_tryBlock 1 = .ok (.getfield 9, 3) := by decide +kernel
theorem dX1_tryBlock_4 : decode cX1_tryBlock 4 = .ok (.iconst 0, 1) := by decide +kernel
theorem dX1_tryBlock_5 : decode cX1_tryBlock 5 = .ok (.aload_n 0, 1) := by decide +kernel
theorem dX1_tryBlock_6 : decode cX1_tryBlock 6 = .ok (.getfield 15, 3) := by decide +kernel
theorem dX1_tryBlock_9 : decode cX1_tryBlock 9 = .ok (.iconst 0, 1) := by decide +kernel
theorem dX1_tryBlock_10 : decode cX1_tryBlock 10 = .ok (.bipush 8, 2) := by decide +kernel
theorem dX1_tryBlock_12 : decode cX1_tryBlock 12 = .ok (.invokestatic 25, 3) := by decide +kernel
theorem dX1_tryBlock_15 : decode cX1_tryBlock 15 = .ok (.aload_n 0, 1) := by decide +kernel
theorem dX1_tryBlock_16 : decode cX1_tryBlock 16 = .ok (.aload_n 1, 1) := by decide +kernel
theorem dX1_tryBlock_17 : decode cX1_tryBlock 17 = .ok (.iload_n 2, 1) := by decide +kernel
theorem dX1_tryBlock_18 : decode cX1_tryBlock 18 = .ok (.aload_n 0, 1) := by decide +kernel
theorem dX1_tryBlock_19 : decode cX1_tryBlock 19 = .ok (.getfield 15, 3) := by decide +kernel
theorem dX1_tryBlock_22 : decode cX1_tryBlock 22 = .ok (.iload_n 3, 1) := by decide +kernel
theorem dX1_tryBlock_23 : decode cX1_tryBlock 23 = .ok (.invokevirtual 31, 3) := by decide +kernel
theorem dX1_tryBlock_26 : decode cX1_tryBlock 26 = .ok (.return_, 1) := by decide +kernel
theorem dX1_triedIsSame_0 : decode cX1_triedIsSame 0 = .ok (.iconst 0, 1) := by decide +kernel
theorem dX1_triedIsSame_1 : decode cX1_triedIsSame 1 = .ok (.istore_n 1, 1) := by decide +kernel
theorem dX1_triedIsSame_2 : decode cX1_triedIsSame 2 = .ok (.iload_n 1, 1) := by decide +kernel
theorem dX1_triedIsSame_3 : decode cX1_triedIsSame 3 = .ok (.bipush 8, 2) := by decide +kernel
theorem dX1_triedIsSame_5 : decode cX1_triedIsSame 5 = .ok (.if_icmp .ge 26, 3) := by decide +kernel
theorem dX1_triedIsSame_8 : decode cX1_triedIsSame 8 = .ok (.aload_n 0, 1) := by decide +kernel
theorem dX1_triedIsSame_9 : decode cX1_triedIsSame 9 = .ok (.getfield 15, 3) := by decide +kernel
theorem dX1_triedIsSame_12 : decode cX1_triedIsSame 12 = .ok (.iload_n 1, 1) := by decide +kernel
theorem dX1_triedIsSame_13 : decode cX1_triedIsSame 13 = .ok (.iaload, 1) := by decide +kernel
theorem dX1_triedIsSame_14 : decode cX1_triedIsSame 14 = .ok (.aload_n 0, 1) := by decide +kernel
theorem dX1_triedIsSame_15 : decode cX1_triedIsSame 15 = .ok (.getfield 9, 3) := by decide +kernel
theorem dX1_triedIsSame_18 : decode cX1_triedIsSame 18 = .ok (.iload_n 1, 1) := by decide +kernel
theorem dX1_triedIsSame_19 : decode cX1_triedIsSame 19 = .ok (.iaload, 1) := by decide +kernel
theorem dX1_triedIsSame_20 : decode cX1_triedIsSame 20 = .ok (.if_icmp .eq 5, 3) := by decide +kernel
theorem dX1_triedIsSame_23 : decode cX1_triedIsSame 23 = .ok (.iconst 0, 1) := by decide +kernel
theorem dX1_triedIsSame_24 : decode cX1_triedIsSame 24 = .ok (.ireturn, 1) := by decide +kernel
theorem dX1_triedIsSame_25 : decode cX1_triedIsSame 25 = .ok (.iinc 1 1, 3) := by decide +kernel
theorem dX1_triedIsSame_28 : decode cX1_triedIsSame 28 = .ok (.goto (-26), 3) := by decide +kernel
theorem dX1_triedIsSame_31 : decode cX1_triedIsSame 31 = .ok (.iconst 1, 1) := by decide +kernel
theorem dX1_triedIsSame_32 : decode cX1_triedIsSame 32 = .ok (.ireturn, 1) := by decide +kernel
theorem dX1_doBlock_0 : decode cX1_doBlock 0 = .ok (.aload_n 1, 1) := by decide +kernel
theorem dX1_doBlock_1 : decode cX1_doBlock 1 = .ok (.getfield 35, 3) := by decide +kernel
theorem dX1_doBlock_4 : decode cX1_doBlock 4 = .ok (.iload_n 2, 1) := by decide +kernel
theorem dX1_doBlock_5 : decode cX1_doBlock 5 = .ok (.iaload, 1) := by decide +kernel
theorem dX1_doBlock_6 : decode cX1_doBlock 6 = .ok (.istore 5, 2) := by decide +kernel
theorem dX1_doBlock_8 : decode cX1_doBlock 8 = .ok (.iload 5, 2) := by decide +kernel
theorem dX1_doBlock_10 : decode cX1_doBlock 10 = .ok (.aload_n 1, 1) := by decide +kernel
theorem dX1_doBlock_11 : decode cX1_doBlock 11 = .ok (.getfield 35, 3) := by decide +kernel
theorem dX1_doBlock_14 : decode cX1_doBlock 14 = .ok (.iload_n 2, 1) := by decide +kernel
theorem dX1_doBlock_15 : decode cX1_doBlock 15 = .ok (.iconst 1, 1) := by decide +kernel
theorem dX1_doBlock_16 : decode cX1_doBlock 16 = .ok (.iadd, 1) := by decide +kernel
theorem dX1_doBlock_17 : decode cX1_doBlock 17 = .ok (.iaload, 1) := by decide +kernel
theorem dX1_doBlock_18 : decode cX1_doBlock 18 = .ok (.if_icmp .ge 50, 3) := by decide +kernel
theorem dX1_doBlock_21 : decode cX1_doBlock 21 = .ok (.aload_n 1, 1) := by decide +kernel
theorem dX1_doBlock_22 : decode cX1_doBlock 22 = .ok (.getfield 40, 3) := by decide +kernel
theorem dX1_doBlock_25 : decode cX1_doBlock 25 = .ok (.iload 5, 2) := by decide +kernel
theorem dX1_doBlock_27 : decode cX1_doBlock 27 = .ok (.iaload, 1) := by decide +kernel
theorem dX1_doBlock_28 : decode cX1_doBlock 28 = .ok (.istore 6, 2) := by decide +kernel
theorem dX1_doBlock_30 : decode cX1_doBlock 30 = .ok (.iload 6, 2) := by decide +kernel
theorem dX1_doBlock_32 : decode cX1_doBlock 32 = .ok (.iconst (-1), 1) := by decide +kernel
theorem dX1_doBlock_33 : decode cX1_doBlock 33 = .ok (.if_icmp .eq 10, 3) := by decide +kernel
theorem dX1_doBlock_36 : decode cX1_doBlock 36 = .ok (.aload_n 3, 1) := by decide +kernel
theorem dX1_doBlock_37 : decode cX1_doBlock 37 = .ok (.iload 6, 2) := by decide +kernel
theorem dX1_doBlock_39 : decode cX1_doBlock 39 = .ok (.iaload, 1) := by decide +kernel
theorem dX1_doBlock_40 : decode cX1_doBlock 40 = .ok (.ifCond .eq 22, 3) := by decide +kernel
theorem dX1_doBlock_43 : decode cX1_doBlock 43 = .ok (.aload_n 3, 1) := by decide +kernel
theorem dX1_doBlock_44 : decode cX1_doBlock 44 = .ok (.aload_n 1, 1) := by decide +kernel
theorem dX1_doBlock_45 : decode cX1_doBlock 45 = .ok (.getfield 43, 3) := by decide +kernel
theorem dX1_doBlock_48 : decode cX1_doBlock 48 = .ok (.iload 5, 2) := by decide +kernel
theorem dX1_doBlock_50 : decode cX1_doBlock 50 = .ok (.iaload, 1) := by decide +kernel
theorem dX1_doBlock_51 : decode cX1_doBlock 51 = .ok (.aload_n 0, 1) := by decide +kernel
theorem dX1_doBlock_52 : decode cX1_doBlock 52 = .ok (.aload_n 1, 1) := by decide +kernel
theorem dX1_doBlock_53 : decode cX1_doBlock 53 = .ok (.iload 5, 2) := by decide +kernel
theorem dX1_doBlock_55 : decode cX1_doBlock 55 = .ok (.aload_n 3, 1) := by decide +kernel
theorem dX1_doBlock_56 : decode cX1_doBlock 56 = .ok (.iload 4, 2) := by decide +kernel
theorem dX1_doBlock_58 : decode cX1_doBlock 58 = .ok (.invokevirtual 46, 3) := by decide +kernel
theorem dX1_doBlock_61 : decode cX1_doBlock 61 = .ok (.iastore, 1) := by decide +kernel
theorem dX1_doBlock_62 : decode cX1_doBlock 62 = .ok (.iinc 5 1, 3) := by decide +kernel
theorem dX1_doBlock_65 : decode cX1_doBlock 65 = .ok (.goto (-57), 3) := by decide +kernel
theorem dX1_doBlock_68 : decode cX1_doBlock 68 = .ok (.return_, 1) := by decide +kernel
theorem dX1_worth_0 : decode cX1_worth 0 = .ok (.aload_n 0, 1) := by decide +kernel
theorem dX1_worth_1 : decode cX1_worth 1 = .ok (.getfield 21, 3) := by decide +kernel
theorem dX1_worth_4 : decode cX1_worth 4 = .ok (.invokevirtual 50, 3) := by decide +kernel
theorem dX1_worth_7 : decode cX1_worth 7 = .ok (.aload_n 1, 1) := by decide +kernel
theorem dX1_worth_8 : decode cX1_worth 8 = .ok (.getfield 53, 3) := by decide +kernel
theorem dX1_worth_11 : decode cX1_worth 11 = .ok (.iload_n 2, 1) := by decide +kernel
theorem dX1_worth_12 : decode cX1_worth 12 = .ok (.iaload, 1) := by decide +kernel
theorem dX1_worth_13 : decode cX1_worth 13 = .ok (.istore 5, 2) := by decide +kernel
theorem dX1_worth_15 : decode cX1_worth 15 = .ok (.iload 5, 2) := by decide +kernel
theorem dX1_worth_17 : decode cX1_worth 17 = .ok (.aload_n 1, 1) := by decide +kernel
theorem dX1_worth_18 : decode cX1_worth 18 = .ok (.getfield 53, 3) := by decide +kernel
theorem dX1_worth_21 : decode cX1_worth 21 = .ok (.iload_n 2, 1) := by decide +kernel
theorem dX1_worth_22 : decode cX1_worth 22 = .ok (.iconst 1, 1) := by decide +kernel
theorem dX1_worth_23 : decode cX1_worth 23 = .ok (.iadd, 1) := by decide +kernel
theorem dX1_worth_24 : decode cX1_worth 24 = .ok (.iaload, 1) := by decide +kernel
theorem dX1_worth_25 : decode cX1_worth 25 = .ok (.if_icmp .ge 130, 3) := by decide +kernel
theorem dX1_worth_28 : decode cX1_worth 28 = .ok (.aload_n 1, 1) := by decide +kernel
theorem dX1_worth_29 : decode cX1_worth 29 = .ok (.getfield 56, 3) := by decide +kernel
theorem dX1_worth_32 : decode cX1_worth 32 = .ok (.iload 5, 2) := by decide +kernel
theorem dX1_worth_34 : decode cX1_worth 34 = .ok (.iaload, 1) := by decide +kernel
theorem dX1_worth_35 : decode cX1_worth 35 = .ok (.istore 6, 2) := by decide +kernel
theorem dX1_worth_37 : decode cX1_worth 37 = .ok (.aload_n 1, 1) := by decide +kernel
theorem dX1_worth_38 : decode cX1_worth 38 = .ok (.getfield 59, 3) := by decide +kernel
theorem dX1_worth_41 : decode cX1_worth 41 = .ok (.iload 5, 2) := by decide +kernel
theorem dX1_worth_43 : decode cX1_worth 43 = .ok (.iaload, 1) := by decide +kernel
theorem dX1_worth_44 : decode cX1_worth 44 = .ok (.istore 7, 2) := by decide +kernel
theorem dX1_worth_46 : decode cX1_worth 46 = .ok (.iload 6, 2) := by decide +kernel
theorem dX1_worth_48 : decode cX1_worth 48 = .ok (.iconst 4, 1) := by decide +kernel
theorem dX1_worth_49 : decode cX1_worth 49 = .ok (.if_icmp .ne 17, 3) := by decide +kernel
theorem dX1_worth_52 : decode cX1_worth 52 = .ok (.aload_n 0, 1) := by decide +kernel
theorem dX1_worth_53 : decode cX1_worth 53 = .ok (.getfield 21, 3) := by decide +kernel
theorem dX1_worth_56 : decode cX1_worth 56 = .ok (.aload_n 3, 1) := by decide +kernel
theorem dX1_worth_57 : decode cX1_worth 57 = .ok (.iload 7, 2) := by decide +kernel
theorem dX1_worth_59 : decode cX1_worth 59 = .ok (.iaload, 1) := by decide +kernel
theorem dX1_worth_60 : decode cX1_worth 60 = .ok (.invokevirtual 62, 3) := by decide +kernel
theorem dX1_worth_63 : decode cX1_worth 63 = .ok (.goto 86, 3) := by decide +kernel
theorem dX1_worth_66 : decode cX1_worth 66 = .ok (.iload 6, 2) := by decide +kernel
theorem dX1_worth_68 : decode cX1_worth 68 = .ok (.iconst 3, 1) := by decide +kernel
theorem dX1_worth_69 : decode cX1_worth 69 = .ok (.if_icmp .ne 18, 3) := by decide +kernel
theorem dX1_worth_72 : decode cX1_worth 72 = .ok (.aload_n 0, 1) := by decide +kernel
theorem dX1_worth_73 : decode cX1_worth 73 = .ok (.getfield 21, 3) := by decide +kernel
theorem dX1_worth_76 : decode cX1_worth 76 = .ok (.iload 7, 2) := by decide +kernel
theorem dX1_worth_78 : decode cX1_worth 78 = .ok (.iload 4, 2) := by decide +kernel
theorem dX1_worth_80 : decode cX1_worth 80 = .ok (.iand, 1) := by decide +kernel
theorem dX1_worth_81 : decode cX1_worth 81 = .ok (.invokevirtual 62, 3) := by decide +kernel
theorem dX1_worth_84 : decode cX1_worth 84 = .ok (.goto 65, 3) := by decide +kernel
theorem dX1_worth_87 : decode cX1_worth 87 = .ok (.iload 6, 2) := by decide +kernel
theorem dX1_worth_89 : decode cX1_worth 89 = .ok (.bipush 126, 2) := by decide +kernel
theorem dX1_worth_91 : decode cX1_worth 91 = .ok (.if_icmp .ne 25, 3) := by decide +kernel
theorem dX1_worth_94 : decode cX1_worth 94 = .ok (.aload_n 0, 1) := by decide +kernel
theorem dX1_worth_95 : decode cX1_worth 95 = .ok (.getfield 21, 3) := by decide +kernel
theorem dX1_worth_98 : decode cX1_worth 98 = .ok (.aload_n 0, 1) := by decide +kernel
theorem dX1_worth_99 : decode cX1_worth 99 = .ok (.getfield 21, 3) := by decide +kernel
theorem dX1_worth_102 : decode cX1_worth 102 = .ok (.invokevirtual 66, 3) := by decide +kernel
theorem dX1_worth_105 : decode cX1_worth 105 = .ok (.iconst (-1), 1) := by decide +kernel
theorem dX1_worth_106 : decode cX1_worth 106 = .ok (.ixor, 1) := by decide +kernel
theorem dX1_worth_107 : decode cX1_worth 107 = .ok (.iload 4, 2) := by decide +kernel
theorem dX1_worth_109 : decode cX1_worth 109 = .ok (.iand, 1) := by decide +kernel
theorem dX1_worth_110 : decode cX1_worth 110 = .ok (.invokevirtual 62, 3) := by decide +kernel
theorem dX1_worth_113 : decode cX1_worth 113 = .ok (.goto 36, 3) := by decide +kernel
theorem dX1_worth_116 : decode cX1_worth 116 = .ok (.aload_n 0, 1) := by decide +kernel
theorem dX1_worth_117 : decode cX1_worth 117 = .ok (.getfield 21, 3) := by decide +kernel
theorem dX1_worth_120 : decode cX1_worth 120 = .ok (.invokevirtual 66, 3) := by decide +kernel
theorem dX1_worth_123 : decode cX1_worth 123 = .ok (.istore 8, 2) := by decide +kernel
theorem dX1_worth_125 : decode cX1_worth 125 = .ok (.aload_n 0, 1) := by decide +kernel
theorem dX1_worth_126 : decode cX1_worth 126 = .ok (.getfield 21, 3) := by decide +kernel
theorem dX1_worth_129 : decode cX1_worth 129 = .ok (.iload 6, 2) := by decide +kernel
theorem dX1_worth_131 : decode cX1_worth 131 = .ok (.aload_n 0, 1) := by decide +kernel
theorem dX1_worth_132 : decode cX1_worth 132 = .ok (.getfield 21, 3) := by decide +kernel
theorem dX1_worth_135 : decode cX1_worth 135 = .ok (.invokevirtual 66, 3) := by decide +kernel
theorem dX1_worth_138 : decode cX1_worth 138 = .ok (.iload 8, 2) := by decide +kernel
theorem dX1_worth_140 : decode cX1_worth 140 = .ok (.invokestatic 70, 3) := by decide +kernel
theorem dX1_worth_143 : decode cX1_worth 143 = .ok (.iload 4, 2) := by decide +kernel
theorem dX1_worth_145 : decode cX1_worth 145 = .ok (.iand, 1) := by decide +kernel
theorem dX1_worth_146 : decode cX1_worth 146 = .ok (.invokevirtual 62, 3) := by decide +kernel
theorem dX1_worth_149 : decode cX1_worth 149 = .ok (.iinc 5 1, 3) := by decide +kernel
theorem dX1_worth_152 : decode cX1_worth 152 = .ok (.goto (-137), 3) := by decide +kernel
theorem dX1_worth_155 : decode cX1_worth 155 = .ok (.aload_n 0, 1) := by decide +kernel
theorem dX1_worth_156 : decode cX1_worth 156 = .ok (.getfield 21, 3) := by decide +kernel
theorem dX1_worth_159 : decode cX1_worth 159 = .ok (.invokevirtual 66, 3) := by decide +kernel
theorem dX1_worth_162 : decode cX1_worth 162 = .ok (.ireturn, 1) := by decide +kernel
theorem dX1_joined_0 : decode cX1_joined 0 = .ok (.iload_n 0, 1) := by decide +kernel
theorem dX1_joined_1 : decode cX1_joined 1 = .ok (.lookupswitch 83 #[(38, 71), (42, 67), (43, 59), (45, 63), (94, 79), (124, 75)], 59) := by decide +kernel
theorem dX1_joined_60 : decode cX1_joined 60 = .ok (.iload_n 1, 1) := by decide +kernel
theorem dX1_joined_61 : decode cX1_joined 61 = .ok (.iload_n 2, 1) := by decide +kernel
theorem dX1_joined_62 : decode cX1_joined 62 = .ok (.iadd, 1) := by decide +kernel
theorem dX1_joined_63 : decode cX1_joined 63 = .ok (.ireturn, 1) := by decide +kernel
theorem dX1_joined_64 : decode cX1_joined 64 = .ok (.iload_n 1, 1) := by decide +kernel
theorem dX1_joined_65 : decode cX1_joined 65 = .ok (.iload_n 2, 1) := by decide +kernel
theorem dX1_joined_66 : decode cX1_joined 66 = .ok (.isub, 1) := by decide +kernel
theorem dX1_joined_67 : decode cX1_joined 67 = .ok (.ireturn, 1) := by decide +kernel
theorem dX1_joined_68 : decode cX1_joined 68 = .ok (.iload_n 1, 1) := by decide +kernel
theorem dX1_joined_69 : decode cX1_joined 69 = .ok (.iload_n 2, 1) := by decide +kernel
theorem dX1_joined_70 : decode cX1_joined 70 = .ok (.imul, 1) := by decide +kernel
theorem dX1_joined_71 : decode cX1_joined 71 = .ok (.ireturn, 1) := by decide +kernel
theorem dX1_joined_72 : decode cX1_joined 72 = .ok (.iload_n 1, 1) := by decide +kernel
theorem dX1_joined_73 : decode cX1_joined 73 = .ok (.iload_n 2, 1) := by decide +kernel
theorem dX1_joined_74 : decode cX1_joined 74 = .ok (.iand, 1) := by decide +kernel
theorem dX1_joined_75 : decode cX1_joined 75 = .ok (.ireturn, 1) := by decide +kernel
theorem dX1_joined_76 : decode cX1_joined 76 = .ok (.iload_n 1, 1) := by decide +kernel
theorem dX1_joined_77 : decode cX1_joined 77 = .ok (.iload_n 2, 1) := by decide +kernel
theorem dX1_joined_78 : decode cX1_joined 78 = .ok (.ior, 1) := by decide +kernel
theorem dX1_joined_79 : decode cX1_joined 79 = .ok (.ireturn, 1) := by decide +kernel
theorem dX1_joined_80 : decode cX1_joined 80 = .ok (.iload_n 1, 1) := by decide +kernel
theorem dX1_joined_81 : decode cX1_joined 81 = .ok (.iload_n 2, 1) := by decide +kernel
theorem dX1_joined_82 : decode cX1_joined 82 = .ok (.ixor, 1) := by decide +kernel
theorem dX1_joined_83 : decode cX1_joined 83 = .ok (.ireturn, 1) := by decide +kernel
theorem dX1_joined_84 : decode cX1_joined 84 = .ok (.iload_n 1, 1) := by decide +kernel
theorem dX1_joined_85 : decode cX1_joined 85 = .ok (.iload_n 2, 1) := by decide +kernel
theorem dX1_joined_86 : decode cX1_joined 86 = .ok (.if_icmp .ge 7, 3) := by decide +kernel
theorem dX1_joined_89 : decode cX1_joined 89 = .ok (.iconst 1, 1) := by decide +kernel
theorem dX1_joined_90 : decode cX1_joined 90 = .ok (.goto 4, 3) := by decide +kernel
theorem dX1_joined_93 : decode cX1_joined 93 = .ok (.iconst 0, 1) := by decide +kernel
theorem dX1_joined_94 : decode cX1_joined 94 = .ok (.ireturn, 1) := by decide +kernel
def fX1_narrow_L2 (p1 : Int32) (J24_2 : Ar → Option (Ar)) (n : Nat) (x3 : Int32) (oN_4 : Ar) : Option (Ar) := zLp2 (fun (go5 : Int32 → Ar → Option (Ar)) (x3 : Int32) (oN_4 : Ar) =>
    if (8 : Int32) ≤ x3 then (
      J24_2 oN_4
    ) else (
      zGd (inb x3 8) <|
      zGd (inb x3 8) <|
      zLet (upd oN_4 x3.toNatClampNeg ((oN_4 x3.toNatClampNeg) &&& p1)) fun oN_6 =>
      zLet (x3 + 1) fun x7 =>
      go5 x7 oN_6
    )
  ) n x3 oN_4
def fX1_narrow (NN : Nat) (oN : Ar) (p1 : Int32) : Option (Ar) :=
  zJn (fun (oN_1 : Ar) =>
      some oN_1
    ) fun J24_2 =>
  fX1_narrow_L2 p1 J24_2 NN (0 : Int32) oN
abbrev rX1_narrow : Room := { frames := 0, cells := 0, slots := 0, locals := 0 }
set_option maxHeartbeats 4000000 in
set_option maxRecDepth 100000 in
theorem mtX1_narrow (l : Launch) (dC : Nat → ClassId) (dI : Nat → Nat → Nat) (cI cB : ClassId) (aM aN aY aQ : Nat → Nat) (sz : Nat) (NN : Nat) (oN : Ar) (p1 : Int32) {oN' : Ar} (hf : fX1_narrow NN oN p1 = some oN') : zMv l yX1_narrow (Cond.code yX1_narrow cX1_narrow 3 none :: lw_g) rX1_narrow (dC, dI) [(cI, .int), (cB, .byte)] [.ref (aM 0), .int p1] sz (kX1 cI cB aM (aN 0) (aY 0) (aQ 0) ++ kA8 cI cB aN oN) (kX1 cI cB aM (aN 0) (aY 0) (aQ 0) ++ kA8 cI cB aN oN') := by
  refine zSt (cc := cX1_narrow) (maxL := 3) (ret := none) (own := RX1) (fun A => zQv (dC, dI) [(cI, .int), (cB, .byte)] A (kX1 cI cB aM (aN 0) (aY 0) (aQ 0) ++ kA8 cI cB aN oN')) (by decide) rfl rfl (Nat.le_of_ble_eq_true rfl) ?_
  intro p e s m below meth c ls A H locs C hK hA hP hD hS hl
  generalize hQ : MQ below (zQv (dC, dI) [(cI, .int), (cB, .byte)] A (kX1 cI cB aM (aN 0) (aY 0) (aQ 0) ++ kA8 cI cB aN oN')) _ s 0 0 A = QQ
  generalize ([.ref (aM 0), .int p1] : List Value).toArray = args at C hQ ⊢
  have hl : lv_has ls 3 [(0, .ref (aM 0)), (1, .int p1)] := hl
  unfold fX1_narrow at hf
  refine lv_iconst (v := 0) C.1.1 C.1.2.1 dX1_narrow_0 (by decide) ?_
  refine lv_istore_n (lv' := [(2, .int (0 : Int32)), (0, .ref (aM 0)), (1, .int p1)]) C.1.1 C.1.2.1 dX1_narrow_1 rfl hl (by decide) rfl (fun ls hl => ?_)
  obtain ⟨J24_2, eJ24_2, hf⟩ := zJn_el hf
  have hJ24_2 : ∀ (oN_1 : Ar), J24_2 oN_1 = some oN' → ∀ (H : Heap) (locs : List Loc), va_P (dC, dI) vwCl (kX1 cI cB aM (aN 0) (aY 0) (aQ 0) ++ kA8 cI cB aN oN_1) H → va_D A (kX1 cI cB aM (aN 0) (aY 0) (aQ 0) ++ kA8 cI cB aN oN_1) → va_S A s.heap H locs → ∀ (ls : Array Slot), lv_has ls 3 [] → W p l e rX1_narrow s m args below meth c H locs 0 0 QQ (F0 m 24 ls []) := by
    intro oN_1 hf H locs hP hD hS ls hl
    rw [eJ24_2] at hf
    cases hf
    rw [← hQ]
    exact zRv C hK hP hD hS dX1_narrow_24
  refine zLp2_ind (o := oN') (P := fun (x3 : Int32) (oN_4 : Ar) => ∀ (H : Heap) (locs : List Loc), va_P (dC, dI) vwCl (kX1 cI cB aM (aN 0) (aY 0) (aQ 0) ++ kA8 cI cB aN oN_4) H → va_D A (kX1 cI cB aM (aN 0) (aY 0) (aQ 0) ++ kA8 cI cB aN oN_4) → va_S A s.heap H locs → ∀ (ls : Array Slot), lv_has ls 3 [(0, .ref (aM 0)), (1, .int p1), (2, .int x3)] → W p l e rX1_narrow s m args below meth c H locs 0 0 QQ (F0 m 2 ls [])) (fun go5 ihgo5 x3 oN_4 hf H locs hP hD hS ls hl => ?_) _ (0 : Int32) oN hf H locs hP hD hS ls (lv_sub hl [1, 2, 0] rfl)
  refine lv_iload_n C.1.1 C.1.2.1 dX1_narrow_2 rfl (lv_at hl 2 rfl) ?_
  refine lv_bipush (v := 8) C.1.1 C.1.2.1 dX1_narrow_3 (by decide) ?_
  refine lv_icmp_ge (tgt := 24) C.1.1 C.1.2.1 dX1_narrow_5 (by decide) (fun hc => ?_) (fun hc => ?_)
  · replace hf := zIf_t hf hc
    exact hJ24_2 oN_4 hf H locs hP hD hS ls (lv_sub hl [] rfl)
  · replace hf := zIf_f hf hc
    refine lv_aload_n C.1.1 C.1.2.1 dX1_narrow_8 rfl (lv_at hl 0 rfl) ?_
    refine zGet (.ref (aN 0)) C.1 wuX1 hK hP 0 rfl rfl 0 (by decide) wfX1_9 rfl rfl dX1_narrow_9 ?_
    refine lv_iload_n C.1.1 C.1.2.1 dX1_narrow_12 rfl (lv_at hl 2 rfl) ?_
    refine lv_dup2_11 C.1.1 C.1.2.1 dX1_narrow_13 rfl rfl ?_
    obtain ⟨hib, hf⟩ := zGd_el hf
    refine va_iald C.1.1 C.1.2.1 hK.1 hP 1 0 rfl rfl hib dX1_narrow_14 ?_
    refine lv_iload_n C.1.1 C.1.2.1 dX1_narrow_15 rfl (lv_at hl 1 rfl) ?_
    refine lv_iand C.1.1 C.1.2.1 dX1_narrow_16 ?_
    obtain ⟨hib, hf⟩ := zGd_el hf
    obtain ⟨oN_6, eoN_6, hf⟩ := zLet_el hf
    refine zIast (kX1 cI cB aM (aN 0) (aY 0) (aQ 0) ++ kA8 cI cB aN oN_6) C.1 hK hP hD hS 1 0 rfl rfl hib dX1_narrow_17 (by rw [eoN_6]; rfl) (fun H locs hP hD hS => ?_)
    obtain ⟨x7, ex7, hf⟩ := zLet_el hf
    refine lv_iinc (v := x7) (lv' := [(2, .int x7), (0, .ref (aM 0)), (1, .int p1)]) C.1.1 C.1.2.1 dX1_narrow_18 hl (k := 2) rfl (by rw [ex7]; rfl) (by decide) rfl (fun ls hl => ?_)
    refine lv_goto (tgt := 2) C.1.1 C.1.2.1 dX1_narrow_21 (by decide) ?_
    exact ihgo5 x7 oN_6 hf H locs hP hD hS ls (lv_sub hl [1, 2, 0] rfl)
def fX1_joined (p1 : Int32) (p2 : Int32) (p3 : Int32) : Option (Int32) :=
  if p1 = 38 then (
    some (p2 &&& p3)
  ) else (
    if p1 = 42 then (
      some (p2 * p3)
    ) else (
      if p1 = 43 then (
        some (p2 + p3)
      ) else (
        if p1 = 45 then (
          some (p2 - p3)
        ) else (
          if p1 = 94 then (
            some (p2 ^^^ p3)
          ) else (
            if p1 = 124 then (
              some (p2 ||| p3)
            ) else (
              if p3 ≤ p2 then (
                some (0 : Int32)
              ) else (
                some (1 : Int32)
              )
            )
          )
        )
      )
    )
  )
abbrev rX1_joined : Room := { frames := 0, cells := 0, slots := 0, locals := 0 }
set_option maxHeartbeats 4000000 in
set_option maxRecDepth 100000 in
theorem mtX1_joined (l : Launch) (dC : Nat → ClassId) (dI : Nat → Nat → Nat) (cI cB : ClassId) (sz : Nat) (p1 : Int32) (p2 : Int32) (p3 : Int32) {ov : Int32} (hf : fX1_joined p1 p2 p3 = some ov) : zMi l yX1_joined (Cond.code yX1_joined cX1_joined 3 (some .int) :: lw_g) rX1_joined (dC, dI) [(cI, .int), (cB, .byte)] [.int p1, .int p2, .int p3] sz ([] : va_W) ov ([] : va_W) := by
  refine zSt (cc := cX1_joined) (maxL := 3) (ret := (some .int)) (own := RX1) (fun A => zQi (dC, dI) [(cI, .int), (cB, .byte)] A ov ([] : va_W)) (by decide) rfl rfl (Nat.le_of_ble_eq_true rfl) ?_
  intro p e s m below meth c ls A H locs C hK hA hP hD hS hl
  generalize hQ : MQ below (zQi (dC, dI) [(cI, .int), (cB, .byte)] A ov ([] : va_W)) _ s 0 0 A = QQ
  generalize ([.int p1, .int p2, .int p3] : List Value).toArray = args at C hQ ⊢
  have hl : lv_has ls 3 [(0, .int p1), (1, .int p2), (2, .int p3)] := hl
  unfold fX1_joined at hf
  refine lv_iload_n C.1.1 C.1.2.1 dX1_joined_0 rfl (lv_at hl 0 rfl) ?_
  rcases Classical.em (p1 = 38) with hk1 | hk1
  · replace hf := zIf_t hf hk1
    refine lv_lookup (off := 71) (tgt := 72) C.1.1 C.1.2.1 dX1_joined_1 (by decide +kernel) (by rw [hk1] <;> decide +kernel) (by decide) ?_
    refine lv_iload_n C.1.1 C.1.2.1 dX1_joined_72 rfl (lv_at hl 1 rfl) ?_
    refine lv_iload_n C.1.1 C.1.2.1 dX1_joined_73 rfl (lv_at hl 2 rfl) ?_
    refine lv_iand C.1.1 C.1.2.1 dX1_joined_74 ?_
    cases hf
    rw [← hQ]
    exact zRi C hK hP hD hS dX1_joined_75
  · replace hf := zIf_f hf hk1
    rcases Classical.em (p1 = 42) with hk2 | hk2
    · replace hf := zIf_t hf hk2
      refine lv_lookup (off := 67) (tgt := 68) C.1.1 C.1.2.1 dX1_joined_1 (by decide +kernel) (by rw [hk2] <;> decide +kernel) (by decide) ?_
      refine lv_iload_n C.1.1 C.1.2.1 dX1_joined_68 rfl (lv_at hl 1 rfl) ?_
      refine lv_iload_n C.1.1 C.1.2.1 dX1_joined_69 rfl (lv_at hl 2 rfl) ?_
      refine lv_imul C.1.1 C.1.2.1 dX1_joined_70 ?_
      cases hf
      rw [← hQ]
      exact zRi C hK hP hD hS dX1_joined_71
    · replace hf := zIf_f hf hk2
      rcases Classical.em (p1 = 43) with hk3 | hk3
      · replace hf := zIf_t hf hk3
        refine lv_lookup (off := 59) (tgt := 60) C.1.1 C.1.2.1 dX1_joined_1 (by decide +kernel) (by rw [hk3] <;> decide +kernel) (by decide) ?_
        refine lv_iload_n C.1.1 C.1.2.1 dX1_joined_60 rfl (lv_at hl 1 rfl) ?_
        refine lv_iload_n C.1.1 C.1.2.1 dX1_joined_61 rfl (lv_at hl 2 rfl) ?_
        refine lv_iadd C.1.1 C.1.2.1 dX1_joined_62 ?_
        cases hf
        rw [← hQ]
        exact zRi C hK hP hD hS dX1_joined_63
      · replace hf := zIf_f hf hk3
        rcases Classical.em (p1 = 45) with hk4 | hk4
        · replace hf := zIf_t hf hk4
          refine lv_lookup (off := 63) (tgt := 64) C.1.1 C.1.2.1 dX1_joined_1 (by decide +kernel) (by rw [hk4] <;> decide +kernel) (by decide) ?_
          refine lv_iload_n C.1.1 C.1.2.1 dX1_joined_64 rfl (lv_at hl 1 rfl) ?_
          refine lv_iload_n C.1.1 C.1.2.1 dX1_joined_65 rfl (lv_at hl 2 rfl) ?_
          refine lv_isub C.1.1 C.1.2.1 dX1_joined_66 ?_
          cases hf
          rw [← hQ]
          exact zRi C hK hP hD hS dX1_joined_67
        · replace hf := zIf_f hf hk4
          rcases Classical.em (p1 = 94) with hk5 | hk5
          · replace hf := zIf_t hf hk5
            refine lv_lookup (off := 79) (tgt := 80) C.1.1 C.1.2.1 dX1_joined_1 (by decide +kernel) (by rw [hk5] <;> decide +kernel) (by decide) ?_
            refine lv_iload_n C.1.1 C.1.2.1 dX1_joined_80 rfl (lv_at hl 1 rfl) ?_
            refine lv_iload_n C.1.1 C.1.2.1 dX1_joined_81 rfl (lv_at hl 2 rfl) ?_
            refine lv_ixor C.1.1 C.1.2.1 dX1_joined_82 ?_
            cases hf
            rw [← hQ]
            exact zRi C hK hP hD hS dX1_joined_83
          · replace hf := zIf_f hf hk5
            rcases Classical.em (p1 = 124) with hk6 | hk6
            · replace hf := zIf_t hf hk6
              refine lv_lookup (off := 75) (tgt := 76) C.1.1 C.1.2.1 dX1_joined_1 (by decide +kernel) (by rw [hk6] <;> decide +kernel) (by decide) ?_
              refine lv_iload_n C.1.1 C.1.2.1 dX1_joined_76 rfl (lv_at hl 1 rfl) ?_
              refine lv_iload_n C.1.1 C.1.2.1 dX1_joined_77 rfl (lv_at hl 2 rfl) ?_
              refine lv_ior C.1.1 C.1.2.1 dX1_joined_78 ?_
              cases hf
              rw [← hQ]
              exact zRi C hK hP hD hS dX1_joined_79
            · replace hf := zIf_f hf hk6
              refine lv_lookup (off := 83) (tgt := 84) C.1.1 C.1.2.1 dX1_joined_1 (by decide +kernel) (by simp only [List.toList_toArray]; rw [lv_osw hk1 (by decide), lv_osw hk2 (by decide), lv_osw hk3 (by decide), lv_osw hk4 (by decide), lv_osw hk5 (by decide), lv_osw hk6 (by decide)] <;> rfl) (by decide) ?_
              refine lv_iload_n C.1.1 C.1.2.1 dX1_joined_84 rfl (lv_at hl 1 rfl) ?_
              refine lv_iload_n C.1.1 C.1.2.1 dX1_joined_85 rfl (lv_at hl 2 rfl) ?_
              refine lv_icmp_ge (tgt := 93) C.1.1 C.1.2.1 dX1_joined_86 (by decide) (fun hc => ?_) (fun hc => ?_)
              · replace hf := zIf_t hf hc
                refine lv_iconst (v := 0) C.1.1 C.1.2.1 dX1_joined_93 (by decide) ?_
                cases hf
                rw [← hQ]
                exact zRi C hK hP hD hS dX1_joined_94
              · replace hf := zIf_f hf hc
                refine lv_iconst (v := 1) C.1.1 C.1.2.1 dX1_joined_89 (by decide) ?_
                refine lv_goto (tgt := 94) C.1.1 C.1.2.1 dX1_joined_90 (by decide) ?_
                cases hf
                rw [← hQ]
                exact zRi C hK hP hD hS dX1_joined_94
def fX1_worth_L15 (oP : Rc) (oO : Ar) (p2 : Int32) (p4 : Int32) (J155_4 : Rc → Option (Int32 × Rc)) (n : Nat) (x7 : Int32) (oQ_8 : Rc) : Option (Int32 × Rc) := zLp2 (fun (go9 : Int32 → Rc → Option (Int32 × Rc)) (x7 : Int32) (oQ_8 : Rc) =>
    zGd (inb (p2 + (1 : Int32)) 97) <|
    if (oP 10 (p2 + (1 : Int32)).toNatClampNeg) ≤ x7 then (
      J155_4 oQ_8
    ) else (
      zGd (inb x7 600) <|
      zLet (oP 11 x7.toNatClampNeg) fun x10 =>
      zGd (inb x7 600) <|
      zLet (oP 12 x7.toNatClampNeg) fun x11 =>
      if x10 = (4 : Int32) then (
        zGd (inb x11 8) <|
        zB1 (fX3_push oQ_8 (oO x11.toNatClampNeg)) fun oQ_25 =>
        zLet (x7 + 1) fun x26 =>
        go9 x26 oQ_25
      ) else (
        if x10 = (3 : Int32) then (
          zB1 (fX3_push oQ_8 (x11 &&& p4)) fun oQ_23 =>
          zLet (x7 + 1) fun x24 =>
          go9 x24 oQ_23
        ) else (
          if x10 = (126 : Int32) then (
            zB2 (fX3_pop oQ_8) fun v19 oQ_20 =>
            zB1 (fX3_push oQ_20 ((v19 ^^^ (-1 : Int32)) &&& p4)) fun oQ_21 =>
            zLet (x7 + 1) fun x22 =>
            go9 x22 oQ_21
          ) else (
            zB2 (fX3_pop oQ_8) fun v12 oQ_13 =>
            zB2 (fX3_pop oQ_13) fun v14 oQ_15 =>
            zB1 (fX1_joined x10 v14 v12) fun v16 =>
            zB1 (fX3_push oQ_15 (v16 &&& p4)) fun oQ_17 =>
            zLet (x7 + 1) fun x18 =>
            go9 x18 oQ_17
          )
        )
      )
    )
  ) n x7 oQ_8
def fX1_worth (NN : Nat) (oP : Rc) (oQ : Rc) (oO : Ar) (p2 : Int32) (p4 : Int32) : Option (Int32 × Rc) :=
  zB1 (fX3_empty oQ) fun oQ_1 =>
  zGd (inb p2 97) <|
  zLet (oP 10 p2.toNatClampNeg) fun x2 =>
  zJn (fun (oQ_3 : Rc) =>
      zB2 (fX3_pop oQ_3) fun v5 oQ_6 =>
      some (v5, oQ_6)
    ) fun J155_4 =>
  fX1_worth_L15 oP oO p2 p4 J155_4 NN x2 oQ_1
abbrev rX1_worth : Room := { frames := 1, cells := 0, slots := 0, locals := 22 }
set_option maxHeartbeats 4000000 in
set_option maxRecDepth 100000 in
theorem mtX1_worth (l : Launch) (dC : Nat → ClassId) (dI : Nat → Nat → Nat) (cI cB : ClassId) (aP aM aN aY aQ aO : Nat → Nat) (sz : Nat) (NN : Nat) (oP : Rc) (oQ : Rc) (oO : Ar) (p2 : Int32) (p4 : Int32) {ov : Int32} {oQ' : Rc} (hf : fX1_worth NN oP oQ oO p2 p4 = some (ov, oQ')) : zMi l yX1_worth (Cond.code yX1_worth cX1_worth 9 (some .int) :: lw_g) rX1_worth (dC, dI) [(cI, .int), (cB, .byte)] [.ref (aM 0), .ref (aP 0), .int p2, .ref (aO 0), .int p4] sz (kX4 cI cB aP oP ++ kX1 cI cB aM (aN 0) (aY 0) (aQ 0) ++ kX3 cI cB aQ oQ ++ kA8 cI cB aO oO) ov (kX4 cI cB aP oP ++ kX1 cI cB aM (aN 0) (aY 0) (aQ 0) ++ kX3 cI cB aQ oQ' ++ kA8 cI cB aO oO) := by
  refine zSt (cc := cX1_worth) (maxL := 9) (ret := (some .int)) (own := RX1) (fun A => zQi (dC, dI) [(cI, .int), (cB, .byte)] A ov (kX4 cI cB aP oP ++ kX1 cI cB aM (aN 0) (aY 0) (aQ 0) ++ kX3 cI cB aQ oQ' ++ kA8 cI cB aO oO)) (by decide) rfl rfl (Nat.le_of_ble_eq_true rfl) ?_
  intro p e s m below meth c ls A H locs C hK hA hP hD hS hl
  generalize hQ : MQ below (zQi (dC, dI) [(cI, .int), (cB, .byte)] A ov (kX4 cI cB aP oP ++ kX1 cI cB aM (aN 0) (aY 0) (aQ 0) ++ kX3 cI cB aQ oQ' ++ kA8 cI cB aO oO)) _ s 0 0 A = QQ
  generalize ([.ref (aM 0), .ref (aP 0), .int p2, .ref (aO 0), .int p4] : List Value).toArray = args at C hQ ⊢
  have hl : lv_has ls 9 [(0, .ref (aM 0)), (1, .ref (aP 0)), (2, .int p2), (3, .ref (aO 0)), (4, .int p4)] := hl
  unfold fX1_worth at hf
  refine lv_aload_n C.1.1 C.1.2.1 dX1_worth_0 rfl (lv_at hl 0 rfl) ?_
  refine zGet (.ref (aQ 0)) C.1 wuX1 hK hP 10 rfl rfl 2 (by decide) wfX1_21 rfl rfl dX1_worth_1 ?_
  obtain ⟨oQ_1, hg, hf⟩ := zB1_el hf
  refine zCVv (As := []) (rest := []) (wr := (kX4 cI cB aP oP ++ kX1 cI cB aM (aN 0) (aY 0) (aQ 0) ++ kA8 cI cB aO oO)) (wn := (kX4 cI cB aP oP ++ kX1 cI cB aM (aN 0) (aY 0) (aQ 0) ++ kX3 cI cB aQ oQ_1 ++ kA8 cI cB aO oO)) C.1 hK hA hP hD hS [11, 12] [0, 1, 2, 3, 4, 5, 6, 7, 8, 9, 10, 13] [0, 1, 2, 3, 4, 5, 6, 7, 8, 9, 10, 12, 13, 11] 0 (mtX3_empty l dC dI cI cB aQ H.size oQ hg) (zCwV 0 C.1 wlX1_50 wiX3_empty ws_X3_empty wnX3 wkX3_empty rfl rfl (by decide +kernel) ⟨Nat.le_of_ble_eq_true rfl, Nat.le_of_ble_eq_true rfl⟩) rfl rfl (by decide +kernel) rfl rfl rfl rfl hl.1 (Nat.le_of_ble_eq_true rfl) dX1_worth_4 ⟨Nat.zero_le _, Nat.zero_le _⟩ rfl (fun H locs hP hD hS => ?_)
  refine lv_aload_n C.1.1 C.1.2.1 dX1_worth_7 rfl (lv_at hl 1 rfl) ?_
  refine zGet (.ref (aP 7)) C.1 wuX4 hK hP 0 rfl rfl 10 (by decide) wfX1_53 rfl rfl dX1_worth_8 ?_
  refine lv_iload_n C.1.1 C.1.2.1 dX1_worth_11 rfl (lv_at hl 2 rfl) ?_
  obtain ⟨hib, hf⟩ := zGd_el hf
  refine va_iald C.1.1 C.1.2.1 hK.1 hP 7 0 rfl rfl hib dX1_worth_12 ?_
  refine lv_topi (fun x2 ex2 => ?_)
  replace hf := zLet_at hf ex2
  refine lv_istore (lv' := [(5, .int x2), (0, .ref (aM 0)), (1, .ref (aP 0)), (2, .int p2), (3, .ref (aO 0)), (4, .int p4)]) C.1.1 C.1.2.1 dX1_worth_13 hl (by decide) rfl (fun ls hl => ?_)
  obtain ⟨J155_4, eJ155_4, hf⟩ := zJn_el hf
  have hJ155_4 : ∀ (oQ_3 : Rc), J155_4 oQ_3 = some (ov, oQ') → ∀ (H : Heap) (locs : List Loc), va_P (dC, dI) vwCl (kX4 cI cB aP oP ++ kX1 cI cB aM (aN 0) (aY 0) (aQ 0) ++ kX3 cI cB aQ oQ_3 ++ kA8 cI cB aO oO) H → va_D A (kX4 cI cB aP oP ++ kX1 cI cB aM (aN 0) (aY 0) (aQ 0) ++ kX3 cI cB aQ oQ_3 ++ kA8 cI cB aO oO) → va_S A s.heap H locs → ∀ (ls : Array Slot), lv_has ls 9 [(0, .ref (aM 0))] → W p l e rX1_worth s m args below meth c H locs 0 0 QQ (F0 m 155 ls []) := by
    intro oQ_3 hf H locs hP hD hS ls hl
    rw [eJ155_4] at hf
    refine lv_aload_n C.1.1 C.1.2.1 dX1_worth_155 rfl (lv_at hl 0 rfl) ?_
    refine zGet (.ref (aQ 0)) C.1 wuX1 hK hP 10 rfl rfl 2 (by decide) wfX1_21 rfl rfl dX1_worth_156 ?_
    obtain ⟨v5, oQ_6, hg, hf⟩ := zB2_el hf
    refine zCVi (As := []) (rest := []) (wr := (kX4 cI cB aP oP ++ kX1 cI cB aM (aN 0) (aY 0) (aQ 0) ++ kA8 cI cB aO oO)) (wn := (kX4 cI cB aP oP ++ kX1 cI cB aM (aN 0) (aY 0) (aQ 0) ++ kX3 cI cB aQ oQ_6 ++ kA8 cI cB aO oO)) C.1 hK hA hP hD hS [11, 12] [0, 1, 2, 3, 4, 5, 6, 7, 8, 9, 10, 13] [0, 1, 2, 3, 4, 5, 6, 7, 8, 9, 10, 12, 13, 11] 0 (mtX3_pop l dC dI cI cB aQ H.size oQ_3 hg) (zCwV 0 C.1 wlX1_66 wiX3_pop ws_X3_pop wnX3 wkX3_pop rfl rfl (by decide +kernel) ⟨Nat.le_of_ble_eq_true rfl, Nat.le_of_ble_eq_true rfl⟩) rfl rfl (by decide +kernel) rfl rfl rfl rfl hl.1 (Nat.le_of_ble_eq_true rfl) dX1_worth_159 ⟨Nat.zero_le _, Nat.zero_le _⟩ rfl (fun H locs hP hD hS => ?_)
    cases hf
    rw [← hQ]
    exact zRi C hK hP hD hS dX1_worth_162
  refine zLp2_ind (o := (ov, oQ')) (P := fun (x7 : Int32) (oQ_8 : Rc) => ∀ (H : Heap) (locs : List Loc), va_P (dC, dI) vwCl (kX4 cI cB aP oP ++ kX1 cI cB aM (aN 0) (aY 0) (aQ 0) ++ kX3 cI cB aQ oQ_8 ++ kA8 cI cB aO oO) H → va_D A (kX4 cI cB aP oP ++ kX1 cI cB aM (aN 0) (aY 0) (aQ 0) ++ kX3 cI cB aQ oQ_8 ++ kA8 cI cB aO oO) → va_S A s.heap H locs → ∀ (ls : Array Slot), lv_has ls 9 [(0, .ref (aM 0)), (1, .ref (aP 0)), (2, .int p2), (3, .ref (aO 0)), (4, .int p4), (5, .int x7)] → W p l e rX1_worth s m args below meth c H locs 0 0 QQ (F0 m 15 ls [])) (fun go9 ihgo9 x7 oQ_8 hf H locs hP hD hS ls hl => ?_) _ x2 oQ_1 hf H locs hP hD hS ls (lv_sub hl [1, 2, 3, 4, 5, 0] rfl)
  refine lv_iload C.1.1 C.1.2.1 dX1_worth_15 (lv_at hl 5 rfl) ?_
  refine lv_aload_n C.1.1 C.1.2.1 dX1_worth_17 rfl (lv_at hl 1 rfl) ?_
  refine zGet (.ref (aP 7)) C.1 wuX4 hK hP 0 rfl rfl 10 (by decide) wfX1_53 rfl rfl dX1_worth_18 ?_
  refine lv_iload_n C.1.1 C.1.2.1 dX1_worth_21 rfl (lv_at hl 2 rfl) ?_
  refine lv_iconst (v := 1) C.1.1 C.1.2.1 dX1_worth_22 (by decide) ?_
  refine lv_iadd C.1.1 C.1.2.1 dX1_worth_23 ?_
  obtain ⟨hib, hf⟩ := zGd_el hf
  refine va_iald C.1.1 C.1.2.1 hK.1 hP 7 0 rfl rfl hib dX1_worth_24 ?_
  refine lv_icmp_ge (tgt := 155) C.1.1 C.1.2.1 dX1_worth_25 (by decide) (fun hc => ?_) (fun hc => ?_)
  · replace hf := zIf_t hf hc
    exact hJ155_4 oQ_8 hf H locs hP hD hS ls (lv_sub hl [0] rfl)
  · replace hf := zIf_f hf hc
    refine lv_aload_n C.1.1 C.1.2.1 dX1_worth_28 rfl (lv_at hl 1 rfl) ?_
    refine zGet (.ref (aP 8)) C.1 wuX4 hK hP 0 rfl rfl 11 (by decide) wfX1_56 rfl rfl dX1_worth_29 ?_
    refine lv_iload C.1.1 C.1.2.1 dX1_worth_32 (lv_at hl 5 rfl) ?_
    obtain ⟨hib, hf⟩ := zGd_el hf
    refine va_iald C.1.1 C.1.2.1 hK.1 hP 8 0 rfl rfl hib dX1_worth_34 ?_
    refine lv_topi (fun x10 ex10 => ?_)
    replace hf := zLet_at hf ex10
    refine lv_istore (lv' := [(6, .int x10), (0, .ref (aM 0)), (1, .ref (aP 0)), (2, .int p2), (3, .ref (aO 0)), (4, .int p4), (5, .int x7)]) C.1.1 C.1.2.1 dX1_worth_35 hl (by decide) rfl (fun ls hl => ?_)
    refine lv_aload_n C.1.1 C.1.2.1 dX1_worth_37 rfl (lv_at hl 2 rfl) ?_
    refine zGet (.ref (aP 9)) C.1 wuX4 hK hP 0 rfl rfl 12 (by decide) wfX1_59 rfl rfl dX1_worth_38 ?_
    refine lv_iload C.1.1 C.1.2.1 dX1_worth_41 (lv_at hl 6 rfl) ?_
    obtain ⟨hib, hf⟩ := zGd_el hf
    refine va_iald C.1.1 C.1.2.1 hK.1 hP 9 0 rfl rfl hib dX1_worth_43 ?_
    refine lv_topi (fun x11 ex11 => ?_)
    replace hf := zLet_at hf ex11
    refine lv_istore (lv' := [(7, .int x11), (6, .int x10), (0, .ref (aM 0)), (1, .ref (aP 0)), (2, .int p2), (3, .ref (aO 0)), (4, .int p4), (5, .int x7)]) C.1.1 C.1.2.1 dX1_worth_44 hl (by decide) rfl (fun ls hl => ?_)
    refine lv_iload C.1.1 C.1.2.1 dX1_worth_46 (lv_at hl 1 rfl) ?_
    refine lv_iconst (v := 4) C.1.1 C.1.2.1 dX1_worth_48 (by decide) ?_
    refine lv_icmp_ne (tgt := 66) C.1.1 C.1.2.1 dX1_worth_49 (by decide) (fun hc => ?_) (fun hc => ?_)
    · replace hf := zIf_f hf hc
      refine lv_iload C.1.1 C.1.2.1 dX1_worth_66 (lv_at hl 1 rfl) ?_
      refine lv_iconst (v := 3) C.1.1 C.1.2.1 dX1_worth_68 (by decide) ?_
      refine lv_icmp_ne (tgt := 87) C.1.1 C.1.2.1 dX1_worth_69 (by decide) (fun hc => ?_) (fun hc => ?_)
      · replace hf := zIf_f hf hc
        refine lv_iload C.1.1 C.1.2.1 dX1_worth_87 (lv_at hl 1 rfl) ?_
        refine lv_bipush (v := 126) C.1.1 C.1.2.1 dX1_worth_89 (by decide) ?_
        refine lv_icmp_ne (tgt := 116) C.1.1 C.1.2.1 dX1_worth_91 (by decide) (fun hc => ?_) (fun hc => ?_)
        · replace hf := zIf_f hf hc
          refine lv_aload_n C.1.1 C.1.2.1 dX1_worth_116 rfl (lv_at hl 2 rfl) ?_
          refine zGet (.ref (aQ 0)) C.1 wuX1 hK hP 10 rfl rfl 2 (by decide) wfX1_21 rfl rfl dX1_worth_117 ?_
          obtain ⟨v12, oQ_13, hg, hf⟩ := zB2_el hf
          refine zCVi (As := []) (rest := []) (wr := (kX4 cI cB aP oP ++ kX1 cI cB aM (aN 0) (aY 0) (aQ 0) ++ kA8 cI cB aO oO)) (wn := (kX4 cI cB aP oP ++ kX1 cI cB aM (aN 0) (aY 0) (aQ 0) ++ kX3 cI cB aQ oQ_13 ++ kA8 cI cB aO oO)) C.1 hK hA hP hD hS [11, 12] [0, 1, 2, 3, 4, 5, 6, 7, 8, 9, 10, 13] [0, 1, 2, 3, 4, 5, 6, 7, 8, 9, 10, 12, 13, 11] 0 (mtX3_pop l dC dI cI cB aQ H.size oQ_8 hg) (zCwV 0 C.1 wlX1_66 wiX3_pop ws_X3_pop wnX3 wkX3_pop rfl rfl (by decide +kernel) ⟨Nat.le_of_ble_eq_true rfl, Nat.le_of_ble_eq_true rfl⟩) rfl rfl (by decide +kernel) rfl rfl rfl rfl hl.1 (Nat.le_of_ble_eq_true rfl) dX1_worth_120 ⟨Nat.zero_le _, Nat.zero_le _⟩ rfl (fun H locs hP hD hS => ?_)
          refine lv_istore (lv' := [(8, .int v12), (7, .int x11), (6, .int x10), (0, .ref (aM 0)), (1, .ref (aP 0)), (2, .int p2), (3, .ref (aO 0)), (4, .int p4), (5, .int x7)]) C.1.1 C.1.2.1 dX1_worth_123 hl (by decide) rfl (fun ls hl => ?_)
          refine lv_aload_n C.1.1 C.1.2.1 dX1_worth_125 rfl (lv_at hl 3 rfl) ?_
          refine zGet (.ref (aQ 0)) C.1 wuX1 hK hP 10 rfl rfl 2 (by decide) wfX1_21 rfl rfl dX1_worth_126 ?_
          refine lv_iload C.1.1 C.1.2.1 dX1_worth_129 (lv_at hl 2 rfl) ?_
          refine lv_aload_n C.1.1 C.1.2.1 dX1_worth_131 rfl (lv_at hl 3 rfl) ?_
          refine zGet (.ref (aQ 0)) C.1 wuX1 hK hP 10 rfl rfl 2 (by decide) wfX1_21 rfl rfl dX1_worth_132 ?_
          obtain ⟨v14, oQ_15, hg, hf⟩ := zB2_el hf
          refine zCVi (As := []) (rest := [.int x10, .ref (aQ 0)]) (wr := (kX4 cI cB aP oP ++ kX1 cI cB aM (aN 0) (aY 0) (aQ 0) ++ kA8 cI cB aO oO)) (wn := (kX4 cI cB aP oP ++ kX1 cI cB aM (aN 0) (aY 0) (aQ 0) ++ kX3 cI cB aQ oQ_15 ++ kA8 cI cB aO oO)) C.1 hK hA hP hD hS [11, 12] [0, 1, 2, 3, 4, 5, 6, 7, 8, 9, 10, 13] [0, 1, 2, 3, 4, 5, 6, 7, 8, 9, 10, 12, 13, 11] 0 (mtX3_pop l dC dI cI cB aQ H.size oQ_13 hg) (zCwV 0 C.1 wlX1_66 wiX3_pop ws_X3_pop wnX3 wkX3_pop rfl rfl (by decide +kernel) ⟨Nat.le_of_ble_eq_true rfl, Nat.le_of_ble_eq_true rfl⟩) rfl rfl (by decide +kernel) rfl rfl rfl rfl hl.1 (Nat.le_of_ble_eq_true rfl) dX1_worth_135 ⟨Nat.zero_le _, Nat.zero_le _⟩ rfl (fun H locs hP hD hS => ?_)
          refine lv_iload C.1.1 C.1.2.1 dX1_worth_138 (lv_at hl 0 rfl) ?_
          obtain ⟨v16, hg, hf⟩ := zB1_el hf
          refine zCSi (As := [.int x10, .int v14, .int v12]) (rest := [.ref (aQ 0)]) (wr := (kX4 cI cB aP oP ++ kX1 cI cB aM (aN 0) (aY 0) (aQ 0) ++ kX3 cI cB aQ oQ_15 ++ kA8 cI cB aO oO)) (wn := (kX4 cI cB aP oP ++ kX1 cI cB aM (aN 0) (aY 0) (aQ 0) ++ kX3 cI cB aQ oQ_15 ++ kA8 cI cB aO oO)) C.1 hK hA hP hD hS [] [0, 1, 2, 3, 4, 5, 6, 7, 8, 9, 10, 11, 12, 13] [0, 1, 2, 3, 4, 5, 6, 7, 8, 9, 10, 11, 12, 13] (mtX1_joined l dC dI cI cB H.size x10 v14 v12 hg) (zCwS 3 C.1 wlX1_70 wtX1_joined wnX1 wkX1_joined rfl rfl (by decide +kernel) ⟨Nat.le_of_ble_eq_true rfl, Nat.le_of_ble_eq_true rfl⟩) rfl rfl (by decide +kernel) rfl rfl hl.1 (Nat.le_of_ble_eq_true rfl) dX1_worth_140 ⟨Nat.zero_le _, Nat.zero_le _⟩ rfl (fun H locs hP hD hS => ?_)
          refine lv_iload C.1.1 C.1.2.1 dX1_worth_143 (lv_at hl 7 rfl) ?_
          refine lv_iand C.1.1 C.1.2.1 dX1_worth_145 ?_
          obtain ⟨oQ_17, hg, hf⟩ := zB1_el hf
          refine zCVv (As := [.int (v16 &&& p4)]) (rest := []) (wr := (kX4 cI cB aP oP ++ kX1 cI cB aM (aN 0) (aY 0) (aQ 0) ++ kA8 cI cB aO oO)) (wn := (kX4 cI cB aP oP ++ kX1 cI cB aM (aN 0) (aY 0) (aQ 0) ++ kX3 cI cB aQ oQ_17 ++ kA8 cI cB aO oO)) C.1 hK hA hP hD hS [11, 12] [0, 1, 2, 3, 4, 5, 6, 7, 8, 9, 10, 13] [0, 1, 2, 3, 4, 5, 6, 7, 8, 9, 10, 12, 13, 11] 0 (mtX3_push l dC dI cI cB aQ H.size oQ_15 (v16 &&& p4) hg) (zCwV 1 C.1 wlX1_62 wiX3_push ws_X3_push wnX3 wkX3_push rfl rfl (by decide +kernel) ⟨Nat.le_of_ble_eq_true rfl, Nat.le_of_ble_eq_true rfl⟩) rfl rfl (by decide +kernel) rfl rfl rfl rfl hl.1 (Nat.le_of_ble_eq_true rfl) dX1_worth_146 ⟨Nat.zero_le _, Nat.zero_le _⟩ rfl (fun H locs hP hD hS => ?_)
          obtain ⟨x18, ex18, hf⟩ := zLet_el hf
          refine lv_iinc (v := x18) (lv' := [(5, .int x18), (8, .int v12), (7, .int x11), (6, .int x10), (0, .ref (aM 0)), (1, .ref (aP 0)), (2, .int p2), (3, .ref (aO 0)), (4, .int p4)]) C.1.1 C.1.2.1 dX1_worth_149 hl (k := 8) rfl (by rw [ex18]; rfl) (by decide) rfl (fun ls hl => ?_)
          refine lv_goto (tgt := 15) C.1.1 C.1.2.1 dX1_worth_152 (by decide) ?_
          exact ihgo9 x18 oQ_17 hf H locs hP hD hS ls (lv_sub hl [4, 5, 6, 7, 8, 0] rfl)
        · replace hf := zIf_t hf hc
          refine lv_aload_n C.1.1 C.1.2.1 dX1_worth_94 rfl (lv_at hl 2 rfl) ?_
          refine zGet (.ref (aQ 0)) C.1 wuX1 hK hP 10 rfl rfl 2 (by decide) wfX1_21 rfl rfl dX1_worth_95 ?_
          refine lv_aload_n C.1.1 C.1.2.1 dX1_worth_98 rfl (lv_at hl 2 rfl) ?_
          refine zGet (.ref (aQ 0)) C.1 wuX1 hK hP 10 rfl rfl 2 (by decide) wfX1_21 rfl rfl dX1_worth_99 ?_
          obtain ⟨v19, oQ_20, hg, hf⟩ := zB2_el hf
          refine zCVi (As := []) (rest := [.ref (aQ 0)]) (wr := (kX4 cI cB aP oP ++ kX1 cI cB aM (aN 0) (aY 0) (aQ 0) ++ kA8 cI cB aO oO)) (wn := (kX4 cI cB aP oP ++ kX1 cI cB aM (aN 0) (aY 0) (aQ 0) ++ kX3 cI cB aQ oQ_20 ++ kA8 cI cB aO oO)) C.1 hK hA hP hD hS [11, 12] [0, 1, 2, 3, 4, 5, 6, 7, 8, 9, 10, 13] [0, 1, 2, 3, 4, 5, 6, 7, 8, 9, 10, 12, 13, 11] 0 (mtX3_pop l dC dI cI cB aQ H.size oQ_8 hg) (zCwV 0 C.1 wlX1_66 wiX3_pop ws_X3_pop wnX3 wkX3_pop rfl rfl (by decide +kernel) ⟨Nat.le_of_ble_eq_true rfl, Nat.le_of_ble_eq_true rfl⟩) rfl rfl (by decide +kernel) rfl rfl rfl rfl hl.1 (Nat.le_of_ble_eq_true rfl) dX1_worth_102 ⟨Nat.zero_le _, Nat.zero_le _⟩ rfl (fun H locs hP hD hS => ?_)
          refine lv_iconst (v := (-1)) C.1.1 C.1.2.1 dX1_worth_105 (by decide) ?_
          refine lv_ixor C.1.1 C.1.2.1 dX1_worth_106 ?_
          refine lv_iload C.1.1 C.1.2.1 dX1_worth_107 (lv_at hl 6 rfl) ?_
          refine lv_iand C.1.1 C.1.2.1 dX1_worth_109 ?_
          obtain ⟨oQ_21, hg, hf⟩ := zB1_el hf
          refine zCVv (As := [.int ((v19 ^^^ (-1 : Int32)) &&& p4)]) (rest := []) (wr := (kX4 cI cB aP oP ++ kX1 cI cB aM (aN 0) (aY 0) (aQ 0) ++ kA8 cI cB aO oO)) (wn := (kX4 cI cB aP oP ++ kX1 cI cB aM (aN 0) (aY 0) (aQ 0) ++ kX3 cI cB aQ oQ_21 ++ kA8 cI cB aO oO)) C.1 hK hA hP hD hS [11, 12] [0, 1, 2, 3, 4, 5, 6, 7, 8, 9, 10, 13] [0, 1, 2, 3, 4, 5, 6, 7, 8, 9, 10, 12, 13, 11] 0 (mtX3_push l dC dI cI cB aQ H.size oQ_20 ((v19 ^^^ (-1 : Int32)) &&& p4) hg) (zCwV 1 C.1 wlX1_62 wiX3_push ws_X3_push wnX3 wkX3_push rfl rfl (by decide +kernel) ⟨Nat.le_of_ble_eq_true rfl, Nat.le_of_ble_eq_true rfl⟩) rfl rfl (by decide +kernel) rfl rfl rfl rfl hl.1 (Nat.le_of_ble_eq_true rfl) dX1_worth_110 ⟨Nat.zero_le _, Nat.zero_le _⟩ rfl (fun H locs hP hD hS => ?_)
          refine lv_goto (tgt := 149) C.1.1 C.1.2.1 dX1_worth_113 (by decide) ?_
          obtain ⟨x22, ex22, hf⟩ := zLet_el hf
          refine lv_iinc (v := x22) (lv' := [(5, .int x22), (7, .int x11), (6, .int x10), (0, .ref (aM 0)), (1, .ref (aP 0)), (2, .int p2), (3, .ref (aO 0)), (4, .int p4)]) C.1.1 C.1.2.1 dX1_worth_149 hl (k := 7) rfl (by rw [ex22]; rfl) (by decide) rfl (fun ls hl => ?_)
          refine lv_goto (tgt := 15) C.1.1 C.1.2.1 dX1_worth_152 (by decide) ?_
          exact ihgo9 x22 oQ_21 hf H locs hP hD hS ls (lv_sub hl [3, 4, 5, 6, 7, 0] rfl)
      · replace hf := zIf_t hf hc
        refine lv_aload_n C.1.1 C.1.2.1 dX1_worth_72 rfl (lv_at hl 2 rfl) ?_
        refine zGet (.ref (aQ 0)) C.1 wuX1 hK hP 10 rfl rfl 2 (by decide) wfX1_21 rfl rfl dX1_worth_73 ?_
        refine lv_iload C.1.1 C.1.2.1 dX1_worth_76 (lv_at hl 0 rfl) ?_
        refine lv_iload C.1.1 C.1.2.1 dX1_worth_78 (lv_at hl 6 rfl) ?_
        refine lv_iand C.1.1 C.1.2.1 dX1_worth_80 ?_
        obtain ⟨oQ_23, hg, hf⟩ := zB1_el hf
        refine zCVv (As := [.int (x11 &&& p4)]) (rest := []) (wr := (kX4 cI cB aP oP ++ kX1 cI cB aM (aN 0) (aY 0) (aQ 0) ++ kA8 cI cB aO oO)) (wn := (kX4 cI cB aP oP ++ kX1 cI cB aM (aN 0) (aY 0) (aQ 0) ++ kX3 cI cB aQ oQ_23 ++ kA8 cI cB aO oO)) C.1 hK hA hP hD hS [11, 12] [0, 1, 2, 3, 4, 5, 6, 7, 8, 9, 10, 13] [0, 1, 2, 3, 4, 5, 6, 7, 8, 9, 10, 12, 13, 11] 0 (mtX3_push l dC dI cI cB aQ H.size oQ_8 (x11 &&& p4) hg) (zCwV 1 C.1 wlX1_62 wiX3_push ws_X3_push wnX3 wkX3_push rfl rfl (by decide +kernel) ⟨Nat.le_of_ble_eq_true rfl, Nat.le_of_ble_eq_true rfl⟩) rfl rfl (by decide +kernel) rfl rfl rfl rfl hl.1 (Nat.le_of_ble_eq_true rfl) dX1_worth_81 ⟨Nat.zero_le _, Nat.zero_le _⟩ rfl (fun H locs hP hD hS => ?_)
        refine lv_goto (tgt := 149) C.1.1 C.1.2.1 dX1_worth_84 (by decide) ?_
        obtain ⟨x24, ex24, hf⟩ := zLet_el hf
        refine lv_iinc (v := x24) (lv' := [(5, .int x24), (7, .int x11), (6, .int x10), (0, .ref (aM 0)), (1, .ref (aP 0)), (2, .int p2), (3, .ref (aO 0)), (4, .int p4)]) C.1.1 C.1.2.1 dX1_worth_149 hl (k := 7) rfl (by rw [ex24]; rfl) (by decide) rfl (fun ls hl => ?_)
        refine lv_goto (tgt := 15) C.1.1 C.1.2.1 dX1_worth_152 (by decide) ?_
        exact ihgo9 x24 oQ_23 hf H locs hP hD hS ls (lv_sub hl [3, 4, 5, 6, 7, 0] rfl)
    · replace hf := zIf_t hf hc
      refine lv_aload_n C.1.1 C.1.2.1 dX1_worth_52 rfl (lv_at hl 2 rfl) ?_
      refine zGet (.ref (aQ 0)) C.1 wuX1 hK hP 10 rfl rfl 2 (by decide) wfX1_21 rfl rfl dX1_worth_53 ?_
      refine lv_aload_n C.1.1 C.1.2.1 dX1_worth_56 rfl (lv_at hl 5 rfl) ?_
      refine lv_iload C.1.1 C.1.2.1 dX1_worth_57 (lv_at hl 0 rfl) ?_
      obtain ⟨hib, hf⟩ := zGd_el hf
      refine va_iald C.1.1 C.1.2.1 hK.1 hP 13 0 rfl rfl hib dX1_worth_59 ?_
      obtain ⟨oQ_25, hg, hf⟩ := zB1_el hf
      refine zCVv (As := [.int (oO x11.toNatClampNeg)]) (rest := []) (wr := (kX4 cI cB aP oP ++ kX1 cI cB aM (aN 0) (aY 0) (aQ 0) ++ kA8 cI cB aO oO)) (wn := (kX4 cI cB aP oP ++ kX1 cI cB aM (aN 0) (aY 0) (aQ 0) ++ kX3 cI cB aQ oQ_25 ++ kA8 cI cB aO oO)) C.1 hK hA hP hD hS [11, 12] [0, 1, 2, 3, 4, 5, 6, 7, 8, 9, 10, 13] [0, 1, 2, 3, 4, 5, 6, 7, 8, 9, 10, 12, 13, 11] 0 (mtX3_push l dC dI cI cB aQ H.size oQ_8 (oO x11.toNatClampNeg) hg) (zCwV 1 C.1 wlX1_62 wiX3_push ws_X3_push wnX3 wkX3_push rfl rfl (by decide +kernel) ⟨Nat.le_of_ble_eq_true rfl, Nat.le_of_ble_eq_true rfl⟩) rfl rfl (by decide +kernel) rfl rfl rfl rfl hl.1 (Nat.le_of_ble_eq_true rfl) dX1_worth_60 ⟨Nat.zero_le _, Nat.zero_le _⟩ rfl (fun H locs hP hD hS => ?_)
      refine lv_goto (tgt := 149) C.1.1 C.1.2.1 dX1_worth_63 (by decide) ?_
      obtain ⟨x26, ex26, hf⟩ := zLet_el hf
      refine lv_iinc (v := x26) (lv' := [(5, .int x26), (7, .int x11), (6, .int x10), (0, .ref (aM 0)), (1, .ref (aP 0)), (2, .int p2), (3, .ref (aO 0)), (4, .int p4)]) C.1.1 C.1.2.1 dX1_worth_149 hl (k := 7) rfl (by rw [ex26]; rfl) (by decide) rfl (fun ls hl => ?_)
      refine lv_goto (tgt := 15) C.1.1 C.1.2.1 dX1_worth_152 (by decide) ?_
      exact ihgo9 x26 oQ_25 hf H locs hP hD hS ls (lv_sub hl [3, 4, 5, 6, 7, 0] rfl)
def fX1_doBlock_L8 (oP : Rc) (p2 : Int32) (p4 : Int32) (NN : Nat) (J68_4 : Rc → Ar → Option (Rc × Ar)) (n : Nat) (x5 : Int32) (oQ_6 : Rc) (oO_7 : Ar) : Option (Rc × Ar) := zLp3 (fun (go8 : Int32 → Rc → Ar → Option (Rc × Ar)) (x5 : Int32) (oQ_6 : Rc) (oO_7 : Ar) =>
    zGd (inb (p2 + (1 : Int32)) 13) <|
    if (oP 7 (p2 + (1 : Int32)).toNatClampNeg) ≤ x5 then (
      J68_4 oQ_6 oO_7
    ) else (
      zGd (inb x5 96) <|
      zLet (oP 9 x5.toNatClampNeg) fun x9 =>
      zJn (fun (_ : Unit) =>
          zGd (inb x5 96) <|
          zB2 (fX1_worth NN oP oQ_6 oO_7 x5 p4) fun v11 oQ_12 =>
          zGd (inb (oP 8 x5.toNatClampNeg) 8) <|
          zLet (upd oO_7 (oP 8 x5.toNatClampNeg).toNatClampNeg v11) fun oO_13 =>
          zLet (x5 + 1) fun x14 =>
          go8 x14 oQ_12 oO_13
        ) fun J43_10 =>
      if x9 = (-1 : Int32) then (
        J43_10 ()
      ) else (
        zGd (inb x9 8) <|
        if (oO_7 x9.toNatClampNeg) = 0 then (
          zLet (x5 + 1) fun x15 =>
          go8 x15 oQ_6 oO_7
        ) else (
          J43_10 ()
        )
      )
    )
  ) n x5 oQ_6 oO_7
def fX1_doBlock (NN : Nat) (oP : Rc) (oQ : Rc) (oO : Ar) (p2 : Int32) (p4 : Int32) : Option (Rc × Ar) :=
  zGd (inb p2 13) <|
  zLet (oP 7 p2.toNatClampNeg) fun x1 =>
  zJn (fun (oQ_2 : Rc) (oO_3 : Ar) =>
      some (oQ_2, oO_3)
    ) fun J68_4 =>
  fX1_doBlock_L8 oP p2 p4 NN J68_4 NN x1 oQ oO
abbrev rX1_doBlock : Room := { frames := 2, cells := 0, slots := 0, locals := 50 }
set_option maxHeartbeats 4000000 in
set_option maxRecDepth 100000 in
theorem mtX1_doBlock (l : Launch) (dC : Nat → ClassId) (dI : Nat → Nat → Nat) (cI cB : ClassId) (aP aM aN aY aQ aO : Nat → Nat) (sz : Nat) (NN : Nat) (oP : Rc) (oQ : Rc) (oO : Ar) (p2 : Int32) (p4 : Int32) {oQ' : Rc} {oO' : Ar} (hf : fX1_doBlock NN oP oQ oO p2 p4 = some (oQ', oO')) : zMv l yX1_doBlock (Cond.code yX1_doBlock cX1_doBlock 7 none :: lw_g) rX1_doBlock (dC, dI) [(cI, .int), (cB, .byte)] [.ref (aM 0), .ref (aP 0), .int p2, .ref (aO 0), .int p4] sz (kX4 cI cB aP oP ++ kX1 cI cB aM (aN 0) (aY 0) (aQ 0) ++ kX3 cI cB aQ oQ ++ kA8 cI cB aO oO) (kX4 cI cB aP oP ++ kX1 cI cB aM (aN 0) (aY 0) (aQ 0) ++ kX3 cI cB aQ oQ' ++ kA8 cI cB aO oO') := by
  refine zSt (cc := cX1_doBlock) (maxL := 7) (ret := none) (own := RX1) (fun A => zQv (dC, dI) [(cI, .int), (cB, .byte)] A (kX4 cI cB aP oP ++ kX1 cI cB aM (aN 0) (aY 0) (aQ 0) ++ kX3 cI cB aQ oQ' ++ kA8 cI cB aO oO')) (by decide) rfl rfl (Nat.le_of_ble_eq_true rfl) ?_
  intro p e s m below meth c ls A H locs C hK hA hP hD hS hl
  generalize hQ : MQ below (zQv (dC, dI) [(cI, .int), (cB, .byte)] A (kX4 cI cB aP oP ++ kX1 cI cB aM (aN 0) (aY 0) (aQ 0) ++ kX3 cI cB aQ oQ' ++ kA8 cI cB aO oO')) _ s 0 0 A = QQ
  generalize ([.ref (aM 0), .ref (aP 0), .int p2, .ref (aO 0), .int p4] : List Value).toArray = args at C hQ ⊢
  have hl : lv_has ls 7 [(0, .ref (aM 0)), (1, .ref (aP 0)), (2, .int p2), (3, .ref (aO 0)), (4, .int p4)] := hl
  unfold fX1_doBlock at hf
  refine lv_aload_n C.1.1 C.1.2.1 dX1_doBlock_0 rfl (lv_at hl 1 rfl) ?_
  refine zGet (.ref (aP 4)) C.1 wuX4 hK hP 0 rfl rfl 7 (by decide) wfX1_35 rfl rfl dX1_doBlock_1 ?_
  refine lv_iload_n C.1.1 C.1.2.1 dX1_doBlock_4 rfl (lv_at hl 2 rfl) ?_
  obtain ⟨hib, hf⟩ := zGd_el hf
  refine va_iald C.1.1 C.1.2.1 hK.1 hP 4 0 rfl rfl hib dX1_doBlock_5 ?_
  refine lv_topi (fun x1 ex1 => ?_)
  replace hf := zLet_at hf ex1
  refine lv_istore (lv' := [(5, .int x1), (0, .ref (aM 0)), (1, .ref (aP 0)), (2, .int p2), (3, .ref (aO 0)), (4, .int p4)]) C.1.1 C.1.2.1 dX1_doBlock_6 hl (by decide) rfl (fun ls hl => ?_)
  obtain ⟨J68_4, eJ68_4, hf⟩ := zJn_el hf
  have hJ68_4 : ∀ (oQ_2 : Rc) (oO_3 : Ar), J68_4 oQ_2 oO_3 = some (oQ', oO') → ∀ (H : Heap) (locs : List Loc), va_P (dC, dI) vwCl (kX4 cI cB aP oP ++ kX1 cI cB aM (aN 0) (aY 0) (aQ 0) ++ kX3 cI cB aQ oQ_2 ++ kA8 cI cB aO oO_3) H → va_D A (kX4 cI cB aP oP ++ kX1 cI cB aM (aN 0) (aY 0) (aQ 0) ++ kX3 cI cB aQ oQ_2 ++ kA8 cI cB aO oO_3) → va_S A s.heap H locs → ∀ (ls : Array Slot), lv_has ls 7 [] → W p l e rX1_doBlock s m args below meth c H locs 0 0 QQ (F0 m 68 ls []) := by
    intro oQ_2 oO_3 hf H locs hP hD hS ls hl
    rw [eJ68_4] at hf
    cases hf
    rw [← hQ]
    exact zRv C hK hP hD hS dX1_doBlock_68
  refine zLp3_ind (o := (oQ', oO')) (P := fun (x5 : Int32) (oQ_6 : Rc) (oO_7 : Ar) => ∀ (H : Heap) (locs : List Loc), va_P (dC, dI) vwCl (kX4 cI cB aP oP ++ kX1 cI cB aM (aN 0) (aY 0) (aQ 0) ++ kX3 cI cB aQ oQ_6 ++ kA8 cI cB aO oO_7) H → va_D A (kX4 cI cB aP oP ++ kX1 cI cB aM (aN 0) (aY 0) (aQ 0) ++ kX3 cI cB aQ oQ_6 ++ kA8 cI cB aO oO_7) → va_S A s.heap H locs → ∀ (ls : Array Slot), lv_has ls 7 [(0, .ref (aM 0)), (1, .ref (aP 0)), (2, .int p2), (3, .ref (aO 0)), (4, .int p4), (5, .int x5)] → W p l e rX1_doBlock s m args below meth c H locs 0 0 QQ (F0 m 8 ls [])) (fun go8 ihgo8 x5 oQ_6 oO_7 hf H locs hP hD hS ls hl => ?_) _ x1 oQ oO hf H locs hP hD hS ls (lv_sub hl [1, 2, 3, 4, 5, 0] rfl)
  refine lv_iload C.1.1 C.1.2.1 dX1_doBlock_8 (lv_at hl 5 rfl) ?_
  refine lv_aload_n C.1.1 C.1.2.1 dX1_doBlock_10 rfl (lv_at hl 1 rfl) ?_
  refine zGet (.ref (aP 4)) C.1 wuX4 hK hP 0 rfl rfl 7 (by decide) wfX1_35 rfl rfl dX1_doBlock_11 ?_
  refine lv_iload_n C.1.1 C.1.2.1 dX1_doBlock_14 rfl (lv_at hl 2 rfl) ?_
  refine lv_iconst (v := 1) C.1.1 C.1.2.1 dX1_doBlock_15 (by decide) ?_
  refine lv_iadd C.1.1 C.1.2.1 dX1_doBlock_16 ?_
  obtain ⟨hib, hf⟩ := zGd_el hf
  refine va_iald C.1.1 C.1.2.1 hK.1 hP 4 0 rfl rfl hib dX1_doBlock_17 ?_
  refine lv_icmp_ge (tgt := 68) C.1.1 C.1.2.1 dX1_doBlock_18 (by decide) (fun hc => ?_) (fun hc => ?_)
  · replace hf := zIf_t hf hc
    exact hJ68_4 oQ_6 oO_7 hf H locs hP hD hS ls (lv_sub hl [] rfl)
  · replace hf := zIf_f hf hc
    refine lv_aload_n C.1.1 C.1.2.1 dX1_doBlock_21 rfl (lv_at hl 1 rfl) ?_
    refine zGet (.ref (aP 6)) C.1 wuX4 hK hP 0 rfl rfl 9 (by decide) wfX1_40 rfl rfl dX1_doBlock_22 ?_
    refine lv_iload C.1.1 C.1.2.1 dX1_doBlock_25 (lv_at hl 5 rfl) ?_
    obtain ⟨hib, hf⟩ := zGd_el hf
    refine va_iald C.1.1 C.1.2.1 hK.1 hP 6 0 rfl rfl hib dX1_doBlock_27 ?_
    refine lv_topi (fun x9 ex9 => ?_)
    replace hf := zLet_at hf ex9
    refine lv_istore (lv' := [(6, .int x9), (0, .ref (aM 0)), (1, .ref (aP 0)), (2, .int p2), (3, .ref (aO 0)), (4, .int p4), (5, .int x5)]) C.1.1 C.1.2.1 dX1_doBlock_28 hl (by decide) rfl (fun ls hl => ?_)
    refine lv_iload C.1.1 C.1.2.1 dX1_doBlock_30 (lv_at hl 0 rfl) ?_
    refine lv_iconst (v := (-1)) C.1.1 C.1.2.1 dX1_doBlock_32 (by decide) ?_
    obtain ⟨J43_10, eJ43_10, hf⟩ := zJn_el hf
    have hJ43_10 : ∀ (u : Unit), J43_10 u = some (oQ', oO') → ∀ (H : Heap) (locs : List Loc), va_P (dC, dI) vwCl (kX4 cI cB aP oP ++ kX1 cI cB aM (aN 0) (aY 0) (aQ 0) ++ kX3 cI cB aQ oQ_6 ++ kA8 cI cB aO oO_7) H → va_D A (kX4 cI cB aP oP ++ kX1 cI cB aM (aN 0) (aY 0) (aQ 0) ++ kX3 cI cB aQ oQ_6 ++ kA8 cI cB aO oO_7) → va_S A s.heap H locs → ∀ (ls : Array Slot), lv_has ls 7 [(0, .ref (aM 0)), (1, .ref (aP 0)), (2, .int p2), (3, .ref (aO 0)), (4, .int p4), (5, .int x5)] → W p l e rX1_doBlock s m args below meth c H locs 0 0 QQ (F0 m 43 ls []) := by
      intro u hf H locs hP hD hS ls hl
      rw [eJ43_10] at hf
      refine lv_aload_n C.1.1 C.1.2.1 dX1_doBlock_43 rfl (lv_at hl 3 rfl) ?_
      refine lv_aload_n C.1.1 C.1.2.1 dX1_doBlock_44 rfl (lv_at hl 1 rfl) ?_
      refine zGet (.ref (aP 5)) C.1 wuX4 hK hP 0 rfl rfl 8 (by decide) wfX1_43 rfl rfl dX1_doBlock_45 ?_
      refine lv_iload C.1.1 C.1.2.1 dX1_doBlock_48 (lv_at hl 5 rfl) ?_
      obtain ⟨hib, hf⟩ := zGd_el hf
      refine va_iald C.1.1 C.1.2.1 hK.1 hP 5 0 rfl rfl hib dX1_doBlock_50 ?_
      refine lv_aload_n C.1.1 C.1.2.1 dX1_doBlock_51 rfl (lv_at hl 0 rfl) ?_
      refine lv_aload_n C.1.1 C.1.2.1 dX1_doBlock_52 rfl (lv_at hl 1 rfl) ?_
      refine lv_iload C.1.1 C.1.2.1 dX1_doBlock_53 (lv_at hl 5 rfl) ?_
      refine lv_aload_n C.1.1 C.1.2.1 dX1_doBlock_55 rfl (lv_at hl 3 rfl) ?_
      refine lv_iload C.1.1 C.1.2.1 dX1_doBlock_56 (lv_at hl 4 rfl) ?_
      obtain ⟨v11, oQ_12, hg, hf⟩ := zB2_el hf
      refine zCVi (As := [.ref (aP 0), .int x5, .ref (aO 0), .int p4]) (rest := [.int (oP 8 x5.toNatClampNeg), .ref (aO 0)]) (wr := ([] : va_W)) (wn := (kX4 cI cB aP oP ++ kX1 cI cB aM (aN 0) (aY 0) (aQ 0) ++ kX3 cI cB aQ oQ_12 ++ kA8 cI cB aO oO_7)) C.1 hK hA hP hD hS [0, 1, 2, 3, 4, 5, 6, 7, 8, 9, 10, 11, 12, 13] [] [0, 1, 2, 3, 4, 5, 6, 7, 8, 9, 10, 11, 12, 13] 10 (mtX1_worth l dC dI cI cB aP aM aN aY aQ aO H.size NN oP oQ_6 oO_7 x5 p4 hg) (zCwV 4 C.1 wlX1_46 wiX1_worth ws_X1_worth wnX1 wkX1_worth rfl rfl (by decide +kernel) ⟨Nat.le_of_ble_eq_true rfl, Nat.le_of_ble_eq_true rfl⟩) rfl rfl (by decide +kernel) rfl rfl rfl rfl hl.1 (Nat.le_of_ble_eq_true rfl) dX1_doBlock_58 ⟨Nat.zero_le _, Nat.zero_le _⟩ rfl (fun H locs hP hD hS => ?_)
      obtain ⟨hib, hf⟩ := zGd_el hf
      obtain ⟨oO_13, eoO_13, hf⟩ := zLet_el hf
      refine zIast (kX4 cI cB aP oP ++ kX1 cI cB aM (aN 0) (aY 0) (aQ 0) ++ kX3 cI cB aQ oQ_12 ++ kA8 cI cB aO oO_13) C.1 hK hP hD hS 13 0 rfl rfl hib dX1_doBlock_61 (by rw [eoO_13]; rfl) (fun H locs hP hD hS => ?_)
      obtain ⟨x14, ex14, hf⟩ := zLet_el hf
      refine lv_iinc (v := x14) (lv' := [(5, .int x14), (0, .ref (aM 0)), (1, .ref (aP 0)), (2, .int p2), (3, .ref (aO 0)), (4, .int p4)]) C.1.1 C.1.2.1 dX1_doBlock_62 hl (k := 5) rfl (by rw [ex14]; rfl) (by decide) rfl (fun ls hl => ?_)
      refine lv_goto (tgt := 8) C.1.1 C.1.2.1 dX1_doBlock_65 (by decide) ?_
      exact ihgo8 x14 oQ_12 oO_13 hf H locs hP hD hS ls (lv_sub hl [1, 2, 3, 4, 5, 0] rfl)
    refine lv_icmp_eq (tgt := 43) C.1.1 C.1.2.1 dX1_doBlock_33 (by decide) (fun hc => ?_) (fun hc => ?_)
    · replace hf := zIf_t hf hc
      exact hJ43_10 () hf H locs hP hD hS ls (lv_sub hl [1, 2, 3, 4, 5, 6] rfl)
    · replace hf := zIf_f hf hc
      refine lv_aload_n C.1.1 C.1.2.1 dX1_doBlock_36 rfl (lv_at hl 4 rfl) ?_
      refine lv_iload C.1.1 C.1.2.1 dX1_doBlock_37 (lv_at hl 0 rfl) ?_
      obtain ⟨hib, hf⟩ := zGd_el hf
      refine va_iald C.1.1 C.1.2.1 hK.1 hP 13 0 rfl rfl hib dX1_doBlock_39 ?_
      refine lv_if_eq (tgt := 62) C.1.1 C.1.2.1 dX1_doBlock_40 (by decide) (fun hc => ?_) (fun hc => ?_)
      · replace hf := zIf_t hf hc
        obtain ⟨x15, ex15, hf⟩ := zLet_el hf
        refine lv_iinc (v := x15) (lv' := [(5, .int x15), (6, .int x9), (0, .ref (aM 0)), (1, .ref (aP 0)), (2, .int p2), (3, .ref (aO 0)), (4, .int p4)]) C.1.1 C.1.2.1 dX1_doBlock_62 hl (k := 6) rfl (by rw [ex15]; rfl) (by decide) rfl (fun ls hl => ?_)
        refine lv_goto (tgt := 8) C.1.1 C.1.2.1 dX1_doBlock_65 (by decide) ?_
        exact ihgo8 x15 oQ_6 oO_7 hf H locs hP hD hS ls (lv_sub hl [2, 3, 4, 5, 6, 0] rfl)
      · replace hf := zIf_f hf hc
        exact hJ43_10 () hf H locs hP hD hS ls (lv_sub hl [1, 2, 3, 4, 5, 6] rfl)
def fX1_tryBlock (NN : Nat) (oP : Rc) (oN : Ar) (oY : Ar) (oQ : Rc) (p2 : Int32) (p3 : Int32) : Option (Ar × Rc) :=
  zGd ((¬ (0 : Int32) < 0) ∧ (¬ (0 : Int32) < 0) ∧ (¬ (8 : Int32) < 0) ∧ (0 : Int32).toNatClampNeg + (8 : Int32).toNatClampNeg ≤ 8 ∧ (0 : Int32).toNatClampNeg + (8 : Int32).toNatClampNeg ≤ 8) <|
  zLet (va_cpy oN oY (0 : Int32).toNatClampNeg (0 : Int32).toNatClampNeg (8 : Int32).toNatClampNeg) fun oY_1 =>
  zB2 (fX1_doBlock NN oP oQ oY_1 p2 p3) fun oQ_2 oY_3 =>
  some (oY_3, oQ_2)
abbrev rX1_tryBlock : Room := { frames := 3, cells := 0, slots := 0, locals := 76 }
set_option maxHeartbeats 4000000 in
set_option maxRecDepth 100000 in
theorem mtX1_tryBlock (l : Launch) (dC : Nat → ClassId) (dI : Nat → Nat → Nat) (cI cB : ClassId) (aP aM aN aY aQ : Nat → Nat) (sz : Nat) (NN : Nat) (oP : Rc) (oN : Ar) (oY : Ar) (oQ : Rc) (p2 : Int32) (p3 : Int32) {oY' : Ar} {oQ' : Rc} (hf : fX1_tryBlock NN oP oN oY oQ p2 p3 = some (oY', oQ')) : zMv l yX1_tryBlock (Cond.code yX1_tryBlock cX1_tryBlock 4 none :: lw_g) rX1_tryBlock (dC, dI) [(cI, .int), (cB, .byte)] [.ref (aM 0), .ref (aP 0), .int p2, .int p3] sz (kX4 cI cB aP oP ++ kX1 cI cB aM (aN 0) (aY 0) (aQ 0) ++ kA8 cI cB aN oN ++ kA8 cI cB aY oY ++ kX3 cI cB aQ oQ) (kX4 cI cB aP oP ++ kX1 cI cB aM (aN 0) (aY 0) (aQ 0) ++ kA8 cI cB aN oN ++ kA8 cI cB aY oY' ++ kX3 cI cB aQ oQ') := by
  refine zSt (cc := cX1_tryBlock) (maxL := 4) (ret := none) (own := RX1) (fun A => zQv (dC, dI) [(cI, .int), (cB, .byte)] A (kX4 cI cB aP oP ++ kX1 cI cB aM (aN 0) (aY 0) (aQ 0) ++ kA8 cI cB aN oN ++ kA8 cI cB aY oY' ++ kX3 cI cB aQ oQ')) (by decide) rfl rfl (Nat.le_of_ble_eq_true rfl) ?_
  intro p e s m below meth c ls A H locs C hK hA hP hD hS hl
  generalize hQ : MQ below (zQv (dC, dI) [(cI, .int), (cB, .byte)] A (kX4 cI cB aP oP ++ kX1 cI cB aM (aN 0) (aY 0) (aQ 0) ++ kA8 cI cB aN oN ++ kA8 cI cB aY oY' ++ kX3 cI cB aQ oQ')) _ s 0 0 A = QQ
  generalize ([.ref (aM 0), .ref (aP 0), .int p2, .int p3] : List Value).toArray = args at C hQ ⊢
  have hl : lv_has ls 4 [(0, .ref (aM 0)), (1, .ref (aP 0)), (2, .int p2), (3, .int p3)] := hl
  unfold fX1_tryBlock at hf
  refine lv_aload_n C.1.1 C.1.2.1 dX1_tryBlock_0 rfl (lv_at hl 0 rfl) ?_
  refine zGet (.ref (aN 0)) C.1 wuX1 hK hP 10 rfl rfl 0 (by decide) wfX1_9 rfl rfl dX1_tryBlock_1 ?_
  refine lv_iconst (v := 0) C.1.1 C.1.2.1 dX1_tryBlock_4 (by decide) ?_
  refine lv_aload_n C.1.1 C.1.2.1 dX1_tryBlock_5 rfl (lv_at hl 0 rfl) ?_
  refine zGet (.ref (aY 0)) C.1 wuX1 hK hP 10 rfl rfl 1 (by decide) wfX1_15 rfl rfl dX1_tryBlock_6 ?_
  refine lv_iconst (v := 0) C.1.1 C.1.2.1 dX1_tryBlock_9 (by decide) ?_
  refine lv_bipush (v := 8) C.1.1 C.1.2.1 dX1_tryBlock_10 (by decide) ?_
  obtain ⟨⟨hc1, hc2, hc3, hc4, hc5⟩, hf⟩ := zGd_el hf
  obtain ⟨oY_1, eoY_1, hf⟩ := zLet_el hf
  refine va_copyi (ty := .int) C.1.1 C.1.2.1 (C.1.2.2.1.trans hl.1.symm) C.1.2.2.2.1 (C.1.2.2.2.2 _ wlX1_25) (C.1.2.2.2.2 _ wAcN) (C.1.2.2.2.2 _ wAcS) (C.1.2.2.2.2 _ wAcI) hK.1 hP hD hS 11 12 0 0 rfl rfl rfl rfl rfl hc1 hc2 hc3 hc4 hc5 (fun _ _ => rfl) (Nat.le_of_ble_eq_true rfl) (by decide +kernel) dX1_tryBlock_12 (fun H locs hP hD hS => ?_)
  replace hP : va_P (dC, dI) vwCl (kX4 cI cB aP oP ++ kX1 cI cB aM (aN 0) (aY 0) (aQ 0) ++ kA8 cI cB aN oN ++ kA8 cI cB aY oY_1 ++ kX3 cI cB aQ oQ) H := by rw [eoY_1]; exact hP
  replace hD : va_D A (kX4 cI cB aP oP ++ kX1 cI cB aM (aN 0) (aY 0) (aQ 0) ++ kA8 cI cB aN oN ++ kA8 cI cB aY oY_1 ++ kX3 cI cB aQ oQ) := by rw [eoY_1]; exact hD
  refine lv_aload_n C.1.1 C.1.2.1 dX1_tryBlock_15 rfl (lv_at hl 0 rfl) ?_
  refine lv_aload_n C.1.1 C.1.2.1 dX1_tryBlock_16 rfl (lv_at hl 1 rfl) ?_
  refine lv_iload_n C.1.1 C.1.2.1 dX1_tryBlock_17 rfl (lv_at hl 2 rfl) ?_
  refine lv_aload_n C.1.1 C.1.2.1 dX1_tryBlock_18 rfl (lv_at hl 0 rfl) ?_
  refine zGet (.ref (aY 0)) C.1 wuX1 hK hP 10 rfl rfl 1 (by decide) wfX1_15 rfl rfl dX1_tryBlock_19 ?_
  refine lv_iload_n C.1.1 C.1.2.1 dX1_tryBlock_22 rfl (lv_at hl 3 rfl) ?_
  obtain ⟨oQ_2, oY_3, hg, hf⟩ := zB2_el hf
  refine zCVv (As := [.ref (aP 0), .int p2, .ref (aY 0), .int p3]) (rest := []) (wr := (kA8 cI cB aN oN)) (wn := (kX4 cI cB aP oP ++ kX1 cI cB aM (aN 0) (aY 0) (aQ 0) ++ kA8 cI cB aN oN ++ kA8 cI cB aY oY_3 ++ kX3 cI cB aQ oQ_2)) C.1 hK hA hP hD hS [0, 1, 2, 3, 4, 5, 6, 7, 8, 9, 10, 13, 14, 12] [11] [1, 2, 3, 4, 5, 6, 7, 8, 9, 10, 11, 0, 14, 12, 13] 10 (mtX1_doBlock l dC dI cI cB aP aM aN aY aQ aY H.size NN oP oQ oY_1 p2 p3 hg) (zCwV 4 C.1 wlX1_31 wiX1_doBlock ws_X1_doBlock wnX1 wkX1_doBlock rfl rfl (by decide +kernel) ⟨Nat.le_of_ble_eq_true rfl, Nat.le_of_ble_eq_true rfl⟩) rfl rfl (by decide +kernel) rfl rfl rfl rfl hl.1 (Nat.le_of_ble_eq_true rfl) dX1_tryBlock_23 ⟨Nat.zero_le _, Nat.zero_le _⟩ rfl (fun H locs hP hD hS => ?_)
  cases hf
  rw [← hQ]
  exact zRv C hK hP hD hS dX1_tryBlock_26
def fX1_triedIsSame_L2 (oN : Ar) (oY : Ar) (J31_1 : Unit → Option (Int32)) (n : Nat) (x2 : Int32) : Option (Int32) := zLp1 (fun (go3 : Int32 → Option (Int32)) (x2 : Int32) =>
    if (8 : Int32) ≤ x2 then (
      J31_1 ()
    ) else (
      zGd (inb x2 8) <|
      zGd (inb x2 8) <|
      if (oY x2.toNatClampNeg) = (oN x2.toNatClampNeg) then (
        zLet (x2 + 1) fun x4 =>
        go3 x4
      ) else (
        some (0 : Int32)
      )
    )
  ) n x2
def fX1_triedIsSame (NN : Nat) (oN : Ar) (oY : Ar) : Option (Int32) :=
  zJn (fun (_ : Unit) =>
      some (1 : Int32)
    ) fun J31_1 =>
  fX1_triedIsSame_L2 oN oY J31_1 NN (0 : Int32)
abbrev rX1_triedIsSame : Room := { frames := 0, cells := 0, slots := 0, locals := 0 }
set_option maxHeartbeats 4000000 in
set_option maxRecDepth 100000 in
theorem mtX1_triedIsSame (l : Launch) (dC : Nat → ClassId) (dI : Nat → Nat → Nat) (cI cB : ClassId) (aM aN aY aQ : Nat → Nat) (sz : Nat) (NN : Nat) (oN : Ar) (oY : Ar) {ov : Int32} (hf : fX1_triedIsSame NN oN oY = some ov) : zMi l yX1_triedIsSame (Cond.code yX1_triedIsSame cX1_triedIsSame 2 (some .boolean) :: lw_g) rX1_triedIsSame (dC, dI) [(cI, .int), (cB, .byte)] [.ref (aM 0)] sz (kX1 cI cB aM (aN 0) (aY 0) (aQ 0) ++ kA8 cI cB aN oN ++ kA8 cI cB aY oY) ov (kX1 cI cB aM (aN 0) (aY 0) (aQ 0) ++ kA8 cI cB aN oN ++ kA8 cI cB aY oY) := by
  refine zSt (cc := cX1_triedIsSame) (maxL := 2) (ret := (some .boolean)) (own := RX1) (fun A => zQi (dC, dI) [(cI, .int), (cB, .byte)] A ov (kX1 cI cB aM (aN 0) (aY 0) (aQ 0) ++ kA8 cI cB aN oN ++ kA8 cI cB aY oY)) (by decide) rfl rfl (Nat.le_of_ble_eq_true rfl) ?_
  intro p e s m below meth c ls A H locs C hK hA hP hD hS hl
  generalize hQ : MQ below (zQi (dC, dI) [(cI, .int), (cB, .byte)] A ov (kX1 cI cB aM (aN 0) (aY 0) (aQ 0) ++ kA8 cI cB aN oN ++ kA8 cI cB aY oY)) _ s 0 0 A = QQ
  generalize ([.ref (aM 0)] : List Value).toArray = args at C hQ ⊢
  have hl : lv_has ls 2 [(0, .ref (aM 0))] := hl
  unfold fX1_triedIsSame at hf
  refine lv_iconst (v := 0) C.1.1 C.1.2.1 dX1_triedIsSame_0 (by decide) ?_
  refine lv_istore_n (lv' := [(1, .int (0 : Int32)), (0, .ref (aM 0))]) C.1.1 C.1.2.1 dX1_triedIsSame_1 rfl hl (by decide) rfl (fun ls hl => ?_)
  obtain ⟨J31_1, eJ31_1, hf⟩ := zJn_el hf
  have hJ31_1 : ∀ (u : Unit), J31_1 u = some ov → ∀ (H : Heap) (locs : List Loc), va_P (dC, dI) vwCl (kX1 cI cB aM (aN 0) (aY 0) (aQ 0) ++ kA8 cI cB aN oN ++ kA8 cI cB aY oY) H → va_D A (kX1 cI cB aM (aN 0) (aY 0) (aQ 0) ++ kA8 cI cB aN oN ++ kA8 cI cB aY oY) → va_S A s.heap H locs → ∀ (ls : Array Slot), lv_has ls 2 [] → W p l e rX1_triedIsSame s m args below meth c H locs 0 0 QQ (F0 m 31 ls []) := by
    intro u hf H locs hP hD hS ls hl
    rw [eJ31_1] at hf
    refine lv_iconst (v := 1) C.1.1 C.1.2.1 dX1_triedIsSame_31 (by decide) ?_
    cases hf
    rw [← hQ]
    exact zRz C (by decide +kernel) hK hP hD hS dX1_triedIsSame_32
  refine zLp1_ind (o := ov) (P := fun (x2 : Int32) => ∀ (H : Heap) (locs : List Loc), va_P (dC, dI) vwCl (kX1 cI cB aM (aN 0) (aY 0) (aQ 0) ++ kA8 cI cB aN oN ++ kA8 cI cB aY oY) H → va_D A (kX1 cI cB aM (aN 0) (aY 0) (aQ 0) ++ kA8 cI cB aN oN ++ kA8 cI cB aY oY) → va_S A s.heap H locs → ∀ (ls : Array Slot), lv_has ls 2 [(0, .ref (aM 0)), (1, .int x2)] → W p l e rX1_triedIsSame s m args below meth c H locs 0 0 QQ (F0 m 2 ls [])) (fun go3 ihgo3 x2 hf H locs hP hD hS ls hl => ?_) _ (0 : Int32) hf H locs hP hD hS ls (lv_sub hl [1, 0] rfl)
  refine lv_iload_n C.1.1 C.1.2.1 dX1_triedIsSame_2 rfl (lv_at hl 1 rfl) ?_
  refine lv_bipush (v := 8) C.1.1 C.1.2.1 dX1_triedIsSame_3 (by decide) ?_
  refine lv_icmp_ge (tgt := 31) C.1.1 C.1.2.1 dX1_triedIsSame_5 (by decide) (fun hc => ?_) (fun hc => ?_)
  · replace hf := zIf_t hf hc
    exact hJ31_1 () hf H locs hP hD hS ls (lv_sub hl [] rfl)
  · replace hf := zIf_f hf hc
    refine lv_aload_n C.1.1 C.1.2.1 dX1_triedIsSame_8 rfl (lv_at hl 0 rfl) ?_
    refine zGet (.ref (aY 0)) C.1 wuX1 hK hP 0 rfl rfl 1 (by decide) wfX1_15 rfl rfl dX1_triedIsSame_9 ?_
    refine lv_iload_n C.1.1 C.1.2.1 dX1_triedIsSame_12 rfl (lv_at hl 1 rfl) ?_
    obtain ⟨hib, hf⟩ := zGd_el hf
    refine va_iald C.1.1 C.1.2.1 hK.1 hP 2 0 rfl rfl hib dX1_triedIsSame_13 ?_
    refine lv_aload_n C.1.1 C.1.2.1 dX1_triedIsSame_14 rfl (lv_at hl 0 rfl) ?_
    refine zGet (.ref (aN 0)) C.1 wuX1 hK hP 0 rfl rfl 0 (by decide) wfX1_9 rfl rfl dX1_triedIsSame_15 ?_
    refine lv_iload_n C.1.1 C.1.2.1 dX1_triedIsSame_18 rfl (lv_at hl 1 rfl) ?_
    obtain ⟨hib, hf⟩ := zGd_el hf
    refine va_iald C.1.1 C.1.2.1 hK.1 hP 1 0 rfl rfl hib dX1_triedIsSame_19 ?_
    refine lv_icmp_eq (tgt := 25) C.1.1 C.1.2.1 dX1_triedIsSame_20 (by decide) (fun hc => ?_) (fun hc => ?_)
    · replace hf := zIf_t hf hc
      obtain ⟨x4, ex4, hf⟩ := zLet_el hf
      refine lv_iinc (v := x4) (lv' := [(1, .int x4), (0, .ref (aM 0))]) C.1.1 C.1.2.1 dX1_triedIsSame_25 hl (k := 1) rfl (by rw [ex4]; rfl) (by decide) rfl (fun ls hl => ?_)
      refine lv_goto (tgt := 2) C.1.1 C.1.2.1 dX1_triedIsSame_28 (by decide) ?_
      exact ihgo3 x4 hf H locs hP hD hS ls (lv_sub hl [1, 0] rfl)
    · replace hf := zIf_f hf hc
      refine lv_iconst (v := 0) C.1.1 C.1.2.1 dX1_triedIsSame_23 (by decide) ?_
      cases hf
      rw [← hQ]
      exact zRz C (by decide +kernel) hK hP hD hS dX1_triedIsSame_24
