theorem dX2_init_0 : decode cX2_init 0 = .ok (.aload_n 0, 1) := by decide +kernel
theorem dX2_init_1 : decode cX2_init 1 = .ok (.invokespecial 3, 3) := by decide +kernel
theorem dX2_init_4 : decode cX2_init 4 = .ok (.aload_n 0, 1) := by decide +kernel
theorem dX2_init_5 : decode cX2_init 5 = .ok (.bipush 12, 2) := by decide +kernel
theorem dX2_init_7 : decode cX2_init 7 = .ok (.newarray .int, 2) := by decide +kernel
theorem dX2_init_9 : decode cX2_init 9 = .ok (.putfield 9, 3) := by decide +kernel
theorem dX2_init_12 : decode cX2_init 12 = .ok (.aload_n 0, 1) := by decide +kernel
theorem dX2_init_13 : decode cX2_init 13 = .ok (.bipush 12, 2) := by decide +kernel
theorem dX2_init_15 : decode cX2_init 15 = .ok (.newarray .int, 2) := by decide +kernel
theorem dX2_init_17 : decode cX2_init 17 = .ok (.putfield 15, 3) := by decide +kernel
theorem dX2_init_20 : decode cX2_init 20 = .ok (.aload_n 0, 1) := by decide +kernel
theorem dX2_init_21 : decode cX2_init 21 = .ok (.bipush 12, 2) := by decide +kernel
theorem dX2_init_23 : decode cX2_init 23 = .ok (.newarray .int, 2) := by decide +kernel
theorem dX2_init_25 : decode cX2_init 25 = .ok (.putfield 18, 3) := by decide +kernel
theorem dX2_init_28 : decode cX2_init 28 = .ok (.aload_n 0, 1) := by decide +kernel
theorem dX2_init_29 : decode cX2_init 29 = .ok (.bipush 12, 2) := by decide +kernel
theorem dX2_init_31 : decode cX2_init 31 = .ok (.newarray .int, 2) := by decide +kernel
theorem dX2_init_33 : decode cX2_init 33 = .ok (.putfield 21, 3) := by decide +kernel
theorem dX2_init_36 : decode cX2_init 36 = .ok (.aload_n 0, 1) := by decide +kernel
theorem dX2_init_37 : decode cX2_init 37 = .ok (.bipush 12, 2) := by decide +kernel
theorem dX2_init_39 : decode cX2_init 39 = .ok (.newarray .int, 2) := by decide +kernel
theorem dX2_init_41 : decode cX2_init 41 = .ok (.putfield 24, 3) := by decide +kernel
theorem dX2_init_44 : decode cX2_init 44 = .ok (.aload_n 0, 1) := by decide +kernel
theorem dX2_init_45 : decode cX2_init 45 = .ok (.bipush 12, 2) := by decide +kernel
theorem dX2_init_47 : decode cX2_init 47 = .ok (.newarray .int, 2) := by decide +kernel
theorem dX2_init_49 : decode cX2_init 49 = .ok (.putfield 27, 3) := by decide +kernel
theorem dX2_init_52 : decode cX2_init 52 = .ok (.aload_n 0, 1) := by decide +kernel
theorem dX2_init_53 : decode cX2_init 53 = .ok (.bipush 12, 2) := by decide +kernel
theorem dX2_init_55 : decode cX2_init 55 = .ok (.newarray .int, 2) := by decide +kernel
theorem dX2_init_57 : decode cX2_init 57 = .ok (.putfield 30, 3) := by decide +kernel
theorem dX2_init_60 : decode cX2_init 60 = .ok (.aload_n 0, 1) := by decide +kernel
theorem dX2_init_61 : decode cX2_init 61 = .ok (.bipush 8, 2) := by decide +kernel
theorem dX2_init_63 : decode cX2_init 63 = .ok (.newarray .int, 2) := by decide +kernel
theorem dX2_init_65 : decode cX2_init 65 = .ok (.putfield 33, 3) := by decide +kernel
theorem dX2_init_68 : decode cX2_init 68 = .ok (.aload_n 0, 1) := by decide +kernel
theorem dX2_init_69 : decode cX2_init 69 = .ok (.new 36, 3) := by decide +kernel
theorem dX2_init_72 : decode cX2_init 72 = .ok (.dup, 1) := by decide +kernel
theorem dX2_init_73 : decode cX2_init 73 = .ok (.invokespecial 38, 3) := by decide +kernel
theorem dX2_init_76 : decode cX2_init 76 = .ok (.putfield 39, 3) := by decide +kernel
theorem dX2_init_79 : decode cX2_init 79 = .ok (.aload_n 0, 1) := by decide +kernel
theorem dX2_init_80 : decode cX2_init 80 = .ok (.bipush 8, 2) := by decide +kernel
theorem dX2_init_82 : decode cX2_init 82 = .ok (.putfield 43, 3) := by decide +kernel
theorem dX2_init_85 : decode cX2_init 85 = .ok (.aload_n 0, 1) := by decide +kernel
theorem dX2_init_86 : decode cX2_init 86 = .ok (.iconst 0, 1) := by decide +kernel
theorem dX2_init_87 : decode cX2_init 87 = .ok (.putfield 47, 3) := by decide +kernel
theorem dX2_init_90 : decode cX2_init 90 = .ok (.return_, 1) := by decide +kernel
theorem dX2_reckon_0 : decode cX2_reckon 0 = .ok (.aload_n 0, 1) := by decide +kernel
theorem dX2_reckon_1 : decode cX2_reckon 1 = .ok (.iload_n 2, 1) := by decide +kernel
theorem dX2_reckon_2 : decode cX2_reckon 2 = .ok (.putfield 43, 3) := by decide +kernel
theorem dX2_reckon_5 : decode cX2_reckon 5 = .ok (.iconst 0, 1) := by decide +kernel
theorem dX2_reckon_6 : decode cX2_reckon 6 = .ok (.istore 4, 2) := by decide +kernel
theorem dX2_reckon_8 : decode cX2_reckon 8 = .ok (.iload 4, 2) := by decide +kernel
theorem dX2_reckon_10 : decode cX2_reckon 10 = .ok (.aload_n 1, 1) := by decide +kernel
theorem dX2_reckon_11 : decode cX2_reckon 11 = .ok (.getfield 50, 3) := by decide +kernel
theorem dX2_reckon_14 : decode cX2_reckon 14 = .ok (.if_icmp .ge 115, 3) := by decide +kernel
theorem dX2_reckon_17 : decode cX2_reckon 17 = .ok (.aload_n 0, 1) := by decide +kernel
theorem dX2_reckon_18 : decode cX2_reckon 18 = .ok (.iload 4, 2) := by decide +kernel
theorem dX2_reckon_20 : decode cX2_reckon 20 = .ok (.invokevirtual 55, 3) := by decide +kernel
theorem dX2_reckon_23 : decode cX2_reckon 23 = .ok (.aload_n 1, 1) := by decide +kernel
theorem dX2_reckon_24 : decode cX2_reckon 24 = .ok (.getfield 59, 3) := by decide +kernel
theorem dX2_reckon_27 : decode cX2_reckon 27 = .ok (.iload 4, 2) := by decide +kernel
theorem dX2_reckon_29 : decode cX2_reckon 29 = .ok (.iaload, 1) := by decide +kernel
theorem dX2_reckon_30 : decode cX2_reckon 30 = .ok (.istore 5, 2) := by decide +kernel
theorem dX2_reckon_32 : decode cX2_reckon 32 = .ok (.iload 5, 2) := by decide +kernel
theorem dX2_reckon_34 : decode cX2_reckon 34 = .ok (.aload_n 1, 1) := by decide +kernel
theorem dX2_reckon_35 : decode cX2_reckon 35 = .ok (.getfield 59, 3) := by decide +kernel
theorem dX2_reckon_38 : decode cX2_reckon 38 = .ok (.iload 4, 2) := by decide +kernel
theorem dX2_reckon_40 : decode cX2_reckon 40 = .ok (.iconst 1, 1) := by decide +kernel
theorem dX2_reckon_41 : decode cX2_reckon 41 = .ok (.iadd, 1) := by decide +kernel
theorem dX2_reckon_42 : decode cX2_reckon 42 = .ok (.iaload, 1) := by decide +kernel
theorem dX2_reckon_43 : decode cX2_reckon 43 = .ok (.if_icmp .ge 18, 3) := by decide +kernel
theorem dX2_reckon_46 : decode cX2_reckon 46 = .ok (.aload_n 0, 1) := by decide +kernel
theorem dX2_reckon_47 : decode cX2_reckon 47 = .ok (.aload_n 1, 1) := by decide +kernel
theorem dX2_reckon_48 : decode cX2_reckon 48 = .ok (.iload 4, 2) := by decide +kernel
theorem dX2_reckon_50 : decode cX2_reckon 50 = .ok (.iload 5, 2) := by decide +kernel
theorem dX2_reckon_52 : decode cX2_reckon 52 = .ok (.invokevirtual 62, 3) := by decide +kernel
theorem dX2_reckon_55 : decode cX2_reckon 55 = .ok (.iinc 5 1, 3) := by decide +kernel
theorem dX2_reckon_58 : decode cX2_reckon 58 = .ok (.goto (-26), 3) := by decide +kernel
theorem dX2_reckon_61 : decode cX2_reckon 61 = .ok (.aload_n 1, 1) := by decide +kernel
theorem dX2_reckon_62 : decode cX2_reckon 62 = .ok (.getfield 66, 3) := by decide +kernel
theorem dX2_reckon_65 : decode cX2_reckon 65 = .ok (.iload 4, 2) := by decide +kernel
theorem dX2_reckon_67 : decode cX2_reckon 67 = .ok (.iaload, 1) := by decide +kernel
theorem dX2_reckon_68 : decode cX2_reckon 68 = .ok (.istore 5, 2) := by decide +kernel
theorem dX2_reckon_70 : decode cX2_reckon 70 = .ok (.aload_n 0, 1) := by decide +kernel
theorem dX2_reckon_71 : decode cX2_reckon 71 = .ok (.getfield 15, 3) := by decide +kernel
theorem dX2_reckon_74 : decode cX2_reckon 74 = .ok (.iload 4, 2) := by decide +kernel
theorem dX2_reckon_76 : decode cX2_reckon 76 = .ok (.dup2, 1) := by decide +kernel
theorem dX2_reckon_77 : decode cX2_reckon 77 = .ok (.iaload, 1) := by decide +kernel
theorem dX2_reckon_78 : decode cX2_reckon 78 = .ok (.iload 5, 2) := by decide +kernel
theorem dX2_reckon_80 : decode cX2_reckon 80 = .ok (.imul, 1) := by decide +kernel
theorem dX2_reckon_81 : decode cX2_reckon 81 = .ok (.iastore, 1) := by decide +kernel
theorem dX2_reckon_82 : decode cX2_reckon 82 = .ok (.iload_n 3, 1) := by decide +kernel
theorem dX2_reckon_83 : decode cX2_reckon 83 = .ok (.ifCond .le 19, 3) := by decide +kernel
theorem dX2_reckon_86 : decode cX2_reckon 86 = .ok (.aload_n 0, 1) := by decide +kernel
theorem dX2_reckon_87 : decode cX2_reckon 87 = .ok (.getfield 21, 3) := by decide +kernel
theorem dX2_reckon_90 : decode cX2_reckon 90 = .ok (.iload 4, 2) := by decide +kernel
theorem dX2_reckon_92 : decode cX2_reckon 92 = .ok (.iaload, 1) := by decide +kernel
theorem dX2_reckon_93 : decode cX2_reckon 93 = .ok (.iload_n 3, 1) := by decide +kernel
theorem dX2_reckon_94 : decode cX2_reckon 94 = .ok (.iadd, 1) := by decide +kernel
theorem dX2_reckon_95 : decode cX2_reckon 95 = .ok (.iconst 1, 1) := by decide +kernel
theorem dX2_reckon_96 : decode cX2_reckon 96 = .ok (.isub, 1) := by decide +kernel
theorem dX2_reckon_97 : decode cX2_reckon 97 = .ok (.iload_n 3, 1) := by decide +kernel
theorem dX2_reckon_98 : decode cX2_reckon 98 = .ok (.idiv, 1) := by decide +kernel
theorem dX2_reckon_99 : decode cX2_reckon 99 = .ok (.goto 4, 3) := by decide +kernel
theorem dX2_reckon_102 : decode cX2_reckon 102 = .ok (.iconst 1, 1) := by decide +kernel
theorem dX2_reckon_103 : decode cX2_reckon 103 = .ok (.istore 6, 2) := by decide +kernel
theorem dX2_reckon_105 : decode cX2_reckon 105 = .ok (.aload_n 0, 1) := by decide +kernel
theorem dX2_reckon_106 : decode cX2_reckon 106 = .ok (.getfield 24, 3) := by decide +kernel
theorem dX2_reckon_109 : decode cX2_reckon 109 = .ok (.iload 4, 2) := by decide +kernel
theorem dX2_reckon_111 : decode cX2_reckon 111 = .ok (.iconst 1, 1) := by decide +kernel
theorem dX2_reckon_112 : decode cX2_reckon 112 = .ok (.iload 5, 2) := by decide +kernel
theorem dX2_reckon_114 : decode cX2_reckon 114 = .ok (.iconst 1, 1) := by decide +kernel
theorem dX2_reckon_115 : decode cX2_reckon 115 = .ok (.iload 6, 2) := by decide +kernel
theorem dX2_reckon_117 : decode cX2_reckon 117 = .ok (.invokestatic 69, 3) := by decide +kernel
theorem dX2_reckon_120 : decode cX2_reckon 120 = .ok (.imul, 1) := by decide +kernel
theorem dX2_reckon_121 : decode cX2_reckon 121 = .ok (.iadd, 1) := by decide +kernel
theorem dX2_reckon_122 : decode cX2_reckon 122 = .ok (.iastore, 1) := by decide +kernel
theorem dX2_reckon_123 : decode cX2_reckon 123 = .ok (.iinc 4 1, 3) := by decide +kernel
theorem dX2_reckon_126 : decode cX2_reckon 126 = .ok (.goto (-118), 3) := by decide +kernel
theorem dX2_reckon_129 : decode cX2_reckon 129 = .ok (.return_, 1) := by decide +kernel
theorem dX2_beginBlock_0 : decode cX2_beginBlock 0 = .ok (.aload_n 0, 1) := by decide +kernel
theorem dX2_beginBlock_1 : decode cX2_beginBlock 1 = .ok (.getfield 9, 3) := by decide +kernel
theorem dX2_beginBlock_4 : decode cX2_beginBlock 4 = .ok (.iload_n 1, 1) := by decide +kernel
theorem dX2_beginBlock_5 : decode cX2_beginBlock 5 = .ok (.iconst 0, 1) := by decide +kernel
theorem dX2_beginBlock_6 : decode cX2_beginBlock 6 = .ok (.iastore, 1) := by decide +kernel
theorem dX2_beginBlock_7 : decode cX2_beginBlock 7 = .ok (.aload_n 0, 1) := by decide +kernel
theorem dX2_beginBlock_8 : decode cX2_beginBlock 8 = .ok (.getfield 15, 3) := by decide +kernel
theorem dX2_beginBlock_11 : decode cX2_beginBlock 11 = .ok (.iload_n 1, 1) := by decide +kernel
theorem dX2_beginBlock_12 : decode cX2_beginBlock 12 = .ok (.iconst 0, 1) := by decide +kernel
theorem dX2_beginBlock_13 : decode cX2_beginBlock 13 = .ok (.iastore, 1) := by decide +kernel
theorem dX2_beginBlock_14 : decode cX2_beginBlock 14 = .ok (.aload_n 0, 1) := by decide +kernel
theorem dX2_beginBlock_15 : decode cX2_beginBlock 15 = .ok (.getfield 18, 3) := by decide +kernel
theorem dX2_beginBlock_18 : decode cX2_beginBlock 18 = .ok (.iload_n 1, 1) := by decide +kernel
theorem dX2_beginBlock_19 : decode cX2_beginBlock 19 = .ok (.iconst 0, 1) := by decide +kernel
theorem dX2_beginBlock_20 : decode cX2_beginBlock 20 = .ok (.iastore, 1) := by decide +kernel
theorem dX2_beginBlock_21 : decode cX2_beginBlock 21 = .ok (.aload_n 0, 1) := by decide +kernel
theorem dX2_beginBlock_22 : decode cX2_beginBlock 22 = .ok (.getfield 21, 3) := by decide +kernel
theorem dX2_beginBlock_25 : decode cX2_beginBlock 25 = .ok (.iload_n 1, 1) := by decide +kernel
theorem dX2_beginBlock_26 : decode cX2_beginBlock 26 = .ok (.iconst 0, 1) := by decide +kernel
theorem dX2_beginBlock_27 : decode cX2_beginBlock 27 = .ok (.iastore, 1) := by decide +kernel
theorem dX2_beginBlock_28 : decode cX2_beginBlock 28 = .ok (.aload_n 0, 1) := by decide +kernel
theorem dX2_beginBlock_29 : decode cX2_beginBlock 29 = .ok (.getfield 27, 3) := by decide +kernel
theorem dX2_beginBlock_32 : decode cX2_beginBlock 32 = .ok (.iload_n 1, 1) := by decide +kernel
theorem dX2_beginBlock_33 : decode cX2_beginBlock 33 = .ok (.iconst 0, 1) := by decide +kernel
theorem dX2_beginBlock_34 : decode cX2_beginBlock 34 = .ok (.iastore, 1) := by decide +kernel
theorem dX2_beginBlock_35 : decode cX2_beginBlock 35 = .ok (.aload_n 0, 1) := by decide +kernel
theorem dX2_beginBlock_36 : decode cX2_beginBlock 36 = .ok (.getfield 30, 3) := by decide +kernel
theorem dX2_beginBlock_39 : decode cX2_beginBlock 39 = .ok (.iload_n 1, 1) := by decide +kernel
theorem dX2_beginBlock_40 : decode cX2_beginBlock 40 = .ok (.iconst 0, 1) := by decide +kernel
theorem dX2_beginBlock_41 : decode cX2_beginBlock 41 = .ok (.iastore, 1) := by decide +kernel
theorem dX2_beginBlock_42 : decode cX2_beginBlock 42 = .ok (.aload_n 0, 1) := by decide +kernel
theorem dX2_beginBlock_43 : decode cX2_beginBlock 43 = .ok (.iconst 0, 1) := by decide +kernel
theorem dX2_beginBlock_44 : decode cX2_beginBlock 44 = .ok (.putfield 47, 3) := by decide +kernel
theorem dX2_beginBlock_47 : decode cX2_beginBlock 47 = .ok (.iconst 0, 1) := by decide +kernel
theorem dX2_beginBlock_48 : decode cX2_beginBlock 48 = .ok (.istore_n 2, 1) := by decide +kernel
theorem dX2_beginBlock_49 : decode cX2_beginBlock 49 = .ok (.iload_n 2, 1) := by decide +kernel
theorem dX2_beginBlock_50 : decode cX2_beginBlock 50 = .ok (.bipush 8, 2) := by decide +kernel
theorem dX2_beginBlock_52 : decode cX2_beginBlock 52 = .ok (.if_icmp .ge 16, 3) := by decide +kernel
theorem dX2_beginBlock_55 : decode cX2_beginBlock 55 = .ok (.aload_n 0, 1) := by decide +kernel
theorem dX2_beginBlock_56 : decode cX2_beginBlock 56 = .ok (.getfield 33, 3) := by decide +kernel
theorem dX2_beginBlock_59 : decode cX2_beginBlock 59 = .ok (.iload_n 2, 1) := by decide +kernel
theorem dX2_beginBlock_60 : decode cX2_beginBlock 60 = .ok (.iconst 0, 1) := by decide +kernel
theorem dX2_beginBlock_61 : decode cX2_beginBlock 61 = .ok (.iastore, 1) := by decide +kernel
theorem dX2_beginBlock_62 : decode cX2_beginBlock 62 = .ok (.iinc 2 1, 3) := by decide +kernel
theorem dX2_beginBlock_65 : decode cX2_beginBlock 65 = .ok (.goto (-16), 3) := by decide +kernel
theorem dX2_beginBlock_68 : decode cX2_beginBlock 68 = .ok (.return_, 1) := by decide +kernel
theorem dX2_reckonLine_0 : decode cX2_reckonLine 0 = .ok (.aload_n 1, 1) := by decide +kernel
theorem dX2_reckonLine_1 : decode cX2_reckonLine 1 = .ok (.getfield 75, 3) := by decide +kernel
theorem dX2_reckonLine_4 : decode cX2_reckonLine 4 = .ok (.iload_n 3, 1) := by decide +kernel
theorem dX2_reckonLine_5 : decode cX2_reckonLine 5 = .ok (.iaload, 1) := by decide +kernel
theorem dX2_reckonLine_6 : decode cX2_reckonLine 6 = .ok (.istore 4, 2) := by decide +kernel
theorem dX2_reckonLine_8 : decode cX2_reckonLine 8 = .ok (.aload_n 1, 1) := by decide +kernel
theorem dX2_reckonLine_9 : decode cX2_reckonLine 9 = .ok (.getfield 78, 3) := by decide +kernel
theorem dX2_reckonLine_12 : decode cX2_reckonLine 12 = .ok (.iload_n 3, 1) := by decide +kernel
theorem dX2_reckonLine_13 : decode cX2_reckonLine 13 = .ok (.iaload, 1) := by decide +kernel
theorem dX2_reckonLine_14 : decode cX2_reckonLine 14 = .ok (.istore 5, 2) := by decide +kernel
theorem dX2_reckonLine_16 : decode cX2_reckonLine 16 = .ok (.aload_n 0, 1) := by decide +kernel
theorem dX2_reckonLine_17 : decode cX2_reckonLine 17 = .ok (.getfield 15, 3) := by decide +kernel
theorem dX2_reckonLine_20 : decode cX2_reckonLine 20 = .ok (.iload_n 2, 1) := by decide +kernel
theorem dX2_reckonLine_21 : decode cX2_reckonLine 21 = .ok (.dup2, 1) := by decide +kernel
theorem dX2_reckonLine_22 : decode cX2_reckonLine 22 = .ok (.iaload, 1) := by decide +kernel
theorem dX2_reckonLine_23 : decode cX2_reckonLine 23 = .ok (.iconst 1, 1) := by decide +kernel
theorem dX2_reckonLine_24 : decode cX2_reckonLine 24 = .ok (.iadd, 1) := by decide +kernel
theorem dX2_reckonLine_25 : decode cX2_reckonLine 25 = .ok (.iastore, 1) := by decide +kernel
theorem dX2_reckonLine_26 : decode cX2_reckonLine 26 = .ok (.aload_n 0, 1) := by decide +kernel
theorem dX2_reckonLine_27 : decode cX2_reckonLine 27 = .ok (.aload_n 1, 1) := by decide +kernel
theorem dX2_reckonLine_28 : decode cX2_reckonLine 28 = .ok (.iload_n 2, 1) := by decide +kernel
theorem dX2_reckonLine_29 : decode cX2_reckonLine 29 = .ok (.iload_n 3, 1) := by decide +kernel
theorem dX2_reckonLine_30 : decode cX2_reckonLine 30 = .ok (.invokevirtual 81, 3) := by decide +kernel
theorem dX2_reckonLine_33 : decode cX2_reckonLine 33 = .ok (.istore 6, 2) := by decide +kernel
theorem dX2_reckonLine_35 : decode cX2_reckonLine 35 = .ok (.iload 4, 2) := by decide +kernel
theorem dX2_reckonLine_37 : decode cX2_reckonLine 37 = .ok (.iconst (-1), 1) := by decide +kernel
theorem dX2_reckonLine_38 : decode cX2_reckonLine 38 = .ok (.if_icmp .ne 19, 3) := by decide +kernel
theorem dX2_reckonLine_41 : decode cX2_reckonLine 41 = .ok (.aload_n 0, 1) := by decide +kernel
theorem dX2_reckonLine_42 : decode cX2_reckonLine 42 = .ok (.dup, 1) := by decide +kernel
theorem dX2_reckonLine_43 : decode cX2_reckonLine 43 = .ok (.getfield 47, 3) := by decide +kernel
theorem dX2_reckonLine_46 : decode cX2_reckonLine 46 = .ok (.iconst 1, 1) := by decide +kernel
theorem dX2_reckonLine_47 : decode cX2_reckonLine 47 = .ok (.iload 5, 2) := by decide +kernel
theorem dX2_reckonLine_49 : decode cX2_reckonLine 49 = .ok (.ishl, 1) := by decide +kernel
theorem dX2_reckonLine_50 : decode cX2_reckonLine 50 = .ok (.ior, 1) := by decide +kernel
theorem dX2_reckonLine_51 : decode cX2_reckonLine 51 = .ok (.putfield 47, 3) := by decide +kernel
theorem dX2_reckonLine_54 : decode cX2_reckonLine 54 = .ok (.goto 55, 3) := by decide +kernel
theorem dX2_reckonLine_57 : decode cX2_reckonLine 57 = .ok (.aload_n 0, 1) := by decide +kernel
theorem dX2_reckonLine_58 : decode cX2_reckonLine 58 = .ok (.iload_n 2, 1) := by decide +kernel
theorem dX2_reckonLine_59 : decode cX2_reckonLine 59 = .ok (.iload 4, 2) := by decide +kernel
theorem dX2_reckonLine_61 : decode cX2_reckonLine 61 = .ok (.invokevirtual 85, 3) := by decide +kernel
theorem dX2_reckonLine_64 : decode cX2_reckonLine 64 = .ok (.aload_n 0, 1) := by decide +kernel
theorem dX2_reckonLine_65 : decode cX2_reckonLine 65 = .ok (.iload_n 2, 1) := by decide +kernel
theorem dX2_reckonLine_66 : decode cX2_reckonLine 66 = .ok (.iload 5, 2) := by decide +kernel
theorem dX2_reckonLine_68 : decode cX2_reckonLine 68 = .ok (.invokevirtual 85, 3) := by decide +kernel
theorem dX2_reckonLine_71 : decode cX2_reckonLine 71 = .ok (.aload_n 0, 1) := by decide +kernel
theorem dX2_reckonLine_72 : decode cX2_reckonLine 72 = .ok (.iload_n 2, 1) := by decide +kernel
theorem dX2_reckonLine_73 : decode cX2_reckonLine 73 = .ok (.bipush 63, 2) := by decide +kernel
theorem dX2_reckonLine_75 : decode cX2_reckonLine 75 = .ok (.invokevirtual 89, 3) := by decide +kernel
theorem dX2_reckonLine_78 : decode cX2_reckonLine 78 = .ok (.iload 6, 2) := by decide +kernel
theorem dX2_reckonLine_80 : decode cX2_reckonLine 80 = .ok (.aload_n 0, 1) := by decide +kernel
theorem dX2_reckonLine_81 : decode cX2_reckonLine 81 = .ok (.getfield 33, 3) := by decide +kernel
theorem dX2_reckonLine_84 : decode cX2_reckonLine 84 = .ok (.iload 4, 2) := by decide +kernel
theorem dX2_reckonLine_86 : decode cX2_reckonLine 86 = .ok (.iaload, 1) := by decide +kernel
theorem dX2_reckonLine_87 : decode cX2_reckonLine 87 = .ok (.aload_n 0, 1) := by decide +kernel
theorem dX2_reckonLine_88 : decode cX2_reckonLine 88 = .ok (.getfield 33, 3) := by decide +kernel
theorem dX2_reckonLine_91 : decode cX2_reckonLine 91 = .ok (.iload 5, 2) := by decide +kernel
theorem dX2_reckonLine_93 : decode cX2_reckonLine 93 = .ok (.iaload, 1) := by decide +kernel
theorem dX2_reckonLine_94 : decode cX2_reckonLine 94 = .ok (.invokestatic 69, 3) := by decide +kernel
theorem dX2_reckonLine_97 : decode cX2_reckonLine 97 = .ok (.invokestatic 69, 3) := by decide +kernel
theorem dX2_reckonLine_100 : decode cX2_reckonLine 100 = .ok (.aload_n 0, 1) := by decide +kernel
theorem dX2_reckonLine_101 : decode cX2_reckonLine 101 = .ok (.bipush 63, 2) := by decide +kernel
theorem dX2_reckonLine_103 : decode cX2_reckonLine 103 = .ok (.invokevirtual 92, 3) := by decide +kernel
theorem dX2_reckonLine_106 : decode cX2_reckonLine 106 = .ok (.iadd, 1) := by decide +kernel
theorem dX2_reckonLine_107 : decode cX2_reckonLine 107 = .ok (.istore 6, 2) := by decide +kernel
theorem dX2_reckonLine_109 : decode cX2_reckonLine 109 = .ok (.aload_n 0, 1) := by decide +kernel
theorem dX2_reckonLine_110 : decode cX2_reckonLine 110 = .ok (.getfield 33, 3) := by decide +kernel
theorem dX2_reckonLine_113 : decode cX2_reckonLine 113 = .ok (.iload 5, 2) := by decide +kernel
theorem dX2_reckonLine_115 : decode cX2_reckonLine 115 = .ok (.iload 6, 2) := by decide +kernel
theorem dX2_reckonLine_117 : decode cX2_reckonLine 117 = .ok (.iastore, 1) := by decide +kernel
theorem dX2_reckonLine_118 : decode cX2_reckonLine 118 = .ok (.aload_n 0, 1) := by decide +kernel
theorem dX2_reckonLine_119 : decode cX2_reckonLine 119 = .ok (.getfield 21, 3) := by decide +kernel
theorem dX2_reckonLine_122 : decode cX2_reckonLine 122 = .ok (.iload_n 2, 1) := by decide +kernel
theorem dX2_reckonLine_123 : decode cX2_reckonLine 123 = .ok (.aload_n 0, 1) := by decide +kernel
theorem dX2_reckonLine_124 : decode cX2_reckonLine 124 = .ok (.getfield 21, 3) := by decide +kernel
theorem dX2_reckonLine_127 : decode cX2_reckonLine 127 = .ok (.iload_n 2, 1) := by decide +kernel
theorem dX2_reckonLine_128 : decode cX2_reckonLine 128 = .ok (.iaload, 1) := by decide +kernel
theorem dX2_reckonLine_129 : decode cX2_reckonLine 129 = .ok (.iload 6, 2) := by decide +kernel
theorem dX2_reckonLine_131 : decode cX2_reckonLine 131 = .ok (.invokestatic 69, 3) := by decide +kernel
theorem dX2_reckonLine_134 : decode cX2_reckonLine 134 = .ok (.iastore, 1) := by decide +kernel
theorem dX2_reckonLine_135 : decode cX2_reckonLine 135 = .ok (.aload_n 0, 1) := by decide +kernel
theorem dX2_reckonLine_136 : decode cX2_reckonLine 136 = .ok (.getfield 30, 3) := by decide +kernel
theorem dX2_reckonLine_139 : decode cX2_reckonLine 139 = .ok (.iload_n 2, 1) := by decide +kernel
theorem dX2_reckonLine_140 : decode cX2_reckonLine 140 = .ok (.dup2, 1) := by decide +kernel
theorem dX2_reckonLine_141 : decode cX2_reckonLine 141 = .ok (.iaload, 1) := by decide +kernel
theorem dX2_reckonLine_142 : decode cX2_reckonLine 142 = .ok (.iconst 1, 1) := by decide +kernel
theorem dX2_reckonLine_143 : decode cX2_reckonLine 143 = .ok (.iload 5, 2) := by decide +kernel
theorem dX2_reckonLine_145 : decode cX2_reckonLine 145 = .ok (.ishl, 1) := by decide +kernel
theorem dX2_reckonLine_146 : decode cX2_reckonLine 146 = .ok (.ior, 1) := by decide +kernel
theorem dX2_reckonLine_147 : decode cX2_reckonLine 147 = .ok (.iastore, 1) := by decide +kernel
theorem dX2_reckonLine_148 : decode cX2_reckonLine 148 = .ok (.return_, 1) := by decide +kernel
theorem dX2_sumDepth_0 : decode cX2_sumDepth 0 = .ok (.aload_n 0, 1) := by decide +kernel
theorem dX2_sumDepth_1 : decode cX2_sumDepth 1 = .ok (.getfield 39, 3) := by decide +kernel
theorem dX2_sumDepth_4 : decode cX2_sumDepth 4 = .ok (.invokevirtual 96, 3) := by decide +kernel
theorem dX2_sumDepth_7 : decode cX2_sumDepth 7 = .ok (.aload_n 1, 1) := by decide +kernel
theorem dX2_sumDepth_8 : decode cX2_sumDepth 8 = .ok (.getfield 99, 3) := by decide +kernel
theorem dX2_sumDepth_11 : decode cX2_sumDepth 11 = .ok (.iload_n 3, 1) := by decide +kernel
theorem dX2_sumDepth_12 : decode cX2_sumDepth 12 = .ok (.iaload, 1) := by decide +kernel
theorem dX2_sumDepth_13 : decode cX2_sumDepth 13 = .ok (.istore 4, 2) := by decide +kernel
theorem dX2_sumDepth_15 : decode cX2_sumDepth 15 = .ok (.iload 4, 2) := by decide +kernel
theorem dX2_sumDepth_17 : decode cX2_sumDepth 17 = .ok (.aload_n 1, 1) := by decide +kernel
theorem dX2_sumDepth_18 : decode cX2_sumDepth 18 = .ok (.getfield 99, 3) := by decide +kernel
theorem dX2_sumDepth_21 : decode cX2_sumDepth 21 = .ok (.iload_n 3, 1) := by decide +kernel
theorem dX2_sumDepth_22 : decode cX2_sumDepth 22 = .ok (.iconst 1, 1) := by decide +kernel
theorem dX2_sumDepth_23 : decode cX2_sumDepth 23 = .ok (.iadd, 1) := by decide +kernel
theorem dX2_sumDepth_24 : decode cX2_sumDepth 24 = .ok (.iaload, 1) := by decide +kernel
theorem dX2_sumDepth_25 : decode cX2_sumDepth 25 = .ok (.if_icmp .ge 134, 3) := by decide +kernel
theorem dX2_sumDepth_28 : decode cX2_sumDepth 28 = .ok (.aload_n 1, 1) := by decide +kernel
theorem dX2_sumDepth_29 : decode cX2_sumDepth 29 = .ok (.getfield 102, 3) := by decide +kernel
theorem dX2_sumDepth_32 : decode cX2_sumDepth 32 = .ok (.iload 4, 2) := by decide +kernel
theorem dX2_sumDepth_34 : decode cX2_sumDepth 34 = .ok (.iaload, 1) := by decide +kernel
theorem dX2_sumDepth_35 : decode cX2_sumDepth 35 = .ok (.istore 5, 2) := by decide +kernel
theorem dX2_sumDepth_37 : decode cX2_sumDepth 37 = .ok (.iload 5, 2) := by decide +kernel
theorem dX2_sumDepth_39 : decode cX2_sumDepth 39 = .ok (.iconst 4, 1) := by decide +kernel
theorem dX2_sumDepth_40 : decode cX2_sumDepth 40 = .ok (.if_icmp .ne 37, 3) := by decide +kernel
theorem dX2_sumDepth_43 : decode cX2_sumDepth 43 = .ok (.aload_n 0, 1) := by decide +kernel
theorem dX2_sumDepth_44 : decode cX2_sumDepth 44 = .ok (.iload_n 2, 1) := by decide +kernel
theorem dX2_sumDepth_45 : decode cX2_sumDepth 45 = .ok (.aload_n 1, 1) := by decide +kernel
theorem dX2_sumDepth_46 : decode cX2_sumDepth 46 = .ok (.getfield 105, 3) := by decide +kernel
theorem dX2_sumDepth_49 : decode cX2_sumDepth 49 = .ok (.iload 4, 2) := by decide +kernel
theorem dX2_sumDepth_51 : decode cX2_sumDepth 51 = .ok (.iaload, 1) := by decide +kernel
theorem dX2_sumDepth_52 : decode cX2_sumDepth 52 = .ok (.invokevirtual 85, 3) := by decide +kernel
theorem dX2_sumDepth_55 : decode cX2_sumDepth 55 = .ok (.aload_n 0, 1) := by decide +kernel
theorem dX2_sumDepth_56 : decode cX2_sumDepth 56 = .ok (.getfield 39, 3) := by decide +kernel
theorem dX2_sumDepth_59 : decode cX2_sumDepth 59 = .ok (.aload_n 0, 1) := by decide +kernel
theorem dX2_sumDepth_60 : decode cX2_sumDepth 60 = .ok (.getfield 33, 3) := by decide +kernel
theorem dX2_sumDepth_63 : decode cX2_sumDepth 63 = .ok (.aload_n 1, 1) := by decide +kernel
theorem dX2_sumDepth_64 : decode cX2_sumDepth 64 = .ok (.getfield 105, 3) := by decide +kernel
theorem dX2_sumDepth_67 : decode cX2_sumDepth 67 = .ok (.iload 4, 2) := by decide +kernel
theorem dX2_sumDepth_69 : decode cX2_sumDepth 69 = .ok (.iaload, 1) := by decide +kernel
theorem dX2_sumDepth_70 : decode cX2_sumDepth 70 = .ok (.iaload, 1) := by decide +kernel
theorem dX2_sumDepth_71 : decode cX2_sumDepth 71 = .ok (.invokevirtual 108, 3) := by decide +kernel
theorem dX2_sumDepth_74 : decode cX2_sumDepth 74 = .ok (.goto 79, 3) := by decide +kernel
theorem dX2_sumDepth_77 : decode cX2_sumDepth 77 = .ok (.iload 5, 2) := by decide +kernel
theorem dX2_sumDepth_79 : decode cX2_sumDepth 79 = .ok (.iconst 3, 1) := by decide +kernel
theorem dX2_sumDepth_80 : decode cX2_sumDepth 80 = .ok (.if_icmp .ne 14, 3) := by decide +kernel
theorem dX2_sumDepth_83 : decode cX2_sumDepth 83 = .ok (.aload_n 0, 1) := by decide +kernel
theorem dX2_sumDepth_84 : decode cX2_sumDepth 84 = .ok (.getfield 39, 3) := by decide +kernel
theorem dX2_sumDepth_87 : decode cX2_sumDepth 87 = .ok (.iconst 0, 1) := by decide +kernel
theorem dX2_sumDepth_88 : decode cX2_sumDepth 88 = .ok (.invokevirtual 108, 3) := by decide +kernel
theorem dX2_sumDepth_91 : decode cX2_sumDepth 91 = .ok (.goto 62, 3) := by decide +kernel
theorem dX2_sumDepth_94 : decode cX2_sumDepth 94 = .ok (.aload_n 0, 1) := by decide +kernel
theorem dX2_sumDepth_95 : decode cX2_sumDepth 95 = .ok (.iload_n 2, 1) := by decide +kernel
theorem dX2_sumDepth_96 : decode cX2_sumDepth 96 = .ok (.iload 5, 2) := by decide +kernel
theorem dX2_sumDepth_98 : decode cX2_sumDepth 98 = .ok (.invokevirtual 89, 3) := by decide +kernel
theorem dX2_sumDepth_101 : decode cX2_sumDepth 101 = .ok (.iload 5, 2) := by decide +kernel
theorem dX2_sumDepth_103 : decode cX2_sumDepth 103 = .ok (.bipush 126, 2) := by decide +kernel
theorem dX2_sumDepth_105 : decode cX2_sumDepth 105 = .ok (.if_icmp .ne 13, 3) := by decide +kernel
theorem dX2_sumDepth_108 : decode cX2_sumDepth 108 = .ok (.aload_n 0, 1) := by decide +kernel
theorem dX2_sumDepth_109 : decode cX2_sumDepth 109 = .ok (.getfield 39, 3) := by decide +kernel
theorem dX2_sumDepth_112 : decode cX2_sumDepth 112 = .ok (.invokevirtual 111, 3) := by decide +kernel
theorem dX2_sumDepth_115 : decode cX2_sumDepth 115 = .ok (.goto 20, 3) := by decide +kernel
theorem dX2_sumDepth_118 : decode cX2_sumDepth 118 = .ok (.aload_n 0, 1) := by decide +kernel
theorem dX2_sumDepth_119 : decode cX2_sumDepth 119 = .ok (.getfield 39, 3) := by decide +kernel
theorem dX2_sumDepth_122 : decode cX2_sumDepth 122 = .ok (.invokevirtual 111, 3) := by decide +kernel
theorem dX2_sumDepth_125 : decode cX2_sumDepth 125 = .ok (.aload_n 0, 1) := by decide +kernel
theorem dX2_sumDepth_126 : decode cX2_sumDepth 126 = .ok (.getfield 39, 3) := by decide +kernel
theorem dX2_sumDepth_129 : decode cX2_sumDepth 129 = .ok (.invokevirtual 111, 3) := by decide +kernel
theorem dX2_sumDepth_132 : decode cX2_sumDepth 132 = .ok (.invokestatic 69, 3) := by decide +kernel
theorem dX2_sumDepth_135 : decode cX2_sumDepth 135 = .ok (.istore 6, 2) := by decide +kernel
theorem dX2_sumDepth_137 : decode cX2_sumDepth 137 = .ok (.aload_n 0, 1) := by decide +kernel
theorem dX2_sumDepth_138 : decode cX2_sumDepth 138 = .ok (.getfield 39, 3) := by decide +kernel
theorem dX2_sumDepth_141 : decode cX2_sumDepth 141 = .ok (.iload 6, 2) := by decide +kernel
theorem dX2_sumDepth_143 : decode cX2_sumDepth 143 = .ok (.aload_n 0, 1) := by decide +kernel
theorem dX2_sumDepth_144 : decode cX2_sumDepth 144 = .ok (.iload 5, 2) := by decide +kernel
theorem dX2_sumDepth_146 : decode cX2_sumDepth 146 = .ok (.invokevirtual 92, 3) := by decide +kernel
theorem dX2_sumDepth_149 : decode cX2_sumDepth 149 = .ok (.iadd, 1) := by decide +kernel
theorem dX2_sumDepth_150 : decode cX2_sumDepth 150 = .ok (.invokevirtual 108, 3) := by decide +kernel
theorem dX2_sumDepth_153 : decode cX2_sumDepth 153 = .ok (.iinc 4 1, 3) := by decide +kernel
theorem dX2_sumDepth_156 : decode cX2_sumDepth 156 = .ok (.goto (-141), 3) := by decide +kernel
theorem dX2_sumDepth_159 : decode cX2_sumDepth 159 = .ok (.aload_n 0, 1) := by decide +kernel
theorem dX2_sumDepth_160 : decode cX2_sumDepth 160 = .ok (.getfield 39, 3) := by decide +kernel
theorem dX2_sumDepth_163 : decode cX2_sumDepth 163 = .ok (.invokevirtual 111, 3) := by decide +kernel
theorem dX2_sumDepth_166 : decode cX2_sumDepth 166 = .ok (.ireturn, 1) := by decide +kernel
theorem dX2_ask_0 : decode cX2_ask 0 = .ok (.aload_n 0, 1) := by decide +kernel
theorem dX2_ask_1 : decode cX2_ask 1 = .ok (.getfield 27, 3) := by decide +kernel
theorem dX2_ask_4 : decode cX2_ask 4 = .ok (.iload_n 1, 1) := by decide +kernel
theorem dX2_ask_5 : decode cX2_ask 5 = .ok (.dup2, 1) := by decide +kernel
theorem dX2_ask_6 : decode cX2_ask 6 = .ok (.iaload, 1) := by decide +kernel
theorem dX2_ask_7 : decode cX2_ask 7 = .ok (.iconst 1, 1) := by decide +kernel
theorem dX2_ask_8 : decode cX2_ask 8 = .ok (.iload_n 2, 1) := by decide +kernel
theorem dX2_ask_9 : decode cX2_ask 9 = .ok (.ishl, 1) := by decide +kernel
theorem dX2_ask_10 : decode cX2_ask 10 = .ok (.aload_n 0, 1) := by decide +kernel
theorem dX2_ask_11 : decode cX2_ask 11 = .ok (.getfield 47, 3) := by decide +kernel
theorem dX2_ask_14 : decode cX2_ask 14 = .ok (.iconst (-1), 1) := by decide +kernel
theorem dX2_ask_15 : decode cX2_ask 15 = .ok (.ixor, 1) := by decide +kernel
theorem dX2_ask_16 : decode cX2_ask 16 = .ok (.iand, 1) := by decide +kernel
theorem dX2_ask_17 : decode cX2_ask 17 = .ok (.ior, 1) := by decide +kernel
theorem dX2_ask_18 : decode cX2_ask 18 = .ok (.iastore, 1) := by decide +kernel
theorem dX2_ask_19 : decode cX2_ask 19 = .ok (.return_, 1) := by decide +kernel
theorem dX2_takeOp_0 : decode cX2_takeOp 0 = .ok (.aload_n 0, 1) := by decide +kernel
theorem dX2_takeOp_1 : decode cX2_takeOp 1 = .ok (.getfield 9, 3) := by decide +kernel
theorem dX2_takeOp_4 : decode cX2_takeOp 4 = .ok (.iload_n 1, 1) := by decide +kernel
theorem dX2_takeOp_5 : decode cX2_takeOp 5 = .ok (.dup2, 1) := by decide +kernel
theorem dX2_takeOp_6 : decode cX2_takeOp 6 = .ok (.iaload, 1) := by decide +kernel
theorem dX2_takeOp_7 : decode cX2_takeOp 7 = .ok (.iconst 1, 1) := by decide +kernel
theorem dX2_takeOp_8 : decode cX2_takeOp 8 = .ok (.iadd, 1) := by decide +kernel
theorem dX2_takeOp_9 : decode cX2_takeOp 9 = .ok (.iastore, 1) := by decide +kernel
theorem dX2_takeOp_10 : decode cX2_takeOp 10 = .ok (.aload_n 0, 1) := by decide +kernel
theorem dX2_takeOp_11 : decode cX2_takeOp 11 = .ok (.getfield 15, 3) := by decide +kernel
theorem dX2_takeOp_14 : decode cX2_takeOp 14 = .ok (.iload_n 1, 1) := by decide +kernel
theorem dX2_takeOp_15 : decode cX2_takeOp 15 = .ok (.dup2, 1) := by decide +kernel
theorem dX2_takeOp_16 : decode cX2_takeOp 16 = .ok (.iaload, 1) := by decide +kernel
theorem dX2_takeOp_17 : decode cX2_takeOp 17 = .ok (.iload_n 2, 1) := by decide +kernel
theorem dX2_takeOp_18 : decode cX2_takeOp 18 = .ok (.bipush 42, 2) := by decide +kernel
theorem dX2_takeOp_20 : decode cX2_takeOp 20 = .ok (.if_icmp .ne 10, 3) := by decide +kernel
theorem dX2_takeOp_23 : decode cX2_takeOp 23 = .ok (.aload_n 0, 1) := by decide +kernel
theorem dX2_takeOp_24 : decode cX2_takeOp 24 = .ok (.getfield 43, 3) := by decide +kernel
theorem dX2_takeOp_27 : decode cX2_takeOp 27 = .ok (.goto 4, 3) := by decide +kernel
theorem dX2_takeOp_30 : decode cX2_takeOp 30 = .ok (.iconst 1, 1) := by decide +kernel
theorem dX2_takeOp_31 : decode cX2_takeOp 31 = .ok (.iadd, 1) := by decide +kernel
theorem dX2_takeOp_32 : decode cX2_takeOp 32 = .ok (.iastore, 1) := by decide +kernel
theorem dX2_takeOp_33 : decode cX2_takeOp 33 = .ok (.aload_n 0, 1) := by decide +kernel
theorem dX2_takeOp_34 : decode cX2_takeOp 34 = .ok (.getfield 18, 3) := by decide +kernel
theorem dX2_takeOp_37 : decode cX2_takeOp 37 = .ok (.iload_n 1, 1) := by decide +kernel
theorem dX2_takeOp_38 : decode cX2_takeOp 38 = .ok (.dup2, 1) := by decide +kernel
theorem dX2_takeOp_39 : decode cX2_takeOp 39 = .ok (.iaload, 1) := by decide +kernel
theorem dX2_takeOp_40 : decode cX2_takeOp 40 = .ok (.aload_n 0, 1) := by decide +kernel
theorem dX2_takeOp_41 : decode cX2_takeOp 41 = .ok (.iload_n 2, 1) := by decide +kernel
theorem dX2_takeOp_42 : decode cX2_takeOp 42 = .ok (.invokevirtual 115, 3) := by decide +kernel
theorem dX2_takeOp_45 : decode cX2_takeOp 45 = .ok (.iadd, 1) := by decide +kernel
theorem dX2_takeOp_46 : decode cX2_takeOp 46 = .ok (.iastore, 1) := by decide +kernel
theorem dX2_takeOp_47 : decode cX2_takeOp 47 = .ok (.return_, 1) := by decide +kernel
theorem dX2_gatesOfOp_0 : decode cX2_gatesOfOp 0 = .ok (.iload_n 1, 1) := by decide +kernel
theorem dX2_gatesOfOp_1 : decode cX2_gatesOfOp 1 = .ok (.lookupswitch 86 #[(42, 66), (43, 51), (45, 58), (60, 58), (63, 79)], 51) := by decide +kernel
theorem dX2_gatesOfOp_52 : decode cX2_gatesOfOp 52 = .ok (.iconst 5, 1) := by decide +kernel
theorem dX2_gatesOfOp_53 : decode cX2_gatesOfOp 53 = .ok (.aload_n 0, 1) := by decide +kernel
theorem dX2_gatesOfOp_54 : decode cX2_gatesOfOp 54 = .ok (.getfield 43, 3) := by decide +kernel
theorem dX2_gatesOfOp_57 : decode cX2_gatesOfOp 57 = .ok (.imul, 1) := by decide +kernel
theorem dX2_gatesOfOp_58 : decode cX2_gatesOfOp 58 = .ok (.ireturn, 1) := by decide +kernel
theorem dX2_gatesOfOp_59 : decode cX2_gatesOfOp 59 = .ok (.bipush 6, 2) := by decide +kernel
theorem dX2_gatesOfOp_61 : decode cX2_gatesOfOp 61 = .ok (.aload_n 0, 1) := by decide +kernel
theorem dX2_gatesOfOp_62 : decode cX2_gatesOfOp 62 = .ok (.getfield 43, 3) := by decide +kernel
theorem dX2_gatesOfOp_65 : decode cX2_gatesOfOp 65 = .ok (.imul, 1) := by decide +kernel
theorem dX2_gatesOfOp_66 : decode cX2_gatesOfOp 66 = .ok (.ireturn, 1) := by decide +kernel
theorem dX2_gatesOfOp_67 : decode cX2_gatesOfOp 67 = .ok (.bipush 6, 2) := by decide +kernel
theorem dX2_gatesOfOp_69 : decode cX2_gatesOfOp 69 = .ok (.aload_n 0, 1) := by decide +kernel
theorem dX2_gatesOfOp_70 : decode cX2_gatesOfOp 70 = .ok (.getfield 43, 3) := by decide +kernel
theorem dX2_gatesOfOp_73 : decode cX2_gatesOfOp 73 = .ok (.imul, 1) := by decide +kernel
theorem dX2_gatesOfOp_74 : decode cX2_gatesOfOp 74 = .ok (.aload_n 0, 1) := by decide +kernel
theorem dX2_gatesOfOp_75 : decode cX2_gatesOfOp 75 = .ok (.getfield 43, 3) := by decide +kernel
theorem dX2_gatesOfOp_78 : decode cX2_gatesOfOp 78 = .ok (.imul, 1) := by decide +kernel
theorem dX2_gatesOfOp_79 : decode cX2_gatesOfOp 79 = .ok (.ireturn, 1) := by decide +kernel
theorem dX2_gatesOfOp_80 : decode cX2_gatesOfOp 80 = .ok (.iconst 4, 1) := by decide +kernel
theorem dX2_gatesOfOp_81 : decode cX2_gatesOfOp 81 = .ok (.aload_n 0, 1) := by decide +kernel
theorem dX2_gatesOfOp_82 : decode cX2_gatesOfOp 82 = .ok (.getfield 43, 3) := by decide +kernel
theorem dX2_gatesOfOp_85 : decode cX2_gatesOfOp 85 = .ok (.imul, 1) := by decide +kernel
theorem dX2_gatesOfOp_86 : decode cX2_gatesOfOp 86 = .ok (.ireturn, 1) := by decide +kernel
theorem dX2_gatesOfOp_87 : decode cX2_gatesOfOp 87 = .ok (.aload_n 0, 1) := by decide +kernel
theorem dX2_gatesOfOp_88 : decode cX2_gatesOfOp 88 = .ok (.getfield 43, 3) := by decide +kernel
theorem dX2_gatesOfOp_91 : decode cX2_gatesOfOp 91 = .ok (.ireturn, 1) := by decide +kernel
theorem dX2_depthOfOp_0 : decode cX2_depthOfOp 0 = .ok (.iload_n 1, 1) := by decide +kernel
theorem dX2_depthOfOp_1 : decode cX2_depthOfOp 1 = .ok (.lookupswitch 85 #[(42, 67), (43, 51), (45, 58), (60, 74), (63, 83)], 51) := by decide +kernel
theorem dX2_depthOfOp_52 : decode cX2_depthOfOp 52 = .ok (.iconst 2, 1) := by decide +kernel
theorem dX2_depthOfOp_53 : decode cX2_depthOfOp 53 = .ok (.aload_n 0, 1) := by decide +kernel
theorem dX2_depthOfOp_54 : decode cX2_depthOfOp 54 = .ok (.getfield 43, 3) := by decide +kernel
theorem dX2_depthOfOp_57 : decode cX2_depthOfOp 57 = .ok (.imul, 1) := by decide +kernel
theorem dX2_depthOfOp_58 : decode cX2_depthOfOp 58 = .ok (.ireturn, 1) := by decide +kernel
theorem dX2_depthOfOp_59 : decode cX2_depthOfOp 59 = .ok (.iconst 2, 1) := by decide +kernel
theorem dX2_depthOfOp_60 : decode cX2_depthOfOp 60 = .ok (.aload_n 0, 1) := by decide +kernel
theorem dX2_depthOfOp_61 : decode cX2_depthOfOp 61 = .ok (.getfield 43, 3) := by decide +kernel
theorem dX2_depthOfOp_64 : decode cX2_depthOfOp 64 = .ok (.imul, 1) := by decide +kernel
theorem dX2_depthOfOp_65 : decode cX2_depthOfOp 65 = .ok (.iconst 1, 1) := by decide +kernel
theorem dX2_depthOfOp_66 : decode cX2_depthOfOp 66 = .ok (.iadd, 1) := by decide +kernel
theorem dX2_depthOfOp_67 : decode cX2_depthOfOp 67 = .ok (.ireturn, 1) := by decide +kernel
theorem dX2_depthOfOp_68 : decode cX2_depthOfOp 68 = .ok (.iconst 4, 1) := by decide +kernel
theorem dX2_depthOfOp_69 : decode cX2_depthOfOp 69 = .ok (.aload_n 0, 1) := by decide +kernel
theorem dX2_depthOfOp_70 : decode cX2_depthOfOp 70 = .ok (.getfield 43, 3) := by decide +kernel
theorem dX2_depthOfOp_73 : decode cX2_depthOfOp 73 = .ok (.imul, 1) := by decide +kernel
theorem dX2_depthOfOp_74 : decode cX2_depthOfOp 74 = .ok (.ireturn, 1) := by decide +kernel
theorem dX2_depthOfOp_75 : decode cX2_depthOfOp 75 = .ok (.iconst 2, 1) := by decide +kernel
theorem dX2_depthOfOp_76 : decode cX2_depthOfOp 76 = .ok (.aload_n 0, 1) := by decide +kernel
theorem dX2_depthOfOp_77 : decode cX2_depthOfOp 77 = .ok (.getfield 43, 3) := by decide +kernel
theorem dX2_depthOfOp_80 : decode cX2_depthOfOp 80 = .ok (.imul, 1) := by decide +kernel
theorem dX2_depthOfOp_81 : decode cX2_depthOfOp 81 = .ok (.iconst 2, 1) := by decide +kernel
theorem dX2_depthOfOp_82 : decode cX2_depthOfOp 82 = .ok (.iadd, 1) := by decide +kernel
theorem dX2_depthOfOp_83 : decode cX2_depthOfOp 83 = .ok (.ireturn, 1) := by decide +kernel
theorem dX2_depthOfOp_84 : decode cX2_depthOfOp 84 = .ok (.iconst 5, 1) := by decide +kernel
theorem dX2_depthOfOp_85 : decode cX2_depthOfOp 85 = .ok (.ireturn, 1) := by decide +kernel
theorem dX2_depthOfOp_86 : decode cX2_depthOfOp 86 = .ok (.iconst 1, 1) := by decide +kernel
theorem dX2_depthOfOp_87 : decode cX2_depthOfOp 87 = .ok (.ireturn, 1) := by decide +kernel
def fX2_beginBlock_L49 (J68_9 : Rc → Option (Rc)) (n : Nat) (x10 : Int32) (oE_11 : Rc) : Option (Rc) := zLp2 (fun (go12 : Int32 → Rc → Option (Rc)) (x10 : Int32) (oE_11 : Rc) =>
    if (8 : Int32) ≤ x10 then (
      J68_9 oE_11
    ) else (
      zGd (inb x10 8) <|
      zLet (rs oE_11 7 (upd (oE_11 7) x10.toNatClampNeg (0 : Int32))) fun oE_13 =>
      zLet (x10 + 1) fun x14 =>
      go12 x14 oE_13
    )
  ) n x10 oE_11
def fX2_beginBlock (NN : Nat) (oE : Rc) (p1 : Int32) : Option (Rc) :=
  zGd (inb p1 12) <|
  zLet (rs oE 0 (upd (oE 0) p1.toNatClampNeg (0 : Int32))) fun oE_1 =>
  zGd (inb p1 12) <|
  zLet (rs oE_1 1 (upd (oE_1 1) p1.toNatClampNeg (0 : Int32))) fun oE_2 =>
  zGd (inb p1 12) <|
  zLet (rs oE_2 2 (upd (oE_2 2) p1.toNatClampNeg (0 : Int32))) fun oE_3 =>
  zGd (inb p1 12) <|
  zLet (rs oE_3 3 (upd (oE_3 3) p1.toNatClampNeg (0 : Int32))) fun oE_4 =>
  zGd (inb p1 12) <|
  zLet (rs oE_4 5 (upd (oE_4 5) p1.toNatClampNeg (0 : Int32))) fun oE_5 =>
  zGd (inb p1 12) <|
  zLet (rs oE_5 6 (upd (oE_5 6) p1.toNatClampNeg (0 : Int32))) fun oE_6 =>
  zLet (rs oE_6 10 (fun _ => (0 : Int32))) fun oE_7 =>
  zJn (fun (oE_8 : Rc) =>
      some oE_8
    ) fun J68_9 =>
  fX2_beginBlock_L49 J68_9 NN (0 : Int32) oE_7
abbrev rX2_beginBlock : Room := { frames := 0, cells := 0, slots := 0, locals := 0 }
set_option maxHeartbeats 4000000 in
set_option maxRecDepth 100000 in
theorem mtX2_beginBlock (l : Launch) (dC : Nat → ClassId) (dI : Nat → Nat → Nat) (cI cB : ClassId) (aE aQ : Nat → Nat) (sz : Nat) (NN : Nat) (oE : Rc) (p1 : Int32) {oE' : Rc} (hf : fX2_beginBlock NN oE p1 = some oE') : zMv l yX2_beginBlock (Cond.code yX2_beginBlock cX2_beginBlock 3 none :: lw_g) rX2_beginBlock (dC, dI) [(cI, .int), (cB, .byte)] [.ref (aE 0), .int p1] sz (kX2 cI cB aE (aQ 0) oE) (kX2 cI cB aE (aQ 0) oE') := by
  refine zSt (cc := cX2_beginBlock) (maxL := 3) (ret := none) (own := RX2) (fun A => zQv (dC, dI) [(cI, .int), (cB, .byte)] A (kX2 cI cB aE (aQ 0) oE')) (by decide) rfl rfl (Nat.le_of_ble_eq_true rfl) ?_
  intro p e s m below meth c ls A H locs C hK hA hP hD hS hl
  generalize hQ : MQ below (zQv (dC, dI) [(cI, .int), (cB, .byte)] A (kX2 cI cB aE (aQ 0) oE')) _ s 0 0 A = QQ
  generalize ([.ref (aE 0), .int p1] : List Value).toArray = args at C hQ ⊢
  have hl : lv_has ls 3 [(0, .ref (aE 0)), (1, .int p1)] := hl
  unfold fX2_beginBlock at hf
  refine lv_aload_n C.1.1 C.1.2.1 dX2_beginBlock_0 rfl (lv_at hl 0 rfl) ?_
  refine zGet (.ref (aE 1)) C.1 wuX2 hK hP 0 rfl rfl 0 (by decide) wfX2_9 rfl rfl dX2_beginBlock_1 ?_
  refine lv_iload_n C.1.1 C.1.2.1 dX2_beginBlock_4 rfl (lv_at hl 1 rfl) ?_
  refine lv_iconst (v := 0) C.1.1 C.1.2.1 dX2_beginBlock_5 (by decide) ?_
  obtain ⟨hib, hf⟩ := zGd_el hf
  obtain ⟨oE_1, eoE_1, hf⟩ := zLet_el hf
  refine zIast (kX2 cI cB aE (aQ 0) oE_1) C.1 hK hP hD hS 1 0 rfl rfl hib dX2_beginBlock_6 (by rw [eoE_1]; rfl) (fun H locs hP hD hS => ?_)
  refine lv_aload_n C.1.1 C.1.2.1 dX2_beginBlock_7 rfl (lv_at hl 0 rfl) ?_
  refine zGet (.ref (aE 2)) C.1 wuX2 hK hP 0 rfl rfl 1 (by decide) wfX2_15 rfl rfl dX2_beginBlock_8 ?_
  refine lv_iload_n C.1.1 C.1.2.1 dX2_beginBlock_11 rfl (lv_at hl 1 rfl) ?_
  refine lv_iconst (v := 0) C.1.1 C.1.2.1 dX2_beginBlock_12 (by decide) ?_
  obtain ⟨hib, hf⟩ := zGd_el hf
  obtain ⟨oE_2, eoE_2, hf⟩ := zLet_el hf
  refine zIast (kX2 cI cB aE (aQ 0) oE_2) C.1 hK hP hD hS 2 0 rfl rfl hib dX2_beginBlock_13 (by rw [eoE_2]; rfl) (fun H locs hP hD hS => ?_)
  refine lv_aload_n C.1.1 C.1.2.1 dX2_beginBlock_14 rfl (lv_at hl 0 rfl) ?_
  refine zGet (.ref (aE 3)) C.1 wuX2 hK hP 0 rfl rfl 2 (by decide) wfX2_18 rfl rfl dX2_beginBlock_15 ?_
  refine lv_iload_n C.1.1 C.1.2.1 dX2_beginBlock_18 rfl (lv_at hl 1 rfl) ?_
  refine lv_iconst (v := 0) C.1.1 C.1.2.1 dX2_beginBlock_19 (by decide) ?_
  obtain ⟨hib, hf⟩ := zGd_el hf
  obtain ⟨oE_3, eoE_3, hf⟩ := zLet_el hf
  refine zIast (kX2 cI cB aE (aQ 0) oE_3) C.1 hK hP hD hS 3 0 rfl rfl hib dX2_beginBlock_20 (by rw [eoE_3]; rfl) (fun H locs hP hD hS => ?_)
  refine lv_aload_n C.1.1 C.1.2.1 dX2_beginBlock_21 rfl (lv_at hl 0 rfl) ?_
  refine zGet (.ref (aE 4)) C.1 wuX2 hK hP 0 rfl rfl 3 (by decide) wfX2_21 rfl rfl dX2_beginBlock_22 ?_
  refine lv_iload_n C.1.1 C.1.2.1 dX2_beginBlock_25 rfl (lv_at hl 1 rfl) ?_
  refine lv_iconst (v := 0) C.1.1 C.1.2.1 dX2_beginBlock_26 (by decide) ?_
  obtain ⟨hib, hf⟩ := zGd_el hf
  obtain ⟨oE_4, eoE_4, hf⟩ := zLet_el hf
  refine zIast (kX2 cI cB aE (aQ 0) oE_4) C.1 hK hP hD hS 4 0 rfl rfl hib dX2_beginBlock_27 (by rw [eoE_4]; rfl) (fun H locs hP hD hS => ?_)
  refine lv_aload_n C.1.1 C.1.2.1 dX2_beginBlock_28 rfl (lv_at hl 0 rfl) ?_
  refine zGet (.ref (aE 6)) C.1 wuX2 hK hP 0 rfl rfl 5 (by decide) wfX2_27 rfl rfl dX2_beginBlock_29 ?_
  refine lv_iload_n C.1.1 C.1.2.1 dX2_beginBlock_32 rfl (lv_at hl 1 rfl) ?_
  refine lv_iconst (v := 0) C.1.1 C.1.2.1 dX2_beginBlock_33 (by decide) ?_
  obtain ⟨hib, hf⟩ := zGd_el hf
  obtain ⟨oE_5, eoE_5, hf⟩ := zLet_el hf
  refine zIast (kX2 cI cB aE (aQ 0) oE_5) C.1 hK hP hD hS 6 0 rfl rfl hib dX2_beginBlock_34 (by rw [eoE_5]; rfl) (fun H locs hP hD hS => ?_)
  refine lv_aload_n C.1.1 C.1.2.1 dX2_beginBlock_35 rfl (lv_at hl 0 rfl) ?_
  refine zGet (.ref (aE 7)) C.1 wuX2 hK hP 0 rfl rfl 6 (by decide) wfX2_30 rfl rfl dX2_beginBlock_36 ?_
  refine lv_iload_n C.1.1 C.1.2.1 dX2_beginBlock_39 rfl (lv_at hl 1 rfl) ?_
  refine lv_iconst (v := 0) C.1.1 C.1.2.1 dX2_beginBlock_40 (by decide) ?_
  obtain ⟨hib, hf⟩ := zGd_el hf
  obtain ⟨oE_6, eoE_6, hf⟩ := zLet_el hf
  refine zIast (kX2 cI cB aE (aQ 0) oE_6) C.1 hK hP hD hS 7 0 rfl rfl hib dX2_beginBlock_41 (by rw [eoE_6]; rfl) (fun H locs hP hD hS => ?_)
  refine lv_aload_n C.1.1 C.1.2.1 dX2_beginBlock_42 rfl (lv_at hl 0 rfl) ?_
  refine lv_iconst (v := 0) C.1.1 C.1.2.1 dX2_beginBlock_43 (by decide) ?_
  obtain ⟨oE_7, eoE_7, hf⟩ := zLet_el hf
  refine zPut (ty := .int) (kX2 cI cB aE (aQ 0) oE_7) C.1 wuX2 tyX2 tyX2_ok nmX2 hK hP hD hS 0 rfl rfl 10 (by decide) wfX2_47 rfl rfl (by decide +kernel) rfl rfl (Nat.le_of_ble_eq_true rfl) dX2_beginBlock_44 (by rw [eoE_7]; rfl) (fun H locs hP hD hS => ?_)
  refine lv_iconst (v := 0) C.1.1 C.1.2.1 dX2_beginBlock_47 (by decide) ?_
  refine lv_istore_n (lv' := [(2, .int (0 : Int32)), (0, .ref (aE 0)), (1, .int p1)]) C.1.1 C.1.2.1 dX2_beginBlock_48 rfl hl (by decide) rfl (fun ls hl => ?_)
  obtain ⟨J68_9, eJ68_9, hf⟩ := zJn_el hf
  have hJ68_9 : ∀ (oE_8 : Rc), J68_9 oE_8 = some oE' → ∀ (H : Heap) (locs : List Loc), va_P (dC, dI) vwCl (kX2 cI cB aE (aQ 0) oE_8) H → va_D A (kX2 cI cB aE (aQ 0) oE_8) → va_S A s.heap H locs → ∀ (ls : Array Slot), lv_has ls 3 [] → W p l e rX2_beginBlock s m args below meth c H locs 0 0 QQ (F0 m 68 ls []) := by
    intro oE_8 hf H locs hP hD hS ls hl
    rw [eJ68_9] at hf
    cases hf
    rw [← hQ]
    exact zRv C hK hP hD hS dX2_beginBlock_68
  refine zLp2_ind (o := oE') (P := fun (x10 : Int32) (oE_11 : Rc) => ∀ (H : Heap) (locs : List Loc), va_P (dC, dI) vwCl (kX2 cI cB aE (aQ 0) oE_11) H → va_D A (kX2 cI cB aE (aQ 0) oE_11) → va_S A s.heap H locs → ∀ (ls : Array Slot), lv_has ls 3 [(0, .ref (aE 0)), (2, .int x10)] → W p l e rX2_beginBlock s m args below meth c H locs 0 0 QQ (F0 m 49 ls [])) (fun go12 ihgo12 x10 oE_11 hf H locs hP hD hS ls hl => ?_) _ (0 : Int32) oE_7 hf H locs hP hD hS ls (lv_sub hl [1, 0] rfl)
  refine lv_iload_n C.1.1 C.1.2.1 dX2_beginBlock_49 rfl (lv_at hl 1 rfl) ?_
  refine lv_bipush (v := 8) C.1.1 C.1.2.1 dX2_beginBlock_50 (by decide) ?_
  refine lv_icmp_ge (tgt := 68) C.1.1 C.1.2.1 dX2_beginBlock_52 (by decide) (fun hc => ?_) (fun hc => ?_)
  · replace hf := zIf_t hf hc
    exact hJ68_9 oE_11 hf H locs hP hD hS ls (lv_sub hl [] rfl)
  · replace hf := zIf_f hf hc
    refine lv_aload_n C.1.1 C.1.2.1 dX2_beginBlock_55 rfl (lv_at hl 0 rfl) ?_
    refine zGet (.ref (aE 8)) C.1 wuX2 hK hP 0 rfl rfl 7 (by decide) wfX2_33 rfl rfl dX2_beginBlock_56 ?_
    refine lv_iload_n C.1.1 C.1.2.1 dX2_beginBlock_59 rfl (lv_at hl 1 rfl) ?_
    refine lv_iconst (v := 0) C.1.1 C.1.2.1 dX2_beginBlock_60 (by decide) ?_
    obtain ⟨hib, hf⟩ := zGd_el hf
    obtain ⟨oE_13, eoE_13, hf⟩ := zLet_el hf
    refine zIast (kX2 cI cB aE (aQ 0) oE_13) C.1 hK hP hD hS 8 0 rfl rfl hib dX2_beginBlock_61 (by rw [eoE_13]; rfl) (fun H locs hP hD hS => ?_)
    obtain ⟨x14, ex14, hf⟩ := zLet_el hf
    refine lv_iinc (v := x14) (lv' := [(2, .int x14), (0, .ref (aE 0))]) C.1.1 C.1.2.1 dX2_beginBlock_62 hl (k := 1) rfl (by rw [ex14]; rfl) (by decide) rfl (fun ls hl => ?_)
    refine lv_goto (tgt := 49) C.1.1 C.1.2.1 dX2_beginBlock_65 (by decide) ?_
    exact ihgo12 x14 oE_13 hf H locs hP hD hS ls (lv_sub hl [1, 0] rfl)
def fX2_ask (oE : Rc) (p1 : Int32) (p2 : Int32) : Option (Rc) :=
  zGd (inb p1 12) <|
  zGd (inb p1 12) <|
  zLet (rs oE 5 (upd (oE 5) p1.toNatClampNeg ((oE 5 p1.toNatClampNeg) ||| (((1 : Int32) <<< (p2 &&& 31)) &&& ((oE 10 0) ^^^ (-1 : Int32)))))) fun oE_1 =>
  some oE_1
abbrev rX2_ask : Room := { frames := 0, cells := 0, slots := 0, locals := 0 }
set_option maxHeartbeats 4000000 in
set_option maxRecDepth 100000 in
theorem mtX2_ask (l : Launch) (dC : Nat → ClassId) (dI : Nat → Nat → Nat) (cI cB : ClassId) (aE aQ : Nat → Nat) (sz : Nat) (oE : Rc) (p1 : Int32) (p2 : Int32) {oE' : Rc} (hf : fX2_ask oE p1 p2 = some oE') : zMv l yX2_ask (Cond.code yX2_ask cX2_ask 3 none :: lw_g) rX2_ask (dC, dI) [(cI, .int), (cB, .byte)] [.ref (aE 0), .int p1, .int p2] sz (kX2 cI cB aE (aQ 0) oE) (kX2 cI cB aE (aQ 0) oE') := by
  refine zSt (cc := cX2_ask) (maxL := 3) (ret := none) (own := RX2) (fun A => zQv (dC, dI) [(cI, .int), (cB, .byte)] A (kX2 cI cB aE (aQ 0) oE')) (by decide) rfl rfl (Nat.le_of_ble_eq_true rfl) ?_
  intro p e s m below meth c ls A H locs C hK hA hP hD hS hl
  generalize hQ : MQ below (zQv (dC, dI) [(cI, .int), (cB, .byte)] A (kX2 cI cB aE (aQ 0) oE')) _ s 0 0 A = QQ
  generalize ([.ref (aE 0), .int p1, .int p2] : List Value).toArray = args at C hQ ⊢
  have hl : lv_has ls 3 [(0, .ref (aE 0)), (1, .int p1), (2, .int p2)] := hl
  unfold fX2_ask at hf
  refine lv_aload_n C.1.1 C.1.2.1 dX2_ask_0 rfl (lv_at hl 0 rfl) ?_
  refine zGet (.ref (aE 6)) C.1 wuX2 hK hP 0 rfl rfl 5 (by decide) wfX2_27 rfl rfl dX2_ask_1 ?_
  refine lv_iload_n C.1.1 C.1.2.1 dX2_ask_4 rfl (lv_at hl 1 rfl) ?_
  refine lv_dup2_11 C.1.1 C.1.2.1 dX2_ask_5 rfl rfl ?_
  obtain ⟨hib, hf⟩ := zGd_el hf
  refine va_iald C.1.1 C.1.2.1 hK.1 hP 6 0 rfl rfl hib dX2_ask_6 ?_
  refine lv_iconst (v := 1) C.1.1 C.1.2.1 dX2_ask_7 (by decide) ?_
  refine lv_iload_n C.1.1 C.1.2.1 dX2_ask_8 rfl (lv_at hl 2 rfl) ?_
  refine lv_ishl C.1.1 C.1.2.1 dX2_ask_9 ?_
  refine lv_aload_n C.1.1 C.1.2.1 dX2_ask_10 rfl (lv_at hl 0 rfl) ?_
  refine zGet (.int (oE 10 0)) C.1 wuX2 hK hP 0 rfl rfl 10 (by decide) wfX2_47 rfl rfl dX2_ask_11 ?_
  refine lv_iconst (v := (-1)) C.1.1 C.1.2.1 dX2_ask_14 (by decide) ?_
  refine lv_ixor C.1.1 C.1.2.1 dX2_ask_15 ?_
  refine lv_iand C.1.1 C.1.2.1 dX2_ask_16 ?_
  refine lv_ior C.1.1 C.1.2.1 dX2_ask_17 ?_
  obtain ⟨hib, hf⟩ := zGd_el hf
  obtain ⟨oE_1, eoE_1, hf⟩ := zLet_el hf
  refine zIast (kX2 cI cB aE (aQ 0) oE_1) C.1 hK hP hD hS 6 0 rfl rfl hib dX2_ask_18 (by rw [eoE_1]; rfl) (fun H locs hP hD hS => ?_)
  cases hf
  rw [← hQ]
  exact zRv C hK hP hD hS dX2_ask_19
def fX2_gatesOfOp (oE : Rc) (p1 : Int32) : Option (Int32) :=
  if p1 = 42 then (
    some (((6 : Int32) * (oE 9 0)) * (oE 9 0))
  ) else (
    if p1 = 43 then (
      some ((5 : Int32) * (oE 9 0))
    ) else (
      if p1 = 45 then (
        some ((6 : Int32) * (oE 9 0))
      ) else (
        if p1 = 60 then (
          some ((6 : Int32) * (oE 9 0))
        ) else (
          if p1 = 63 then (
            some ((4 : Int32) * (oE 9 0))
          ) else (
            some (oE 9 0)
          )
        )
      )
    )
  )
abbrev rX2_gatesOfOp : Room := { frames := 0, cells := 0, slots := 0, locals := 0 }
set_option maxHeartbeats 4000000 in
set_option maxRecDepth 100000 in
theorem mtX2_gatesOfOp (l : Launch) (dC : Nat → ClassId) (dI : Nat → Nat → Nat) (cI cB : ClassId) (aE aQ : Nat → Nat) (sz : Nat) (oE : Rc) (p1 : Int32) {ov : Int32} (hf : fX2_gatesOfOp oE p1 = some ov) : zMi l yX2_gatesOfOp (Cond.code yX2_gatesOfOp cX2_gatesOfOp 2 (some .int) :: lw_g) rX2_gatesOfOp (dC, dI) [(cI, .int), (cB, .byte)] [.ref (aE 0), .int p1] sz (kX2 cI cB aE (aQ 0) oE) ov (kX2 cI cB aE (aQ 0) oE) := by
  refine zSt (cc := cX2_gatesOfOp) (maxL := 2) (ret := (some .int)) (own := RX2) (fun A => zQi (dC, dI) [(cI, .int), (cB, .byte)] A ov (kX2 cI cB aE (aQ 0) oE)) (by decide) rfl rfl (Nat.le_of_ble_eq_true rfl) ?_
  intro p e s m below meth c ls A H locs C hK hA hP hD hS hl
  generalize hQ : MQ below (zQi (dC, dI) [(cI, .int), (cB, .byte)] A ov (kX2 cI cB aE (aQ 0) oE)) _ s 0 0 A = QQ
  generalize ([.ref (aE 0), .int p1] : List Value).toArray = args at C hQ ⊢
  have hl : lv_has ls 2 [(0, .ref (aE 0)), (1, .int p1)] := hl
  unfold fX2_gatesOfOp at hf
  refine lv_iload_n C.1.1 C.1.2.1 dX2_gatesOfOp_0 rfl (lv_at hl 1 rfl) ?_
  rcases Classical.em (p1 = 42) with hk1 | hk1
  · replace hf := zIf_t hf hk1
    refine lv_lookup (off := 66) (tgt := 67) C.1.1 C.1.2.1 dX2_gatesOfOp_1 (by decide +kernel) (by rw [hk1] <;> decide +kernel) (by decide) ?_
    refine lv_bipush (v := 6) C.1.1 C.1.2.1 dX2_gatesOfOp_67 (by decide) ?_
    refine lv_aload_n C.1.1 C.1.2.1 dX2_gatesOfOp_69 rfl (lv_at hl 0 rfl) ?_
    refine zGet (.int (oE 9 0)) C.1 wuX2 hK hP 0 rfl rfl 9 (by decide) wfX2_43 rfl rfl dX2_gatesOfOp_70 ?_
    refine lv_imul C.1.1 C.1.2.1 dX2_gatesOfOp_73 ?_
    refine lv_aload_n C.1.1 C.1.2.1 dX2_gatesOfOp_74 rfl (lv_at hl 0 rfl) ?_
    refine zGet (.int (oE 9 0)) C.1 wuX2 hK hP 0 rfl rfl 9 (by decide) wfX2_43 rfl rfl dX2_gatesOfOp_75 ?_
    refine lv_imul C.1.1 C.1.2.1 dX2_gatesOfOp_78 ?_
    cases hf
    rw [← hQ]
    exact zRi C hK hP hD hS dX2_gatesOfOp_79
  · replace hf := zIf_f hf hk1
    rcases Classical.em (p1 = 43) with hk2 | hk2
    · replace hf := zIf_t hf hk2
      refine lv_lookup (off := 51) (tgt := 52) C.1.1 C.1.2.1 dX2_gatesOfOp_1 (by decide +kernel) (by rw [hk2] <;> decide +kernel) (by decide) ?_
      refine lv_iconst (v := 5) C.1.1 C.1.2.1 dX2_gatesOfOp_52 (by decide) ?_
      refine lv_aload_n C.1.1 C.1.2.1 dX2_gatesOfOp_53 rfl (lv_at hl 0 rfl) ?_
      refine zGet (.int (oE 9 0)) C.1 wuX2 hK hP 0 rfl rfl 9 (by decide) wfX2_43 rfl rfl dX2_gatesOfOp_54 ?_
      refine lv_imul C.1.1 C.1.2.1 dX2_gatesOfOp_57 ?_
      cases hf
      rw [← hQ]
      exact zRi C hK hP hD hS dX2_gatesOfOp_58
    · replace hf := zIf_f hf hk2
      rcases Classical.em (p1 = 45) with hk3 | hk3
      · replace hf := zIf_t hf hk3
        refine lv_lookup (off := 58) (tgt := 59) C.1.1 C.1.2.1 dX2_gatesOfOp_1 (by decide +kernel) (by rw [hk3] <;> decide +kernel) (by decide) ?_
        refine lv_bipush (v := 6) C.1.1 C.1.2.1 dX2_gatesOfOp_59 (by decide) ?_
        refine lv_aload_n C.1.1 C.1.2.1 dX2_gatesOfOp_61 rfl (lv_at hl 0 rfl) ?_
        refine zGet (.int (oE 9 0)) C.1 wuX2 hK hP 0 rfl rfl 9 (by decide) wfX2_43 rfl rfl dX2_gatesOfOp_62 ?_
        refine lv_imul C.1.1 C.1.2.1 dX2_gatesOfOp_65 ?_
        cases hf
        rw [← hQ]
        exact zRi C hK hP hD hS dX2_gatesOfOp_66
      · replace hf := zIf_f hf hk3
        rcases Classical.em (p1 = 60) with hk4 | hk4
        · replace hf := zIf_t hf hk4
          refine lv_lookup (off := 58) (tgt := 59) C.1.1 C.1.2.1 dX2_gatesOfOp_1 (by decide +kernel) (by rw [hk4] <;> decide +kernel) (by decide) ?_
          refine lv_bipush (v := 6) C.1.1 C.1.2.1 dX2_gatesOfOp_59 (by decide) ?_
          refine lv_aload_n C.1.1 C.1.2.1 dX2_gatesOfOp_61 rfl (lv_at hl 0 rfl) ?_
          refine zGet (.int (oE 9 0)) C.1 wuX2 hK hP 0 rfl rfl 9 (by decide) wfX2_43 rfl rfl dX2_gatesOfOp_62 ?_
          refine lv_imul C.1.1 C.1.2.1 dX2_gatesOfOp_65 ?_
          cases hf
          rw [← hQ]
          exact zRi C hK hP hD hS dX2_gatesOfOp_66
        · replace hf := zIf_f hf hk4
          rcases Classical.em (p1 = 63) with hk5 | hk5
          · replace hf := zIf_t hf hk5
            refine lv_lookup (off := 79) (tgt := 80) C.1.1 C.1.2.1 dX2_gatesOfOp_1 (by decide +kernel) (by rw [hk5] <;> decide +kernel) (by decide) ?_
            refine lv_iconst (v := 4) C.1.1 C.1.2.1 dX2_gatesOfOp_80 (by decide) ?_
            refine lv_aload_n C.1.1 C.1.2.1 dX2_gatesOfOp_81 rfl (lv_at hl 0 rfl) ?_
            refine zGet (.int (oE 9 0)) C.1 wuX2 hK hP 0 rfl rfl 9 (by decide) wfX2_43 rfl rfl dX2_gatesOfOp_82 ?_
            refine lv_imul C.1.1 C.1.2.1 dX2_gatesOfOp_85 ?_
            cases hf
            rw [← hQ]
            exact zRi C hK hP hD hS dX2_gatesOfOp_86
          · replace hf := zIf_f hf hk5
            refine lv_lookup (off := 86) (tgt := 87) C.1.1 C.1.2.1 dX2_gatesOfOp_1 (by decide +kernel) (by simp only [List.toList_toArray]; rw [lv_osw hk1 (by decide), lv_osw hk2 (by decide), lv_osw hk3 (by decide), lv_osw hk4 (by decide), lv_osw hk5 (by decide)] <;> rfl) (by decide) ?_
            refine lv_aload_n C.1.1 C.1.2.1 dX2_gatesOfOp_87 rfl (lv_at hl 0 rfl) ?_
            refine zGet (.int (oE 9 0)) C.1 wuX2 hK hP 0 rfl rfl 9 (by decide) wfX2_43 rfl rfl dX2_gatesOfOp_88 ?_
            cases hf
            rw [← hQ]
            exact zRi C hK hP hD hS dX2_gatesOfOp_91
def fX2_takeOp (oE : Rc) (p1 : Int32) (p2 : Int32) : Option (Rc) :=
  zGd (inb p1 12) <|
  zGd (inb p1 12) <|
  zLet (rs oE 0 (upd (oE 0) p1.toNatClampNeg ((oE 0 p1.toNatClampNeg) + (1 : Int32)))) fun oE_1 =>
  zGd (inb p1 12) <|
  zJn (fun (t2 : Int32) =>
      zGd (inb p1 12) <|
      zLet (rs oE_1 1 (upd (oE_1 1) p1.toNatClampNeg ((oE_1 1 p1.toNatClampNeg) + t2))) fun oE_4 =>
      zGd (inb p1 12) <|
      zB1 (fX2_gatesOfOp oE_4 p2) fun v5 =>
      zGd (inb p1 12) <|
      zLet (rs oE_4 2 (upd (oE_4 2) p1.toNatClampNeg ((oE_4 2 p1.toNatClampNeg) + v5))) fun oE_6 =>
      some oE_6
    ) fun J31_3 =>
  if p2 = (42 : Int32) then (
    J31_3 (oE_1 9 0)
  ) else (
    J31_3 (1 : Int32)
  )
abbrev rX2_takeOp : Room := { frames := 1, cells := 0, slots := 0, locals := 21 }
set_option maxHeartbeats 4000000 in
set_option maxRecDepth 100000 in
theorem mtX2_takeOp (l : Launch) (dC : Nat → ClassId) (dI : Nat → Nat → Nat) (cI cB : ClassId) (aE aQ : Nat → Nat) (sz : Nat) (oE : Rc) (p1 : Int32) (p2 : Int32) {oE' : Rc} (hf : fX2_takeOp oE p1 p2 = some oE') : zMv l yX2_takeOp (Cond.code yX2_takeOp cX2_takeOp 3 none :: lw_g) rX2_takeOp (dC, dI) [(cI, .int), (cB, .byte)] [.ref (aE 0), .int p1, .int p2] sz (kX2 cI cB aE (aQ 0) oE) (kX2 cI cB aE (aQ 0) oE') := by
  refine zSt (cc := cX2_takeOp) (maxL := 3) (ret := none) (own := RX2) (fun A => zQv (dC, dI) [(cI, .int), (cB, .byte)] A (kX2 cI cB aE (aQ 0) oE')) (by decide) rfl rfl (Nat.le_of_ble_eq_true rfl) ?_
  intro p e s m below meth c ls A H locs C hK hA hP hD hS hl
  generalize hQ : MQ below (zQv (dC, dI) [(cI, .int), (cB, .byte)] A (kX2 cI cB aE (aQ 0) oE')) _ s 0 0 A = QQ
  generalize ([.ref (aE 0), .int p1, .int p2] : List Value).toArray = args at C hQ ⊢
  have hl : lv_has ls 3 [(0, .ref (aE 0)), (1, .int p1), (2, .int p2)] := hl
  unfold fX2_takeOp at hf
  refine lv_aload_n C.1.1 C.1.2.1 dX2_takeOp_0 rfl (lv_at hl 0 rfl) ?_
  refine zGet (.ref (aE 1)) C.1 wuX2 hK hP 0 rfl rfl 0 (by decide) wfX2_9 rfl rfl dX2_takeOp_1 ?_
  refine lv_iload_n C.1.1 C.1.2.1 dX2_takeOp_4 rfl (lv_at hl 1 rfl) ?_
  refine lv_dup2_11 C.1.1 C.1.2.1 dX2_takeOp_5 rfl rfl ?_
  obtain ⟨hib, hf⟩ := zGd_el hf
  refine va_iald C.1.1 C.1.2.1 hK.1 hP 1 0 rfl rfl hib dX2_takeOp_6 ?_
  refine lv_iconst (v := 1) C.1.1 C.1.2.1 dX2_takeOp_7 (by decide) ?_
  refine lv_iadd C.1.1 C.1.2.1 dX2_takeOp_8 ?_
  obtain ⟨hib, hf⟩ := zGd_el hf
  obtain ⟨oE_1, eoE_1, hf⟩ := zLet_el hf
  refine zIast (kX2 cI cB aE (aQ 0) oE_1) C.1 hK hP hD hS 1 0 rfl rfl hib dX2_takeOp_9 (by rw [eoE_1]; rfl) (fun H locs hP hD hS => ?_)
  refine lv_aload_n C.1.1 C.1.2.1 dX2_takeOp_10 rfl (lv_at hl 0 rfl) ?_
  refine zGet (.ref (aE 2)) C.1 wuX2 hK hP 0 rfl rfl 1 (by decide) wfX2_15 rfl rfl dX2_takeOp_11 ?_
  refine lv_iload_n C.1.1 C.1.2.1 dX2_takeOp_14 rfl (lv_at hl 1 rfl) ?_
  refine lv_dup2_11 C.1.1 C.1.2.1 dX2_takeOp_15 rfl rfl ?_
  obtain ⟨hib, hf⟩ := zGd_el hf
  refine va_iald C.1.1 C.1.2.1 hK.1 hP 2 0 rfl rfl hib dX2_takeOp_16 ?_
  refine lv_iload_n C.1.1 C.1.2.1 dX2_takeOp_17 rfl (lv_at hl 2 rfl) ?_
  refine lv_bipush (v := 42) C.1.1 C.1.2.1 dX2_takeOp_18 (by decide) ?_
  obtain ⟨J31_3, eJ31_3, hf⟩ := zJn_el hf
  have hJ31_3 : ∀ (t2 : Int32), J31_3 t2 = some oE' → ∀ (H : Heap) (locs : List Loc), va_P (dC, dI) vwCl (kX2 cI cB aE (aQ 0) oE_1) H → va_D A (kX2 cI cB aE (aQ 0) oE_1) → va_S A s.heap H locs → ∀ (ls : Array Slot), lv_has ls 3 [(0, .ref (aE 0)), (1, .int p1), (2, .int p2)] → W p l e rX2_takeOp s m args below meth c H locs 0 0 QQ (F0 m 31 ls [.int t2, .int (oE_1 1 p1.toNatClampNeg), .int p1, .ref (aE 2)]) := by
    intro t2 hf H locs hP hD hS ls hl
    rw [eJ31_3] at hf
    refine lv_iadd C.1.1 C.1.2.1 dX2_takeOp_31 ?_
    obtain ⟨hib, hf⟩ := zGd_el hf
    obtain ⟨oE_4, eoE_4, hf⟩ := zLet_el hf
    refine zIast (kX2 cI cB aE (aQ 0) oE_4) C.1 hK hP hD hS 2 0 rfl rfl hib dX2_takeOp_32 (by rw [eoE_4]; rfl) (fun H locs hP hD hS => ?_)
    refine lv_aload_n C.1.1 C.1.2.1 dX2_takeOp_33 rfl (lv_at hl 0 rfl) ?_
    refine zGet (.ref (aE 3)) C.1 wuX2 hK hP 0 rfl rfl 2 (by decide) wfX2_18 rfl rfl dX2_takeOp_34 ?_
    refine lv_iload_n C.1.1 C.1.2.1 dX2_takeOp_37 rfl (lv_at hl 1 rfl) ?_
    refine lv_dup2_11 C.1.1 C.1.2.1 dX2_takeOp_38 rfl rfl ?_
    obtain ⟨hib, hf⟩ := zGd_el hf
    refine va_iald C.1.1 C.1.2.1 hK.1 hP 3 0 rfl rfl hib dX2_takeOp_39 ?_
    refine lv_aload_n C.1.1 C.1.2.1 dX2_takeOp_40 rfl (lv_at hl 0 rfl) ?_
    refine lv_iload_n C.1.1 C.1.2.1 dX2_takeOp_41 rfl (lv_at hl 2 rfl) ?_
    obtain ⟨v5, hg, hf⟩ := zB1_el hf
    refine zCVi (As := [.int p2]) (rest := [.int (oE_4 2 p1.toNatClampNeg), .int p1, .ref (aE 3)]) (wr := ([] : va_W)) (wn := (kX2 cI cB aE (aQ 0) oE_4)) C.1 hK hA hP hD hS [0, 1, 2, 3, 4, 5, 6, 7, 8] [] [0, 1, 2, 3, 4, 5, 6, 7, 8] 0 (mtX2_gatesOfOp l dC dI cI cB aE aQ H.size oE_4 p2 hg) (zCwV 1 C.1 wlX2_115 wiX2_gatesOfOp ws_X2_gatesOfOp wnX2 wkX2_gatesOfOp rfl rfl (by decide +kernel) ⟨Nat.le_of_ble_eq_true rfl, Nat.le_of_ble_eq_true rfl⟩) rfl rfl (by decide +kernel) rfl rfl rfl rfl hl.1 (Nat.le_of_ble_eq_true rfl) dX2_takeOp_42 ⟨Nat.zero_le _, Nat.zero_le _⟩ rfl (fun H locs hP hD hS => ?_)
    refine lv_iadd C.1.1 C.1.2.1 dX2_takeOp_45 ?_
    obtain ⟨hib, hf⟩ := zGd_el hf
    obtain ⟨oE_6, eoE_6, hf⟩ := zLet_el hf
    refine zIast (kX2 cI cB aE (aQ 0) oE_6) C.1 hK hP hD hS 3 0 rfl rfl hib dX2_takeOp_46 (by rw [eoE_6]; rfl) (fun H locs hP hD hS => ?_)
    cases hf
    rw [← hQ]
    exact zRv C hK hP hD hS dX2_takeOp_47
  refine lv_icmp_ne (tgt := 30) C.1.1 C.1.2.1 dX2_takeOp_20 (by decide) (fun hc => ?_) (fun hc => ?_)
  · replace hf := zIf_f hf hc
    refine lv_iconst (v := 1) C.1.1 C.1.2.1 dX2_takeOp_30 (by decide) ?_
    exact hJ31_3 (1 : Int32) hf H locs hP hD hS ls (lv_sub hl [0, 1, 2] rfl)
  · replace hf := zIf_t hf hc
    refine lv_aload_n C.1.1 C.1.2.1 dX2_takeOp_23 rfl (lv_at hl 0 rfl) ?_
    refine zGet (.int (oE_1 9 0)) C.1 wuX2 hK hP 0 rfl rfl 9 (by decide) wfX2_43 rfl rfl dX2_takeOp_24 ?_
    refine lv_goto (tgt := 31) C.1.1 C.1.2.1 dX2_takeOp_27 (by decide) ?_
    exact hJ31_3 (oE_1 9 0) hf H locs hP hD hS ls (lv_sub hl [0, 1, 2] rfl)
def fX2_depthOfOp (oE : Rc) (p1 : Int32) : Option (Int32) :=
  if p1 = 42 then (
    some ((4 : Int32) * (oE 9 0))
  ) else (
    if p1 = 43 then (
      some ((2 : Int32) * (oE 9 0))
    ) else (
      if p1 = 45 then (
        some (((2 : Int32) * (oE 9 0)) + (1 : Int32))
      ) else (
        if p1 = 60 then (
          some (((2 : Int32) * (oE 9 0)) + (2 : Int32))
        ) else (
          if p1 = 63 then (
            some (5 : Int32)
          ) else (
            some (1 : Int32)
          )
        )
      )
    )
  )
abbrev rX2_depthOfOp : Room := { frames := 0, cells := 0, slots := 0, locals := 0 }
set_option maxHeartbeats 4000000 in
set_option maxRecDepth 100000 in
theorem mtX2_depthOfOp (l : Launch) (dC : Nat → ClassId) (dI : Nat → Nat → Nat) (cI cB : ClassId) (aE aQ : Nat → Nat) (sz : Nat) (oE : Rc) (p1 : Int32) {ov : Int32} (hf : fX2_depthOfOp oE p1 = some ov) : zMi l yX2_depthOfOp (Cond.code yX2_depthOfOp cX2_depthOfOp 2 (some .int) :: lw_g) rX2_depthOfOp (dC, dI) [(cI, .int), (cB, .byte)] [.ref (aE 0), .int p1] sz (kX2 cI cB aE (aQ 0) oE) ov (kX2 cI cB aE (aQ 0) oE) := by
  refine zSt (cc := cX2_depthOfOp) (maxL := 2) (ret := (some .int)) (own := RX2) (fun A => zQi (dC, dI) [(cI, .int), (cB, .byte)] A ov (kX2 cI cB aE (aQ 0) oE)) (by decide) rfl rfl (Nat.le_of_ble_eq_true rfl) ?_
  intro p e s m below meth c ls A H locs C hK hA hP hD hS hl
  generalize hQ : MQ below (zQi (dC, dI) [(cI, .int), (cB, .byte)] A ov (kX2 cI cB aE (aQ 0) oE)) _ s 0 0 A = QQ
  generalize ([.ref (aE 0), .int p1] : List Value).toArray = args at C hQ ⊢
  have hl : lv_has ls 2 [(0, .ref (aE 0)), (1, .int p1)] := hl
  unfold fX2_depthOfOp at hf
  refine lv_iload_n C.1.1 C.1.2.1 dX2_depthOfOp_0 rfl (lv_at hl 1 rfl) ?_
  rcases Classical.em (p1 = 42) with hk1 | hk1
  · replace hf := zIf_t hf hk1
    refine lv_lookup (off := 67) (tgt := 68) C.1.1 C.1.2.1 dX2_depthOfOp_1 (by decide +kernel) (by rw [hk1] <;> decide +kernel) (by decide) ?_
    refine lv_iconst (v := 4) C.1.1 C.1.2.1 dX2_depthOfOp_68 (by decide) ?_
    refine lv_aload_n C.1.1 C.1.2.1 dX2_depthOfOp_69 rfl (lv_at hl 0 rfl) ?_
    refine zGet (.int (oE 9 0)) C.1 wuX2 hK hP 0 rfl rfl 9 (by decide) wfX2_43 rfl rfl dX2_depthOfOp_70 ?_
    refine lv_imul C.1.1 C.1.2.1 dX2_depthOfOp_73 ?_
    cases hf
    rw [← hQ]
    exact zRi C hK hP hD hS dX2_depthOfOp_74
  · replace hf := zIf_f hf hk1
    rcases Classical.em (p1 = 43) with hk2 | hk2
    · replace hf := zIf_t hf hk2
      refine lv_lookup (off := 51) (tgt := 52) C.1.1 C.1.2.1 dX2_depthOfOp_1 (by decide +kernel) (by rw [hk2] <;> decide +kernel) (by decide) ?_
      refine lv_iconst (v := 2) C.1.1 C.1.2.1 dX2_depthOfOp_52 (by decide) ?_
      refine lv_aload_n C.1.1 C.1.2.1 dX2_depthOfOp_53 rfl (lv_at hl 0 rfl) ?_
      refine zGet (.int (oE 9 0)) C.1 wuX2 hK hP 0 rfl rfl 9 (by decide) wfX2_43 rfl rfl dX2_depthOfOp_54 ?_
      refine lv_imul C.1.1 C.1.2.1 dX2_depthOfOp_57 ?_
      cases hf
      rw [← hQ]
      exact zRi C hK hP hD hS dX2_depthOfOp_58
    · replace hf := zIf_f hf hk2
      rcases Classical.em (p1 = 45) with hk3 | hk3
      · replace hf := zIf_t hf hk3
        refine lv_lookup (off := 58) (tgt := 59) C.1.1 C.1.2.1 dX2_depthOfOp_1 (by decide +kernel) (by rw [hk3] <;> decide +kernel) (by decide) ?_
        refine lv_iconst (v := 2) C.1.1 C.1.2.1 dX2_depthOfOp_59 (by decide) ?_
        refine lv_aload_n C.1.1 C.1.2.1 dX2_depthOfOp_60 rfl (lv_at hl 0 rfl) ?_
        refine zGet (.int (oE 9 0)) C.1 wuX2 hK hP 0 rfl rfl 9 (by decide) wfX2_43 rfl rfl dX2_depthOfOp_61 ?_
        refine lv_imul C.1.1 C.1.2.1 dX2_depthOfOp_64 ?_
        refine lv_iconst (v := 1) C.1.1 C.1.2.1 dX2_depthOfOp_65 (by decide) ?_
        refine lv_iadd C.1.1 C.1.2.1 dX2_depthOfOp_66 ?_
        cases hf
        rw [← hQ]
        exact zRi C hK hP hD hS dX2_depthOfOp_67
      · replace hf := zIf_f hf hk3
        rcases Classical.em (p1 = 60) with hk4 | hk4
        · replace hf := zIf_t hf hk4
          refine lv_lookup (off := 74) (tgt := 75) C.1.1 C.1.2.1 dX2_depthOfOp_1 (by decide +kernel) (by rw [hk4] <;> decide +kernel) (by decide) ?_
          refine lv_iconst (v := 2) C.1.1 C.1.2.1 dX2_depthOfOp_75 (by decide) ?_
          refine lv_aload_n C.1.1 C.1.2.1 dX2_depthOfOp_76 rfl (lv_at hl 0 rfl) ?_
          refine zGet (.int (oE 9 0)) C.1 wuX2 hK hP 0 rfl rfl 9 (by decide) wfX2_43 rfl rfl dX2_depthOfOp_77 ?_
          refine lv_imul C.1.1 C.1.2.1 dX2_depthOfOp_80 ?_
          refine lv_iconst (v := 2) C.1.1 C.1.2.1 dX2_depthOfOp_81 (by decide) ?_
          refine lv_iadd C.1.1 C.1.2.1 dX2_depthOfOp_82 ?_
          cases hf
          rw [← hQ]
          exact zRi C hK hP hD hS dX2_depthOfOp_83
        · replace hf := zIf_f hf hk4
          rcases Classical.em (p1 = 63) with hk5 | hk5
          · replace hf := zIf_t hf hk5
            refine lv_lookup (off := 83) (tgt := 84) C.1.1 C.1.2.1 dX2_depthOfOp_1 (by decide +kernel) (by rw [hk5] <;> decide +kernel) (by decide) ?_
            refine lv_iconst (v := 5) C.1.1 C.1.2.1 dX2_depthOfOp_84 (by decide) ?_
            cases hf
            rw [← hQ]
            exact zRi C hK hP hD hS dX2_depthOfOp_85
          · replace hf := zIf_f hf hk5
            refine lv_lookup (off := 85) (tgt := 86) C.1.1 C.1.2.1 dX2_depthOfOp_1 (by decide +kernel) (by simp only [List.toList_toArray]; rw [lv_osw hk1 (by decide), lv_osw hk2 (by decide), lv_osw hk3 (by decide), lv_osw hk4 (by decide), lv_osw hk5 (by decide)] <;> rfl) (by decide) ?_
            refine lv_iconst (v := 1) C.1.1 C.1.2.1 dX2_depthOfOp_86 (by decide) ?_
            cases hf
            rw [← hQ]
            exact zRi C hK hP hD hS dX2_depthOfOp_87
def fX2_sumDepth_L15 (oP : Rc) (p2 : Int32) (p3 : Int32) (J159_5 : Rc → Rc → Option (Int32 × Rc × Rc)) (n : Nat) (x8 : Int32) (oE_9 : Rc) (oQ_10 : Rc) : Option (Int32 × Rc × Rc) := zLp3 (fun (go11 : Int32 → Rc → Rc → Option (Int32 × Rc × Rc)) (x8 : Int32) (oE_9 : Rc) (oQ_10 : Rc) =>
    zGd (inb (p3 + (1 : Int32)) 97) <|
    if (oP 10 (p3 + (1 : Int32)).toNatClampNeg) ≤ x8 then (
      J159_5 oE_9 oQ_10
    ) else (
      zGd (inb x8 600) <|
      zLet (oP 11 x8.toNatClampNeg) fun x12 =>
      if x12 = (4 : Int32) then (
        zGd (inb x8 600) <|
        zB1 (fX2_ask oE_9 p2 (oP 12 x8.toNatClampNeg)) fun oE_29 =>
        zGd (inb x8 600) <|
        zGd (inb (oP 12 x8.toNatClampNeg) 8) <|
        zB1 (fX3_push oQ_10 (oE_29 7 (oP 12 x8.toNatClampNeg).toNatClampNeg)) fun oQ_30 =>
        zLet (x8 + 1) fun x31 =>
        go11 x31 oE_29 oQ_30
      ) else (
        if x12 = (3 : Int32) then (
          zB1 (fX3_push oQ_10 (0 : Int32)) fun oQ_27 =>
          zLet (x8 + 1) fun x28 =>
          go11 x28 oE_9 oQ_27
        ) else (
          zB1 (fX2_takeOp oE_9 p2 x12) fun oE_13 =>
          zJn (fun (oQ_14 : Rc) (t15 : Int32) =>
              zB1 (fX2_depthOfOp oE_13 x12) fun v17 =>
              zB1 (fX3_push oQ_14 (t15 + v17)) fun oQ_18 =>
              zLet (x8 + 1) fun x19 =>
              go11 x19 oE_13 oQ_18
            ) fun J135_16 =>
          if x12 = (126 : Int32) then (
            zB2 (fX3_pop oQ_10) fun v25 oQ_26 =>
            J135_16 oQ_26 v25
          ) else (
            zB2 (fX3_pop oQ_10) fun v20 oQ_21 =>
            zB2 (fX3_pop oQ_21) fun v22 oQ_23 =>
            zLet (if v20 < v22 then v22 else v20) fun x24 =>
            J135_16 oQ_23 x24
          )
        )
      )
    )
  ) n x8 oE_9 oQ_10
def fX2_sumDepth (NN : Nat) (oP : Rc) (oE : Rc) (oQ : Rc) (p2 : Int32) (p3 : Int32) : Option (Int32 × Rc × Rc) :=
  zB1 (fX3_empty oQ) fun oQ_1 =>
  zGd (inb p3 97) <|
  zLet (oP 10 p3.toNatClampNeg) fun x2 =>
  zJn (fun (oE_3 : Rc) (oQ_4 : Rc) =>
      zB2 (fX3_pop oQ_4) fun v6 oQ_7 =>
      some (v6, oE_3, oQ_7)
    ) fun J159_5 =>
  fX2_sumDepth_L15 oP p2 p3 J159_5 NN x2 oE oQ_1
abbrev rX2_sumDepth : Room := { frames := 2, cells := 0, slots := 0, locals := 43 }
set_option maxHeartbeats 4000000 in
set_option maxRecDepth 100000 in
theorem mtX2_sumDepth (l : Launch) (dC : Nat → ClassId) (dI : Nat → Nat → Nat) (cI cB : ClassId) (aP aE aQ : Nat → Nat) (sz : Nat) (NN : Nat) (oP : Rc) (oE : Rc) (oQ : Rc) (p2 : Int32) (p3 : Int32) {ov : Int32} {oE' : Rc} {oQ' : Rc} (hf : fX2_sumDepth NN oP oE oQ p2 p3 = some (ov, oE', oQ')) : zMi l yX2_sumDepth (Cond.code yX2_sumDepth cX2_sumDepth 7 (some .int) :: lw_g) rX2_sumDepth (dC, dI) [(cI, .int), (cB, .byte)] [.ref (aE 0), .ref (aP 0), .int p2, .int p3] sz (kX4 cI cB aP oP ++ kX2 cI cB aE (aQ 0) oE ++ kX3 cI cB aQ oQ) ov (kX4 cI cB aP oP ++ kX2 cI cB aE (aQ 0) oE' ++ kX3 cI cB aQ oQ') := by
  refine zSt (cc := cX2_sumDepth) (maxL := 7) (ret := (some .int)) (own := RX2) (fun A => zQi (dC, dI) [(cI, .int), (cB, .byte)] A ov (kX4 cI cB aP oP ++ kX2 cI cB aE (aQ 0) oE' ++ kX3 cI cB aQ oQ')) (by decide) rfl rfl (Nat.le_of_ble_eq_true rfl) ?_
  intro p e s m below meth c ls A H locs C hK hA hP hD hS hl
  generalize hQ : MQ below (zQi (dC, dI) [(cI, .int), (cB, .byte)] A ov (kX4 cI cB aP oP ++ kX2 cI cB aE (aQ 0) oE' ++ kX3 cI cB aQ oQ')) _ s 0 0 A = QQ
  generalize ([.ref (aE 0), .ref (aP 0), .int p2, .int p3] : List Value).toArray = args at C hQ ⊢
  have hl : lv_has ls 7 [(0, .ref (aE 0)), (1, .ref (aP 0)), (2, .int p2), (3, .int p3)] := hl
  unfold fX2_sumDepth at hf
  refine lv_aload_n C.1.1 C.1.2.1 dX2_sumDepth_0 rfl (lv_at hl 0 rfl) ?_
  refine zGet (.ref (aQ 0)) C.1 wuX2 hK hP 10 rfl rfl 8 (by decide) wfX2_39 rfl rfl dX2_sumDepth_1 ?_
  obtain ⟨oQ_1, hg, hf⟩ := zB1_el hf
  refine zCVv (As := []) (rest := []) (wr := (kX4 cI cB aP oP ++ kX2 cI cB aE (aQ 0) oE)) (wn := (kX4 cI cB aP oP ++ kX2 cI cB aE (aQ 0) oE ++ kX3 cI cB aQ oQ_1)) C.1 hK hA hP hD hS [19, 20] [0, 1, 2, 3, 4, 5, 6, 7, 8, 9, 10, 11, 12, 13, 14, 15, 16, 17, 18] [0, 1, 2, 3, 4, 5, 6, 7, 8, 9, 10, 11, 12, 13, 14, 15, 16, 17, 18, 19, 20] 0 (mtX3_empty l dC dI cI cB aQ H.size oQ hg) (zCwV 0 C.1 wlX2_96 wiX3_empty ws_X3_empty wnX3 wkX3_empty rfl rfl (by decide +kernel) ⟨Nat.le_of_ble_eq_true rfl, Nat.le_of_ble_eq_true rfl⟩) rfl rfl (by decide +kernel) rfl rfl rfl rfl hl.1 (Nat.le_of_ble_eq_true rfl) dX2_sumDepth_4 ⟨Nat.zero_le _, Nat.zero_le _⟩ rfl (fun H locs hP hD hS => ?_)
  refine lv_aload_n C.1.1 C.1.2.1 dX2_sumDepth_7 rfl (lv_at hl 1 rfl) ?_
  refine zGet (.ref (aP 7)) C.1 wuX4 hK hP 0 rfl rfl 10 (by decide) wfX2_99 rfl rfl dX2_sumDepth_8 ?_
  refine lv_iload_n C.1.1 C.1.2.1 dX2_sumDepth_11 rfl (lv_at hl 3 rfl) ?_
  obtain ⟨hib, hf⟩ := zGd_el hf
  refine va_iald C.1.1 C.1.2.1 hK.1 hP 7 0 rfl rfl hib dX2_sumDepth_12 ?_
  refine lv_topi (fun x2 ex2 => ?_)
  replace hf := zLet_at hf ex2
  refine lv_istore (lv' := [(4, .int x2), (0, .ref (aE 0)), (1, .ref (aP 0)), (2, .int p2), (3, .int p3)]) C.1.1 C.1.2.1 dX2_sumDepth_13 hl (by decide) rfl (fun ls hl => ?_)
  obtain ⟨J159_5, eJ159_5, hf⟩ := zJn_el hf
  have hJ159_5 : ∀ (oE_3 : Rc) (oQ_4 : Rc), J159_5 oE_3 oQ_4 = some (ov, oE', oQ') → ∀ (H : Heap) (locs : List Loc), va_P (dC, dI) vwCl (kX4 cI cB aP oP ++ kX2 cI cB aE (aQ 0) oE_3 ++ kX3 cI cB aQ oQ_4) H → va_D A (kX4 cI cB aP oP ++ kX2 cI cB aE (aQ 0) oE_3 ++ kX3 cI cB aQ oQ_4) → va_S A s.heap H locs → ∀ (ls : Array Slot), lv_has ls 7 [(0, .ref (aE 0))] → W p l e rX2_sumDepth s m args below meth c H locs 0 0 QQ (F0 m 159 ls []) := by
    intro oE_3 oQ_4 hf H locs hP hD hS ls hl
    rw [eJ159_5] at hf
    refine lv_aload_n C.1.1 C.1.2.1 dX2_sumDepth_159 rfl (lv_at hl 0 rfl) ?_
    refine zGet (.ref (aQ 0)) C.1 wuX2 hK hP 10 rfl rfl 8 (by decide) wfX2_39 rfl rfl dX2_sumDepth_160 ?_
    obtain ⟨v6, oQ_7, hg, hf⟩ := zB2_el hf
    refine zCVi (As := []) (rest := []) (wr := (kX4 cI cB aP oP ++ kX2 cI cB aE (aQ 0) oE_3)) (wn := (kX4 cI cB aP oP ++ kX2 cI cB aE (aQ 0) oE_3 ++ kX3 cI cB aQ oQ_7)) C.1 hK hA hP hD hS [19, 20] [0, 1, 2, 3, 4, 5, 6, 7, 8, 9, 10, 11, 12, 13, 14, 15, 16, 17, 18] [0, 1, 2, 3, 4, 5, 6, 7, 8, 9, 10, 11, 12, 13, 14, 15, 16, 17, 18, 19, 20] 0 (mtX3_pop l dC dI cI cB aQ H.size oQ_4 hg) (zCwV 0 C.1 wlX2_111 wiX3_pop ws_X3_pop wnX3 wkX3_pop rfl rfl (by decide +kernel) ⟨Nat.le_of_ble_eq_true rfl, Nat.le_of_ble_eq_true rfl⟩) rfl rfl (by decide +kernel) rfl rfl rfl rfl hl.1 (Nat.le_of_ble_eq_true rfl) dX2_sumDepth_163 ⟨Nat.zero_le _, Nat.zero_le _⟩ rfl (fun H locs hP hD hS => ?_)
    cases hf
    rw [← hQ]
    exact zRi C hK hP hD hS dX2_sumDepth_166
  refine zLp3_ind (o := (ov, oE', oQ')) (P := fun (x8 : Int32) (oE_9 : Rc) (oQ_10 : Rc) => ∀ (H : Heap) (locs : List Loc), va_P (dC, dI) vwCl (kX4 cI cB aP oP ++ kX2 cI cB aE (aQ 0) oE_9 ++ kX3 cI cB aQ oQ_10) H → va_D A (kX4 cI cB aP oP ++ kX2 cI cB aE (aQ 0) oE_9 ++ kX3 cI cB aQ oQ_10) → va_S A s.heap H locs → ∀ (ls : Array Slot), lv_has ls 7 [(0, .ref (aE 0)), (1, .ref (aP 0)), (2, .int p2), (3, .int p3), (4, .int x8)] → W p l e rX2_sumDepth s m args below meth c H locs 0 0 QQ (F0 m 15 ls [])) (fun go11 ihgo11 x8 oE_9 oQ_10 hf H locs hP hD hS ls hl => ?_) _ x2 oE oQ_1 hf H locs hP hD hS ls (lv_sub hl [1, 2, 3, 4, 0] rfl)
  refine lv_iload C.1.1 C.1.2.1 dX2_sumDepth_15 (lv_at hl 4 rfl) ?_
  refine lv_aload_n C.1.1 C.1.2.1 dX2_sumDepth_17 rfl (lv_at hl 1 rfl) ?_
  refine zGet (.ref (aP 7)) C.1 wuX4 hK hP 0 rfl rfl 10 (by decide) wfX2_99 rfl rfl dX2_sumDepth_18 ?_
  refine lv_iload_n C.1.1 C.1.2.1 dX2_sumDepth_21 rfl (lv_at hl 3 rfl) ?_
  refine lv_iconst (v := 1) C.1.1 C.1.2.1 dX2_sumDepth_22 (by decide) ?_
  refine lv_iadd C.1.1 C.1.2.1 dX2_sumDepth_23 ?_
  obtain ⟨hib, hf⟩ := zGd_el hf
  refine va_iald C.1.1 C.1.2.1 hK.1 hP 7 0 rfl rfl hib dX2_sumDepth_24 ?_
  refine lv_icmp_ge (tgt := 159) C.1.1 C.1.2.1 dX2_sumDepth_25 (by decide) (fun hc => ?_) (fun hc => ?_)
  · replace hf := zIf_t hf hc
    exact hJ159_5 oE_9 oQ_10 hf H locs hP hD hS ls (lv_sub hl [0] rfl)
  · replace hf := zIf_f hf hc
    refine lv_aload_n C.1.1 C.1.2.1 dX2_sumDepth_28 rfl (lv_at hl 1 rfl) ?_
    refine zGet (.ref (aP 8)) C.1 wuX4 hK hP 0 rfl rfl 11 (by decide) wfX2_102 rfl rfl dX2_sumDepth_29 ?_
    refine lv_iload C.1.1 C.1.2.1 dX2_sumDepth_32 (lv_at hl 4 rfl) ?_
    obtain ⟨hib, hf⟩ := zGd_el hf
    refine va_iald C.1.1 C.1.2.1 hK.1 hP 8 0 rfl rfl hib dX2_sumDepth_34 ?_
    refine lv_topi (fun x12 ex12 => ?_)
    replace hf := zLet_at hf ex12
    refine lv_istore (lv' := [(5, .int x12), (0, .ref (aE 0)), (1, .ref (aP 0)), (2, .int p2), (3, .int p3), (4, .int x8)]) C.1.1 C.1.2.1 dX2_sumDepth_35 hl (by decide) rfl (fun ls hl => ?_)
    refine lv_iload C.1.1 C.1.2.1 dX2_sumDepth_37 (lv_at hl 0 rfl) ?_
    refine lv_iconst (v := 4) C.1.1 C.1.2.1 dX2_sumDepth_39 (by decide) ?_
    refine lv_icmp_ne (tgt := 77) C.1.1 C.1.2.1 dX2_sumDepth_40 (by decide) (fun hc => ?_) (fun hc => ?_)
    · replace hf := zIf_f hf hc
      refine lv_iload C.1.1 C.1.2.1 dX2_sumDepth_77 (lv_at hl 0 rfl) ?_
      refine lv_iconst (v := 3) C.1.1 C.1.2.1 dX2_sumDepth_79 (by decide) ?_
      refine lv_icmp_ne (tgt := 94) C.1.1 C.1.2.1 dX2_sumDepth_80 (by decide) (fun hc => ?_) (fun hc => ?_)
      · replace hf := zIf_f hf hc
        refine lv_aload_n C.1.1 C.1.2.1 dX2_sumDepth_94 rfl (lv_at hl 1 rfl) ?_
        refine lv_iload_n C.1.1 C.1.2.1 dX2_sumDepth_95 rfl (lv_at hl 3 rfl) ?_
        refine lv_iload C.1.1 C.1.2.1 dX2_sumDepth_96 (lv_at hl 0 rfl) ?_
        obtain ⟨oE_13, hg, hf⟩ := zB1_el hf
        refine zCVv (As := [.int p2, .int x12]) (rest := []) (wr := (kX4 cI cB aP oP ++ kX3 cI cB aQ oQ_10)) (wn := (kX4 cI cB aP oP ++ kX2 cI cB aE (aQ 0) oE_13 ++ kX3 cI cB aQ oQ_10)) C.1 hK hA hP hD hS [10, 11, 12, 13, 14, 15, 16, 17, 18] [0, 1, 2, 3, 4, 5, 6, 7, 8, 9, 19, 20] [0, 1, 2, 3, 4, 5, 6, 7, 8, 9, 12, 13, 14, 15, 16, 17, 18, 19, 20, 10, 11] 0 (mtX2_takeOp l dC dI cI cB aE aQ H.size oE_9 p2 x12 hg) (zCwV 2 C.1 wlX2_89 wiX2_takeOp ws_X2_takeOp wnX2 wkX2_takeOp rfl rfl (by decide +kernel) ⟨Nat.le_of_ble_eq_true rfl, Nat.le_of_ble_eq_true rfl⟩) rfl rfl (by decide +kernel) rfl rfl rfl rfl hl.1 (Nat.le_of_ble_eq_true rfl) dX2_sumDepth_98 ⟨Nat.zero_le _, Nat.zero_le _⟩ rfl (fun H locs hP hD hS => ?_)
        refine lv_iload C.1.1 C.1.2.1 dX2_sumDepth_101 (lv_at hl 0 rfl) ?_
        refine lv_bipush (v := 126) C.1.1 C.1.2.1 dX2_sumDepth_103 (by decide) ?_
        obtain ⟨J135_16, eJ135_16, hf⟩ := zJn_el hf
        have hJ135_16 : ∀ (oQ_14 : Rc) (t15 : Int32), J135_16 oQ_14 t15 = some (ov, oE', oQ') → ∀ (H : Heap) (locs : List Loc), va_P (dC, dI) vwCl (kX4 cI cB aP oP ++ kX2 cI cB aE (aQ 0) oE_13 ++ kX3 cI cB aQ oQ_14) H → va_D A (kX4 cI cB aP oP ++ kX2 cI cB aE (aQ 0) oE_13 ++ kX3 cI cB aQ oQ_14) → va_S A s.heap H locs → ∀ (ls : Array Slot), lv_has ls 7 [(0, .ref (aE 0)), (1, .ref (aP 0)), (2, .int p2), (3, .int p3), (4, .int x8), (5, .int x12)] → W p l e rX2_sumDepth s m args below meth c H locs 0 0 QQ (F0 m 135 ls [.int t15]) := by
          intro oQ_14 t15 hf H locs hP hD hS ls hl
          rw [eJ135_16] at hf
          refine lv_istore (lv' := [(6, .int t15), (0, .ref (aE 0)), (1, .ref (aP 0)), (2, .int p2), (3, .int p3), (4, .int x8), (5, .int x12)]) C.1.1 C.1.2.1 dX2_sumDepth_135 hl (by decide) rfl (fun ls hl => ?_)
          refine lv_aload_n C.1.1 C.1.2.1 dX2_sumDepth_137 rfl (lv_at hl 1 rfl) ?_
          refine zGet (.ref (aQ 0)) C.1 wuX2 hK hP 10 rfl rfl 8 (by decide) wfX2_39 rfl rfl dX2_sumDepth_138 ?_
          refine lv_iload C.1.1 C.1.2.1 dX2_sumDepth_141 (lv_at hl 0 rfl) ?_
          refine lv_aload_n C.1.1 C.1.2.1 dX2_sumDepth_143 rfl (lv_at hl 1 rfl) ?_
          refine lv_iload C.1.1 C.1.2.1 dX2_sumDepth_144 (lv_at hl 6 rfl) ?_
          obtain ⟨v17, hg, hf⟩ := zB1_el hf
          refine zCVi (As := [.int x12]) (rest := [.int t15, .ref (aQ 0)]) (wr := (kX4 cI cB aP oP ++ kX3 cI cB aQ oQ_14)) (wn := (kX4 cI cB aP oP ++ kX2 cI cB aE (aQ 0) oE_13 ++ kX3 cI cB aQ oQ_14)) C.1 hK hA hP hD hS [10, 11, 12, 13, 14, 15, 16, 17, 18] [0, 1, 2, 3, 4, 5, 6, 7, 8, 9, 19, 20] [0, 1, 2, 3, 4, 5, 6, 7, 8, 9, 12, 13, 14, 15, 16, 17, 18, 19, 20, 10, 11] 0 (mtX2_depthOfOp l dC dI cI cB aE aQ H.size oE_13 x12 hg) (zCwV 1 C.1 wlX2_92 wiX2_depthOfOp ws_X2_depthOfOp wnX2 wkX2_depthOfOp rfl rfl (by decide +kernel) ⟨Nat.le_of_ble_eq_true rfl, Nat.le_of_ble_eq_true rfl⟩) rfl rfl (by decide +kernel) rfl rfl rfl rfl hl.1 (Nat.le_of_ble_eq_true rfl) dX2_sumDepth_146 ⟨Nat.zero_le _, Nat.zero_le _⟩ rfl (fun H locs hP hD hS => ?_)
          refine lv_iadd C.1.1 C.1.2.1 dX2_sumDepth_149 ?_
          obtain ⟨oQ_18, hg, hf⟩ := zB1_el hf
          refine zCVv (As := [.int (t15 + v17)]) (rest := []) (wr := (kX4 cI cB aP oP ++ kX2 cI cB aE (aQ 0) oE_13)) (wn := (kX4 cI cB aP oP ++ kX2 cI cB aE (aQ 0) oE_13 ++ kX3 cI cB aQ oQ_18)) C.1 hK hA hP hD hS [19, 20] [0, 1, 2, 3, 4, 5, 6, 7, 8, 9, 10, 11, 12, 13, 14, 15, 16, 17, 18] [0, 1, 2, 3, 4, 5, 6, 7, 8, 9, 10, 11, 12, 13, 14, 15, 16, 17, 18, 19, 20] 0 (mtX3_push l dC dI cI cB aQ H.size oQ_14 (t15 + v17) hg) (zCwV 1 C.1 wlX2_108 wiX3_push ws_X3_push wnX3 wkX3_push rfl rfl (by decide +kernel) ⟨Nat.le_of_ble_eq_true rfl, Nat.le_of_ble_eq_true rfl⟩) rfl rfl (by decide +kernel) rfl rfl rfl rfl hl.1 (Nat.le_of_ble_eq_true rfl) dX2_sumDepth_150 ⟨Nat.zero_le _, Nat.zero_le _⟩ rfl (fun H locs hP hD hS => ?_)
          obtain ⟨x19, ex19, hf⟩ := zLet_el hf
          refine lv_iinc (v := x19) (lv' := [(4, .int x19), (6, .int t15), (0, .ref (aE 0)), (1, .ref (aP 0)), (2, .int p2), (3, .int p3), (5, .int x12)]) C.1.1 C.1.2.1 dX2_sumDepth_153 hl (k := 5) rfl (by rw [ex19]; rfl) (by decide) rfl (fun ls hl => ?_)
          refine lv_goto (tgt := 15) C.1.1 C.1.2.1 dX2_sumDepth_156 (by decide) ?_
          exact ihgo11 x19 oE_13 oQ_18 hf H locs hP hD hS ls (lv_sub hl [2, 3, 4, 5, 0] rfl)
        refine lv_icmp_ne (tgt := 118) C.1.1 C.1.2.1 dX2_sumDepth_105 (by decide) (fun hc => ?_) (fun hc => ?_)
        · replace hf := zIf_f hf hc
          refine lv_aload_n C.1.1 C.1.2.1 dX2_sumDepth_118 rfl (lv_at hl 1 rfl) ?_
          refine zGet (.ref (aQ 0)) C.1 wuX2 hK hP 10 rfl rfl 8 (by decide) wfX2_39 rfl rfl dX2_sumDepth_119 ?_
          obtain ⟨v20, oQ_21, hg, hf⟩ := zB2_el hf
          refine zCVi (As := []) (rest := []) (wr := (kX4 cI cB aP oP ++ kX2 cI cB aE (aQ 0) oE_13)) (wn := (kX4 cI cB aP oP ++ kX2 cI cB aE (aQ 0) oE_13 ++ kX3 cI cB aQ oQ_21)) C.1 hK hA hP hD hS [19, 20] [0, 1, 2, 3, 4, 5, 6, 7, 8, 9, 10, 11, 12, 13, 14, 15, 16, 17, 18] [0, 1, 2, 3, 4, 5, 6, 7, 8, 9, 10, 11, 12, 13, 14, 15, 16, 17, 18, 19, 20] 0 (mtX3_pop l dC dI cI cB aQ H.size oQ_10 hg) (zCwV 0 C.1 wlX2_111 wiX3_pop ws_X3_pop wnX3 wkX3_pop rfl rfl (by decide +kernel) ⟨Nat.le_of_ble_eq_true rfl, Nat.le_of_ble_eq_true rfl⟩) rfl rfl (by decide +kernel) rfl rfl rfl rfl hl.1 (Nat.le_of_ble_eq_true rfl) dX2_sumDepth_122 ⟨Nat.zero_le _, Nat.zero_le _⟩ rfl (fun H locs hP hD hS => ?_)
          refine lv_aload_n C.1.1 C.1.2.1 dX2_sumDepth_125 rfl (lv_at hl 1 rfl) ?_
          refine zGet (.ref (aQ 0)) C.1 wuX2 hK hP 10 rfl rfl 8 (by decide) wfX2_39 rfl rfl dX2_sumDepth_126 ?_
          obtain ⟨v22, oQ_23, hg, hf⟩ := zB2_el hf
          refine zCVi (As := []) (rest := [.int v20]) (wr := (kX4 cI cB aP oP ++ kX2 cI cB aE (aQ 0) oE_13)) (wn := (kX4 cI cB aP oP ++ kX2 cI cB aE (aQ 0) oE_13 ++ kX3 cI cB aQ oQ_23)) C.1 hK hA hP hD hS [19, 20] [0, 1, 2, 3, 4, 5, 6, 7, 8, 9, 10, 11, 12, 13, 14, 15, 16, 17, 18] [0, 1, 2, 3, 4, 5, 6, 7, 8, 9, 10, 11, 12, 13, 14, 15, 16, 17, 18, 19, 20] 0 (mtX3_pop l dC dI cI cB aQ H.size oQ_21 hg) (zCwV 0 C.1 wlX2_111 wiX3_pop ws_X3_pop wnX3 wkX3_pop rfl rfl (by decide +kernel) ⟨Nat.le_of_ble_eq_true rfl, Nat.le_of_ble_eq_true rfl⟩) rfl rfl (by decide +kernel) rfl rfl rfl rfl hl.1 (Nat.le_of_ble_eq_true rfl) dX2_sumDepth_129 ⟨Nat.zero_le _, Nat.zero_le _⟩ rfl (fun H locs hP hD hS => ?_)
          refine va_mmax C.1.1 C.1.2.1 (C.1.2.2.1.trans hl.1.symm) C.1.2.2.2.1 (C.1.2.2.2.2 _ wlX2_69) (C.1.2.2.2.2 _ wtJ9_max_7cf53) (C.1.2.2.2.2 _ wnJ9) (C.1.2.2.2.2 _ wkJ9_max_7cf53) (Nat.le_of_ble_eq_true rfl) (Nat.le_of_ble_eq_true rfl) (Nat.zero_le _) (Nat.zero_le _) dX2_sumDepth_132 ?_
          refine lv_topi (fun x24 ex24 => ?_)
          replace hf := zLet_at hf ex24
          exact hJ135_16 oQ_23 x24 hf H locs hP hD hS ls (lv_sub hl [1, 2, 3, 4, 5, 0] rfl)
        · replace hf := zIf_t hf hc
          refine lv_aload_n C.1.1 C.1.2.1 dX2_sumDepth_108 rfl (lv_at hl 1 rfl) ?_
          refine zGet (.ref (aQ 0)) C.1 wuX2 hK hP 10 rfl rfl 8 (by decide) wfX2_39 rfl rfl dX2_sumDepth_109 ?_
          obtain ⟨v25, oQ_26, hg, hf⟩ := zB2_el hf
          refine zCVi (As := []) (rest := []) (wr := (kX4 cI cB aP oP ++ kX2 cI cB aE (aQ 0) oE_13)) (wn := (kX4 cI cB aP oP ++ kX2 cI cB aE (aQ 0) oE_13 ++ kX3 cI cB aQ oQ_26)) C.1 hK hA hP hD hS [19, 20] [0, 1, 2, 3, 4, 5, 6, 7, 8, 9, 10, 11, 12, 13, 14, 15, 16, 17, 18] [0, 1, 2, 3, 4, 5, 6, 7, 8, 9, 10, 11, 12, 13, 14, 15, 16, 17, 18, 19, 20] 0 (mtX3_pop l dC dI cI cB aQ H.size oQ_10 hg) (zCwV 0 C.1 wlX2_111 wiX3_pop ws_X3_pop wnX3 wkX3_pop rfl rfl (by decide +kernel) ⟨Nat.le_of_ble_eq_true rfl, Nat.le_of_ble_eq_true rfl⟩) rfl rfl (by decide +kernel) rfl rfl rfl rfl hl.1 (Nat.le_of_ble_eq_true rfl) dX2_sumDepth_112 ⟨Nat.zero_le _, Nat.zero_le _⟩ rfl (fun H locs hP hD hS => ?_)
          refine lv_goto (tgt := 135) C.1.1 C.1.2.1 dX2_sumDepth_115 (by decide) ?_
          exact hJ135_16 oQ_26 v25 hf H locs hP hD hS ls (lv_sub hl [1, 2, 3, 4, 5, 0] rfl)
      · replace hf := zIf_t hf hc
        refine lv_aload_n C.1.1 C.1.2.1 dX2_sumDepth_83 rfl (lv_at hl 1 rfl) ?_
        refine zGet (.ref (aQ 0)) C.1 wuX2 hK hP 10 rfl rfl 8 (by decide) wfX2_39 rfl rfl dX2_sumDepth_84 ?_
        refine lv_iconst (v := 0) C.1.1 C.1.2.1 dX2_sumDepth_87 (by decide) ?_
        obtain ⟨oQ_27, hg, hf⟩ := zB1_el hf
        refine zCVv (As := [.int (0 : Int32)]) (rest := []) (wr := (kX4 cI cB aP oP ++ kX2 cI cB aE (aQ 0) oE_9)) (wn := (kX4 cI cB aP oP ++ kX2 cI cB aE (aQ 0) oE_9 ++ kX3 cI cB aQ oQ_27)) C.1 hK hA hP hD hS [19, 20] [0, 1, 2, 3, 4, 5, 6, 7, 8, 9, 10, 11, 12, 13, 14, 15, 16, 17, 18] [0, 1, 2, 3, 4, 5, 6, 7, 8, 9, 10, 11, 12, 13, 14, 15, 16, 17, 18, 19, 20] 0 (mtX3_push l dC dI cI cB aQ H.size oQ_10 (0 : Int32) hg) (zCwV 1 C.1 wlX2_108 wiX3_push ws_X3_push wnX3 wkX3_push rfl rfl (by decide +kernel) ⟨Nat.le_of_ble_eq_true rfl, Nat.le_of_ble_eq_true rfl⟩) rfl rfl (by decide +kernel) rfl rfl rfl rfl hl.1 (Nat.le_of_ble_eq_true rfl) dX2_sumDepth_88 ⟨Nat.zero_le _, Nat.zero_le _⟩ rfl (fun H locs hP hD hS => ?_)
        refine lv_goto (tgt := 153) C.1.1 C.1.2.1 dX2_sumDepth_91 (by decide) ?_
        obtain ⟨x28, ex28, hf⟩ := zLet_el hf
        refine lv_iinc (v := x28) (lv' := [(4, .int x28), (5, .int x12), (0, .ref (aE 0)), (1, .ref (aP 0)), (2, .int p2), (3, .int p3)]) C.1.1 C.1.2.1 dX2_sumDepth_153 hl (k := 5) rfl (by rw [ex28]; rfl) (by decide) rfl (fun ls hl => ?_)
        refine lv_goto (tgt := 15) C.1.1 C.1.2.1 dX2_sumDepth_156 (by decide) ?_
        exact ihgo11 x28 oE_9 oQ_27 hf H locs hP hD hS ls (lv_sub hl [2, 3, 4, 5, 0] rfl)
    · replace hf := zIf_t hf hc
      refine lv_aload_n C.1.1 C.1.2.1 dX2_sumDepth_43 rfl (lv_at hl 1 rfl) ?_
      refine lv_iload_n C.1.1 C.1.2.1 dX2_sumDepth_44 rfl (lv_at hl 3 rfl) ?_
      refine lv_aload_n C.1.1 C.1.2.1 dX2_sumDepth_45 rfl (lv_at hl 2 rfl) ?_
      refine zGet (.ref (aP 9)) C.1 wuX4 hK hP 0 rfl rfl 12 (by decide) wfX2_105 rfl rfl dX2_sumDepth_46 ?_
      refine lv_iload C.1.1 C.1.2.1 dX2_sumDepth_49 (lv_at hl 5 rfl) ?_
      obtain ⟨hib, hf⟩ := zGd_el hf
      refine va_iald C.1.1 C.1.2.1 hK.1 hP 9 0 rfl rfl hib dX2_sumDepth_51 ?_
      obtain ⟨oE_29, hg, hf⟩ := zB1_el hf
      refine zCVv (As := [.int p2, .int (oP 12 x8.toNatClampNeg)]) (rest := []) (wr := (kX4 cI cB aP oP ++ kX3 cI cB aQ oQ_10)) (wn := (kX4 cI cB aP oP ++ kX2 cI cB aE (aQ 0) oE_29 ++ kX3 cI cB aQ oQ_10)) C.1 hK hA hP hD hS [10, 11, 12, 13, 14, 15, 16, 17, 18] [0, 1, 2, 3, 4, 5, 6, 7, 8, 9, 19, 20] [0, 1, 2, 3, 4, 5, 6, 7, 8, 9, 12, 13, 14, 15, 16, 17, 18, 19, 20, 10, 11] 0 (mtX2_ask l dC dI cI cB aE aQ H.size oE_9 p2 (oP 12 x8.toNatClampNeg) hg) (zCwV 2 C.1 wlX2_85 wiX2_ask ws_X2_ask wnX2 wkX2_ask rfl rfl (by decide +kernel) ⟨Nat.le_of_ble_eq_true rfl, Nat.le_of_ble_eq_true rfl⟩) rfl rfl (by decide +kernel) rfl rfl rfl rfl hl.1 (Nat.le_of_ble_eq_true rfl) dX2_sumDepth_52 ⟨Nat.zero_le _, Nat.zero_le _⟩ rfl (fun H locs hP hD hS => ?_)
      refine lv_aload_n C.1.1 C.1.2.1 dX2_sumDepth_55 rfl (lv_at hl 1 rfl) ?_
      refine zGet (.ref (aQ 0)) C.1 wuX2 hK hP 10 rfl rfl 8 (by decide) wfX2_39 rfl rfl dX2_sumDepth_56 ?_
      refine lv_aload_n C.1.1 C.1.2.1 dX2_sumDepth_59 rfl (lv_at hl 1 rfl) ?_
      refine zGet (.ref (aE 8)) C.1 wuX2 hK hP 10 rfl rfl 7 (by decide) wfX2_33 rfl rfl dX2_sumDepth_60 ?_
      refine lv_aload_n C.1.1 C.1.2.1 dX2_sumDepth_63 rfl (lv_at hl 2 rfl) ?_
      refine zGet (.ref (aP 9)) C.1 wuX4 hK hP 0 rfl rfl 12 (by decide) wfX2_105 rfl rfl dX2_sumDepth_64 ?_
      refine lv_iload C.1.1 C.1.2.1 dX2_sumDepth_67 (lv_at hl 5 rfl) ?_
      obtain ⟨hib, hf⟩ := zGd_el hf
      refine va_iald C.1.1 C.1.2.1 hK.1 hP 9 0 rfl rfl hib dX2_sumDepth_69 ?_
      obtain ⟨hib, hf⟩ := zGd_el hf
      refine va_iald C.1.1 C.1.2.1 hK.1 hP 18 0 rfl rfl hib dX2_sumDepth_70 ?_
      obtain ⟨oQ_30, hg, hf⟩ := zB1_el hf
      refine zCVv (As := [.int (oE_29 7 (oP 12 x8.toNatClampNeg).toNatClampNeg)]) (rest := []) (wr := (kX4 cI cB aP oP ++ kX2 cI cB aE (aQ 0) oE_29)) (wn := (kX4 cI cB aP oP ++ kX2 cI cB aE (aQ 0) oE_29 ++ kX3 cI cB aQ oQ_30)) C.1 hK hA hP hD hS [19, 20] [0, 1, 2, 3, 4, 5, 6, 7, 8, 9, 10, 11, 12, 13, 14, 15, 16, 17, 18] [0, 1, 2, 3, 4, 5, 6, 7, 8, 9, 10, 11, 12, 13, 14, 15, 16, 17, 18, 19, 20] 0 (mtX3_push l dC dI cI cB aQ H.size oQ_10 (oE_29 7 (oP 12 x8.toNatClampNeg).toNatClampNeg) hg) (zCwV 1 C.1 wlX2_108 wiX3_push ws_X3_push wnX3 wkX3_push rfl rfl (by decide +kernel) ⟨Nat.le_of_ble_eq_true rfl, Nat.le_of_ble_eq_true rfl⟩) rfl rfl (by decide +kernel) rfl rfl rfl rfl hl.1 (Nat.le_of_ble_eq_true rfl) dX2_sumDepth_71 ⟨Nat.zero_le _, Nat.zero_le _⟩ rfl (fun H locs hP hD hS => ?_)
      refine lv_goto (tgt := 153) C.1.1 C.1.2.1 dX2_sumDepth_74 (by decide) ?_
      obtain ⟨x31, ex31, hf⟩ := zLet_el hf
      refine lv_iinc (v := x31) (lv' := [(4, .int x31), (5, .int x12), (0, .ref (aE 0)), (1, .ref (aP 0)), (2, .int p2), (3, .int p3)]) C.1.1 C.1.2.1 dX2_sumDepth_153 hl (k := 5) rfl (by rw [ex31]; rfl) (by decide) rfl (fun ls hl => ?_)
      refine lv_goto (tgt := 15) C.1.1 C.1.2.1 dX2_sumDepth_156 (by decide) ?_
      exact ihgo11 x31 oE_29 oQ_30 hf H locs hP hD hS ls (lv_sub hl [2, 3, 4, 5, 0] rfl)
def fX2_reckonLine (NN : Nat) (oP : Rc) (oE : Rc) (oQ : Rc) (p2 : Int32) (p3 : Int32) : Option (Rc × Rc) :=
  zGd (inb p3 96) <|
  zLet (oP 9 p3.toNatClampNeg) fun x1 =>
  zGd (inb p3 96) <|
  zLet (oP 8 p3.toNatClampNeg) fun x2 =>
  zGd (inb p2 12) <|
  zGd (inb p2 12) <|
  zLet (rs oE 1 (upd (oE 1) p2.toNatClampNeg ((oE 1 p2.toNatClampNeg) + (1 : Int32)))) fun oE_3 =>
  zB3 (fX2_sumDepth NN oP oE_3 oQ p2 p3) fun v4 oE_5 oQ_6 =>
  zJn (fun (x7 : Int32) (oE_8 : Rc) =>
      zGd (inb x2 8) <|
      zLet (rs oE_8 7 (upd (oE_8 7) x2.toNatClampNeg x7)) fun oE_10 =>
      zGd (inb p2 12) <|
      zLet (if (oE_10 3 p2.toNatClampNeg) < x7 then x7 else (oE_10 3 p2.toNatClampNeg)) fun x11 =>
      zGd (inb p2 12) <|
      zLet (rs oE_10 3 (upd (oE_10 3) p2.toNatClampNeg x11)) fun oE_12 =>
      zGd (inb p2 12) <|
      zGd (inb p2 12) <|
      zLet (rs oE_12 6 (upd (oE_12 6) p2.toNatClampNeg ((oE_12 6 p2.toNatClampNeg) ||| ((1 : Int32) <<< (x2 &&& 31))))) fun oE_13 =>
      some (oE_13, oQ_6)
    ) fun J109_9 =>
  if x1 = (-1 : Int32) then (
    zLet (rs oE_5 10 (fun _ => ((oE_5 10 0) ||| ((1 : Int32) <<< (x2 &&& 31))))) fun oE_21 =>
    J109_9 v4 oE_21
  ) else (
    zB1 (fX2_ask oE_5 p2 x1) fun oE_14 =>
    zB1 (fX2_ask oE_14 p2 x2) fun oE_15 =>
    zB1 (fX2_takeOp oE_15 p2 (63 : Int32)) fun oE_16 =>
    zGd (inb x1 8) <|
    zGd (inb x2 8) <|
    zLet (if (oE_16 7 x1.toNatClampNeg) < (oE_16 7 x2.toNatClampNeg) then (oE_16 7 x2.toNatClampNeg) else (oE_16 7 x1.toNatClampNeg)) fun x17 =>
    zLet (if v4 < x17 then x17 else v4) fun x18 =>
    zB1 (fX2_depthOfOp oE_16 (63 : Int32)) fun v19 =>
    zLet (x18 + v19) fun x20 =>
    J109_9 x20 oE_16
  )
abbrev rX2_reckonLine : Room := { frames := 3, cells := 0, slots := 0, locals := 69 }
set_option maxHeartbeats 4000000 in
set_option maxRecDepth 100000 in
theorem mtX2_reckonLine (l : Launch) (dC : Nat → ClassId) (dI : Nat → Nat → Nat) (cI cB : ClassId) (aP aE aQ : Nat → Nat) (sz : Nat) (NN : Nat) (oP : Rc) (oE : Rc) (oQ : Rc) (p2 : Int32) (p3 : Int32) {oE' : Rc} {oQ' : Rc} (hf : fX2_reckonLine NN oP oE oQ p2 p3 = some (oE', oQ')) : zMv l yX2_reckonLine (Cond.code yX2_reckonLine cX2_reckonLine 7 none :: lw_g) rX2_reckonLine (dC, dI) [(cI, .int), (cB, .byte)] [.ref (aE 0), .ref (aP 0), .int p2, .int p3] sz (kX4 cI cB aP oP ++ kX2 cI cB aE (aQ 0) oE ++ kX3 cI cB aQ oQ) (kX4 cI cB aP oP ++ kX2 cI cB aE (aQ 0) oE' ++ kX3 cI cB aQ oQ') := by
  refine zSt (cc := cX2_reckonLine) (maxL := 7) (ret := none) (own := RX2) (fun A => zQv (dC, dI) [(cI, .int), (cB, .byte)] A (kX4 cI cB aP oP ++ kX2 cI cB aE (aQ 0) oE' ++ kX3 cI cB aQ oQ')) (by decide) rfl rfl (Nat.le_of_ble_eq_true rfl) ?_
  intro p e s m below meth c ls A H locs C hK hA hP hD hS hl
  generalize hQ : MQ below (zQv (dC, dI) [(cI, .int), (cB, .byte)] A (kX4 cI cB aP oP ++ kX2 cI cB aE (aQ 0) oE' ++ kX3 cI cB aQ oQ')) _ s 0 0 A = QQ
  generalize ([.ref (aE 0), .ref (aP 0), .int p2, .int p3] : List Value).toArray = args at C hQ ⊢
  have hl : lv_has ls 7 [(0, .ref (aE 0)), (1, .ref (aP 0)), (2, .int p2), (3, .int p3)] := hl
  unfold fX2_reckonLine at hf
  refine lv_aload_n C.1.1 C.1.2.1 dX2_reckonLine_0 rfl (lv_at hl 1 rfl) ?_
  refine zGet (.ref (aP 6)) C.1 wuX4 hK hP 0 rfl rfl 9 (by decide) wfX2_75 rfl rfl dX2_reckonLine_1 ?_
  refine lv_iload_n C.1.1 C.1.2.1 dX2_reckonLine_4 rfl (lv_at hl 3 rfl) ?_
  obtain ⟨hib, hf⟩ := zGd_el hf
  refine va_iald C.1.1 C.1.2.1 hK.1 hP 6 0 rfl rfl hib dX2_reckonLine_5 ?_
  refine lv_topi (fun x1 ex1 => ?_)
  replace hf := zLet_at hf ex1
  refine lv_istore (lv' := [(4, .int x1), (0, .ref (aE 0)), (1, .ref (aP 0)), (2, .int p2), (3, .int p3)]) C.1.1 C.1.2.1 dX2_reckonLine_6 hl (by decide) rfl (fun ls hl => ?_)
  refine lv_aload_n C.1.1 C.1.2.1 dX2_reckonLine_8 rfl (lv_at hl 2 rfl) ?_
  refine zGet (.ref (aP 5)) C.1 wuX4 hK hP 0 rfl rfl 8 (by decide) wfX2_78 rfl rfl dX2_reckonLine_9 ?_
  refine lv_iload_n C.1.1 C.1.2.1 dX2_reckonLine_12 rfl (lv_at hl 4 rfl) ?_
  obtain ⟨hib, hf⟩ := zGd_el hf
  refine va_iald C.1.1 C.1.2.1 hK.1 hP 5 0 rfl rfl hib dX2_reckonLine_13 ?_
  refine lv_topi (fun x2 ex2 => ?_)
  replace hf := zLet_at hf ex2
  refine lv_istore (lv' := [(5, .int x2), (4, .int x1), (0, .ref (aE 0)), (1, .ref (aP 0)), (2, .int p2), (3, .int p3)]) C.1.1 C.1.2.1 dX2_reckonLine_14 hl (by decide) rfl (fun ls hl => ?_)
  refine lv_aload_n C.1.1 C.1.2.1 dX2_reckonLine_16 rfl (lv_at hl 2 rfl) ?_
  refine zGet (.ref (aE 2)) C.1 wuX2 hK hP 10 rfl rfl 1 (by decide) wfX2_15 rfl rfl dX2_reckonLine_17 ?_
  refine lv_iload_n C.1.1 C.1.2.1 dX2_reckonLine_20 rfl (lv_at hl 4 rfl) ?_
  refine lv_dup2_11 C.1.1 C.1.2.1 dX2_reckonLine_21 rfl rfl ?_
  obtain ⟨hib, hf⟩ := zGd_el hf
  refine va_iald C.1.1 C.1.2.1 hK.1 hP 12 0 rfl rfl hib dX2_reckonLine_22 ?_
  refine lv_iconst (v := 1) C.1.1 C.1.2.1 dX2_reckonLine_23 (by decide) ?_
  refine lv_iadd C.1.1 C.1.2.1 dX2_reckonLine_24 ?_
  obtain ⟨hib, hf⟩ := zGd_el hf
  obtain ⟨oE_3, eoE_3, hf⟩ := zLet_el hf
  refine zIast (kX4 cI cB aP oP ++ kX2 cI cB aE (aQ 0) oE_3 ++ kX3 cI cB aQ oQ) C.1 hK hP hD hS 12 0 rfl rfl hib dX2_reckonLine_25 (by rw [eoE_3]; rfl) (fun H locs hP hD hS => ?_)
  refine lv_aload_n C.1.1 C.1.2.1 dX2_reckonLine_26 rfl (lv_at hl 2 rfl) ?_
  refine lv_aload_n C.1.1 C.1.2.1 dX2_reckonLine_27 rfl (lv_at hl 3 rfl) ?_
  refine lv_iload_n C.1.1 C.1.2.1 dX2_reckonLine_28 rfl (lv_at hl 4 rfl) ?_
  refine lv_iload_n C.1.1 C.1.2.1 dX2_reckonLine_29 rfl (lv_at hl 5 rfl) ?_
  obtain ⟨v4, oE_5, oQ_6, hg, hf⟩ := zB3_el hf
  refine zCVi (As := [.ref (aP 0), .int p2, .int p3]) (rest := []) (wr := ([] : va_W)) (wn := (kX4 cI cB aP oP ++ kX2 cI cB aE (aQ 0) oE_5 ++ kX3 cI cB aQ oQ_6)) C.1 hK hA hP hD hS [0, 1, 2, 3, 4, 5, 6, 7, 8, 9, 10, 11, 12, 13, 14, 15, 16, 17, 18, 19, 20] [] [0, 1, 2, 3, 4, 5, 6, 7, 8, 9, 10, 11, 12, 13, 14, 15, 16, 17, 18, 19, 20] 10 (mtX2_sumDepth l dC dI cI cB aP aE aQ H.size NN oP oE_3 oQ p2 p3 hg) (zCwV 3 C.1 wlX2_81 wiX2_sumDepth ws_X2_sumDepth wnX2 wkX2_sumDepth rfl rfl (by decide +kernel) ⟨Nat.le_of_ble_eq_true rfl, Nat.le_of_ble_eq_true rfl⟩) rfl rfl (by decide +kernel) rfl rfl rfl rfl hl.1 (Nat.le_of_ble_eq_true rfl) dX2_reckonLine_30 ⟨Nat.zero_le _, Nat.zero_le _⟩ rfl (fun H locs hP hD hS => ?_)
  refine lv_istore (lv' := [(6, .int v4), (5, .int x2), (4, .int x1), (0, .ref (aE 0)), (1, .ref (aP 0)), (2, .int p2), (3, .int p3)]) C.1.1 C.1.2.1 dX2_reckonLine_33 hl (by decide) rfl (fun ls hl => ?_)
  refine lv_iload C.1.1 C.1.2.1 dX2_reckonLine_35 (lv_at hl 2 rfl) ?_
  refine lv_iconst (v := (-1)) C.1.1 C.1.2.1 dX2_reckonLine_37 (by decide) ?_
  obtain ⟨J109_9, eJ109_9, hf⟩ := zJn_el hf
  have hJ109_9 : ∀ (x7 : Int32) (oE_8 : Rc), J109_9 x7 oE_8 = some (oE', oQ') → ∀ (H : Heap) (locs : List Loc), va_P (dC, dI) vwCl (kX4 cI cB aP oP ++ kX2 cI cB aE (aQ 0) oE_8 ++ kX3 cI cB aQ oQ_6) H → va_D A (kX4 cI cB aP oP ++ kX2 cI cB aE (aQ 0) oE_8 ++ kX3 cI cB aQ oQ_6) → va_S A s.heap H locs → ∀ (ls : Array Slot), lv_has ls 7 [(0, .ref (aE 0)), (2, .int p2), (5, .int x2), (6, .int x7)] → W p l e rX2_reckonLine s m args below meth c H locs 0 0 QQ (F0 m 109 ls []) := by
    intro x7 oE_8 hf H locs hP hD hS ls hl
    rw [eJ109_9] at hf
    refine lv_aload_n C.1.1 C.1.2.1 dX2_reckonLine_109 rfl (lv_at hl 0 rfl) ?_
    refine zGet (.ref (aE 8)) C.1 wuX2 hK hP 10 rfl rfl 7 (by decide) wfX2_33 rfl rfl dX2_reckonLine_110 ?_
    refine lv_iload C.1.1 C.1.2.1 dX2_reckonLine_113 (lv_at hl 2 rfl) ?_
    refine lv_iload C.1.1 C.1.2.1 dX2_reckonLine_115 (lv_at hl 3 rfl) ?_
    obtain ⟨hib, hf⟩ := zGd_el hf
    obtain ⟨oE_10, eoE_10, hf⟩ := zLet_el hf
    refine zIast (kX4 cI cB aP oP ++ kX2 cI cB aE (aQ 0) oE_10 ++ kX3 cI cB aQ oQ_6) C.1 hK hP hD hS 18 0 rfl rfl hib dX2_reckonLine_117 (by rw [eoE_10]; rfl) (fun H locs hP hD hS => ?_)
    refine lv_aload_n C.1.1 C.1.2.1 dX2_reckonLine_118 rfl (lv_at hl 0 rfl) ?_
    refine zGet (.ref (aE 4)) C.1 wuX2 hK hP 10 rfl rfl 3 (by decide) wfX2_21 rfl rfl dX2_reckonLine_119 ?_
    refine lv_iload_n C.1.1 C.1.2.1 dX2_reckonLine_122 rfl (lv_at hl 1 rfl) ?_
    refine lv_aload_n C.1.1 C.1.2.1 dX2_reckonLine_123 rfl (lv_at hl 0 rfl) ?_
    refine zGet (.ref (aE 4)) C.1 wuX2 hK hP 10 rfl rfl 3 (by decide) wfX2_21 rfl rfl dX2_reckonLine_124 ?_
    refine lv_iload_n C.1.1 C.1.2.1 dX2_reckonLine_127 rfl (lv_at hl 1 rfl) ?_
    obtain ⟨hib, hf⟩ := zGd_el hf
    refine va_iald C.1.1 C.1.2.1 hK.1 hP 14 0 rfl rfl hib dX2_reckonLine_128 ?_
    refine lv_iload C.1.1 C.1.2.1 dX2_reckonLine_129 (lv_at hl 3 rfl) ?_
    refine va_mmax C.1.1 C.1.2.1 (C.1.2.2.1.trans hl.1.symm) C.1.2.2.2.1 (C.1.2.2.2.2 _ wlX2_69) (C.1.2.2.2.2 _ wtJ9_max_7cf53) (C.1.2.2.2.2 _ wnJ9) (C.1.2.2.2.2 _ wkJ9_max_7cf53) (Nat.le_of_ble_eq_true rfl) (Nat.le_of_ble_eq_true rfl) (Nat.zero_le _) (Nat.zero_le _) dX2_reckonLine_131 ?_
    refine lv_topi (fun x11 ex11 => ?_)
    replace hf := zLet_at hf ex11
    obtain ⟨hib, hf⟩ := zGd_el hf
    obtain ⟨oE_12, eoE_12, hf⟩ := zLet_el hf
    refine zIast (kX4 cI cB aP oP ++ kX2 cI cB aE (aQ 0) oE_12 ++ kX3 cI cB aQ oQ_6) C.1 hK hP hD hS 14 0 rfl rfl hib dX2_reckonLine_134 (by rw [eoE_12]; rfl) (fun H locs hP hD hS => ?_)
    refine lv_aload_n C.1.1 C.1.2.1 dX2_reckonLine_135 rfl (lv_at hl 0 rfl) ?_
    refine zGet (.ref (aE 7)) C.1 wuX2 hK hP 10 rfl rfl 6 (by decide) wfX2_30 rfl rfl dX2_reckonLine_136 ?_
    refine lv_iload_n C.1.1 C.1.2.1 dX2_reckonLine_139 rfl (lv_at hl 1 rfl) ?_
    refine lv_dup2_11 C.1.1 C.1.2.1 dX2_reckonLine_140 rfl rfl ?_
    obtain ⟨hib, hf⟩ := zGd_el hf
    refine va_iald C.1.1 C.1.2.1 hK.1 hP 17 0 rfl rfl hib dX2_reckonLine_141 ?_
    refine lv_iconst (v := 1) C.1.1 C.1.2.1 dX2_reckonLine_142 (by decide) ?_
    refine lv_iload C.1.1 C.1.2.1 dX2_reckonLine_143 (lv_at hl 2 rfl) ?_
    refine lv_ishl C.1.1 C.1.2.1 dX2_reckonLine_145 ?_
    refine lv_ior C.1.1 C.1.2.1 dX2_reckonLine_146 ?_
    obtain ⟨hib, hf⟩ := zGd_el hf
    obtain ⟨oE_13, eoE_13, hf⟩ := zLet_el hf
    refine zIast (kX4 cI cB aP oP ++ kX2 cI cB aE (aQ 0) oE_13 ++ kX3 cI cB aQ oQ_6) C.1 hK hP hD hS 17 0 rfl rfl hib dX2_reckonLine_147 (by rw [eoE_13]; rfl) (fun H locs hP hD hS => ?_)
    cases hf
    rw [← hQ]
    exact zRv C hK hP hD hS dX2_reckonLine_148
  refine lv_icmp_ne (tgt := 57) C.1.1 C.1.2.1 dX2_reckonLine_38 (by decide) (fun hc => ?_) (fun hc => ?_)
  · replace hf := zIf_f hf hc
    refine lv_aload_n C.1.1 C.1.2.1 dX2_reckonLine_57 rfl (lv_at hl 3 rfl) ?_
    refine lv_iload_n C.1.1 C.1.2.1 dX2_reckonLine_58 rfl (lv_at hl 5 rfl) ?_
    refine lv_iload C.1.1 C.1.2.1 dX2_reckonLine_59 (lv_at hl 2 rfl) ?_
    obtain ⟨oE_14, hg, hf⟩ := zB1_el hf
    refine zCVv (As := [.int p2, .int x1]) (rest := []) (wr := (kX4 cI cB aP oP ++ kX3 cI cB aQ oQ_6)) (wn := (kX4 cI cB aP oP ++ kX2 cI cB aE (aQ 0) oE_14 ++ kX3 cI cB aQ oQ_6)) C.1 hK hA hP hD hS [10, 11, 12, 13, 14, 15, 16, 17, 18] [0, 1, 2, 3, 4, 5, 6, 7, 8, 9, 19, 20] [0, 1, 2, 3, 4, 5, 6, 7, 8, 9, 12, 13, 14, 15, 16, 17, 18, 19, 20, 10, 11] 0 (mtX2_ask l dC dI cI cB aE aQ H.size oE_5 p2 x1 hg) (zCwV 2 C.1 wlX2_85 wiX2_ask ws_X2_ask wnX2 wkX2_ask rfl rfl (by decide +kernel) ⟨Nat.le_of_ble_eq_true rfl, Nat.le_of_ble_eq_true rfl⟩) rfl rfl (by decide +kernel) rfl rfl rfl rfl hl.1 (Nat.le_of_ble_eq_true rfl) dX2_reckonLine_61 ⟨Nat.zero_le _, Nat.zero_le _⟩ rfl (fun H locs hP hD hS => ?_)
    refine lv_aload_n C.1.1 C.1.2.1 dX2_reckonLine_64 rfl (lv_at hl 3 rfl) ?_
    refine lv_iload_n C.1.1 C.1.2.1 dX2_reckonLine_65 rfl (lv_at hl 5 rfl) ?_
    refine lv_iload C.1.1 C.1.2.1 dX2_reckonLine_66 (lv_at hl 1 rfl) ?_
    obtain ⟨oE_15, hg, hf⟩ := zB1_el hf
    refine zCVv (As := [.int p2, .int x2]) (rest := []) (wr := (kX4 cI cB aP oP ++ kX3 cI cB aQ oQ_6)) (wn := (kX4 cI cB aP oP ++ kX2 cI cB aE (aQ 0) oE_15 ++ kX3 cI cB aQ oQ_6)) C.1 hK hA hP hD hS [10, 11, 12, 13, 14, 15, 16, 17, 18] [0, 1, 2, 3, 4, 5, 6, 7, 8, 9, 19, 20] [0, 1, 2, 3, 4, 5, 6, 7, 8, 9, 12, 13, 14, 15, 16, 17, 18, 19, 20, 10, 11] 0 (mtX2_ask l dC dI cI cB aE aQ H.size oE_14 p2 x2 hg) (zCwV 2 C.1 wlX2_85 wiX2_ask ws_X2_ask wnX2 wkX2_ask rfl rfl (by decide +kernel) ⟨Nat.le_of_ble_eq_true rfl, Nat.le_of_ble_eq_true rfl⟩) rfl rfl (by decide +kernel) rfl rfl rfl rfl hl.1 (Nat.le_of_ble_eq_true rfl) dX2_reckonLine_68 ⟨Nat.zero_le _, Nat.zero_le _⟩ rfl (fun H locs hP hD hS => ?_)
    refine lv_aload_n C.1.1 C.1.2.1 dX2_reckonLine_71 rfl (lv_at hl 3 rfl) ?_
    refine lv_iload_n C.1.1 C.1.2.1 dX2_reckonLine_72 rfl (lv_at hl 5 rfl) ?_
    refine lv_bipush (v := 63) C.1.1 C.1.2.1 dX2_reckonLine_73 (by decide) ?_
    obtain ⟨oE_16, hg, hf⟩ := zB1_el hf
    refine zCVv (As := [.int p2, .int (63 : Int32)]) (rest := []) (wr := (kX4 cI cB aP oP ++ kX3 cI cB aQ oQ_6)) (wn := (kX4 cI cB aP oP ++ kX2 cI cB aE (aQ 0) oE_16 ++ kX3 cI cB aQ oQ_6)) C.1 hK hA hP hD hS [10, 11, 12, 13, 14, 15, 16, 17, 18] [0, 1, 2, 3, 4, 5, 6, 7, 8, 9, 19, 20] [0, 1, 2, 3, 4, 5, 6, 7, 8, 9, 12, 13, 14, 15, 16, 17, 18, 19, 20, 10, 11] 0 (mtX2_takeOp l dC dI cI cB aE aQ H.size oE_15 p2 (63 : Int32) hg) (zCwV 2 C.1 wlX2_89 wiX2_takeOp ws_X2_takeOp wnX2 wkX2_takeOp rfl rfl (by decide +kernel) ⟨Nat.le_of_ble_eq_true rfl, Nat.le_of_ble_eq_true rfl⟩) rfl rfl (by decide +kernel) rfl rfl rfl rfl hl.1 (Nat.le_of_ble_eq_true rfl) dX2_reckonLine_75 ⟨Nat.zero_le _, Nat.zero_le _⟩ rfl (fun H locs hP hD hS => ?_)
    refine lv_iload C.1.1 C.1.2.1 dX2_reckonLine_78 (lv_at hl 0 rfl) ?_
    refine lv_aload_n C.1.1 C.1.2.1 dX2_reckonLine_80 rfl (lv_at hl 3 rfl) ?_
    refine zGet (.ref (aE 8)) C.1 wuX2 hK hP 10 rfl rfl 7 (by decide) wfX2_33 rfl rfl dX2_reckonLine_81 ?_
    refine lv_iload C.1.1 C.1.2.1 dX2_reckonLine_84 (lv_at hl 2 rfl) ?_
    obtain ⟨hib, hf⟩ := zGd_el hf
    refine va_iald C.1.1 C.1.2.1 hK.1 hP 18 0 rfl rfl hib dX2_reckonLine_86 ?_
    refine lv_aload_n C.1.1 C.1.2.1 dX2_reckonLine_87 rfl (lv_at hl 3 rfl) ?_
    refine zGet (.ref (aE 8)) C.1 wuX2 hK hP 10 rfl rfl 7 (by decide) wfX2_33 rfl rfl dX2_reckonLine_88 ?_
    refine lv_iload C.1.1 C.1.2.1 dX2_reckonLine_91 (lv_at hl 1 rfl) ?_
    obtain ⟨hib, hf⟩ := zGd_el hf
    refine va_iald C.1.1 C.1.2.1 hK.1 hP 18 0 rfl rfl hib dX2_reckonLine_93 ?_
    refine va_mmax C.1.1 C.1.2.1 (C.1.2.2.1.trans hl.1.symm) C.1.2.2.2.1 (C.1.2.2.2.2 _ wlX2_69) (C.1.2.2.2.2 _ wtJ9_max_7cf53) (C.1.2.2.2.2 _ wnJ9) (C.1.2.2.2.2 _ wkJ9_max_7cf53) (Nat.le_of_ble_eq_true rfl) (Nat.le_of_ble_eq_true rfl) (Nat.zero_le _) (Nat.zero_le _) dX2_reckonLine_94 ?_
    refine lv_topi (fun x17 ex17 => ?_)
    replace hf := zLet_at hf ex17
    refine va_mmax C.1.1 C.1.2.1 (C.1.2.2.1.trans hl.1.symm) C.1.2.2.2.1 (C.1.2.2.2.2 _ wlX2_69) (C.1.2.2.2.2 _ wtJ9_max_7cf53) (C.1.2.2.2.2 _ wnJ9) (C.1.2.2.2.2 _ wkJ9_max_7cf53) (Nat.le_of_ble_eq_true rfl) (Nat.le_of_ble_eq_true rfl) (Nat.zero_le _) (Nat.zero_le _) dX2_reckonLine_97 ?_
    refine lv_topi (fun x18 ex18 => ?_)
    replace hf := zLet_at hf ex18
    refine lv_aload_n C.1.1 C.1.2.1 dX2_reckonLine_100 rfl (lv_at hl 3 rfl) ?_
    refine lv_bipush (v := 63) C.1.1 C.1.2.1 dX2_reckonLine_101 (by decide) ?_
    obtain ⟨v19, hg, hf⟩ := zB1_el hf
    refine zCVi (As := [.int (63 : Int32)]) (rest := [.int x18]) (wr := (kX4 cI cB aP oP ++ kX3 cI cB aQ oQ_6)) (wn := (kX4 cI cB aP oP ++ kX2 cI cB aE (aQ 0) oE_16 ++ kX3 cI cB aQ oQ_6)) C.1 hK hA hP hD hS [10, 11, 12, 13, 14, 15, 16, 17, 18] [0, 1, 2, 3, 4, 5, 6, 7, 8, 9, 19, 20] [0, 1, 2, 3, 4, 5, 6, 7, 8, 9, 12, 13, 14, 15, 16, 17, 18, 19, 20, 10, 11] 0 (mtX2_depthOfOp l dC dI cI cB aE aQ H.size oE_16 (63 : Int32) hg) (zCwV 1 C.1 wlX2_92 wiX2_depthOfOp ws_X2_depthOfOp wnX2 wkX2_depthOfOp rfl rfl (by decide +kernel) ⟨Nat.le_of_ble_eq_true rfl, Nat.le_of_ble_eq_true rfl⟩) rfl rfl (by decide +kernel) rfl rfl rfl rfl hl.1 (Nat.le_of_ble_eq_true rfl) dX2_reckonLine_103 ⟨Nat.zero_le _, Nat.zero_le _⟩ rfl (fun H locs hP hD hS => ?_)
    refine lv_iadd C.1.1 C.1.2.1 dX2_reckonLine_106 ?_
    refine lv_topi (fun x20 ex20 => ?_)
    replace hf := zLet_at hf ex20
    refine lv_istore (lv' := [(6, .int x20), (5, .int x2), (4, .int x1), (0, .ref (aE 0)), (1, .ref (aP 0)), (2, .int p2), (3, .int p3)]) C.1.1 C.1.2.1 dX2_reckonLine_107 hl (by decide) rfl (fun ls hl => ?_)
    exact hJ109_9 x20 oE_16 hf H locs hP hD hS ls (lv_sub hl [3, 5, 1, 0] rfl)
  · replace hf := zIf_t hf hc
    refine lv_aload_n C.1.1 C.1.2.1 dX2_reckonLine_41 rfl (lv_at hl 3 rfl) ?_
    refine lv_dup C.1.1 C.1.2.1 dX2_reckonLine_42 rfl ?_
    refine zGet (.int (oE_5 10 0)) C.1 wuX2 hK hP 10 rfl rfl 10 (by decide) wfX2_47 rfl rfl dX2_reckonLine_43 ?_
    refine lv_iconst (v := 1) C.1.1 C.1.2.1 dX2_reckonLine_46 (by decide) ?_
    refine lv_iload C.1.1 C.1.2.1 dX2_reckonLine_47 (lv_at hl 1 rfl) ?_
    refine lv_ishl C.1.1 C.1.2.1 dX2_reckonLine_49 ?_
    refine lv_ior C.1.1 C.1.2.1 dX2_reckonLine_50 ?_
    obtain ⟨oE_21, eoE_21, hf⟩ := zLet_el hf
    refine zPut (ty := .int) (kX4 cI cB aP oP ++ kX2 cI cB aE (aQ 0) oE_21 ++ kX3 cI cB aQ oQ_6) C.1 wuX2 tyX2 tyX2_ok nmX2 hK hP hD hS 10 rfl rfl 10 (by decide) wfX2_47 rfl rfl (by decide +kernel) rfl rfl (Nat.le_of_ble_eq_true rfl) dX2_reckonLine_51 (by rw [eoE_21]; rfl) (fun H locs hP hD hS => ?_)
    refine lv_goto (tgt := 109) C.1.1 C.1.2.1 dX2_reckonLine_54 (by decide) ?_
    exact hJ109_9 v4 oE_21 hf H locs hP hD hS ls (lv_sub hl [3, 5, 1, 0] rfl)
def fX2_reckon_L32 (oP : Rc) (NN : Nat) (x5 : Int32) (J61_13 : Rc → Rc → Option (Rc × Rc)) (n : Nat) (x21 : Int32) (oE_22 : Rc) (oQ_23 : Rc) : Option (Rc × Rc) := zLp3 (fun (go24 : Int32 → Rc → Rc → Option (Rc × Rc)) (x21 : Int32) (oE_22 : Rc) (oQ_23 : Rc) =>
    zGd (inb (x5 + (1 : Int32)) 13) <|
    if (oP 7 (x5 + (1 : Int32)).toNatClampNeg) ≤ x21 then (
      J61_13 oE_22 oQ_23
    ) else (
      zB2 (fX2_reckonLine NN oP oE_22 oQ_23 x5 x21) fun oE_25 oQ_26 =>
      zLet (x21 + 1) fun x27 =>
      go24 x27 oE_25 oQ_26
    )
  ) n x21 oE_22 oQ_23
def fX2_reckon_L8 (oP : Rc) (p3 : Int32) (NN : Nat) (J129_4 : Rc → Rc → Option (Rc × Rc)) (n : Nat) (x5 : Int32) (oE_6 : Rc) (oQ_7 : Rc) : Option (Rc × Rc) := zLp3 (fun (go8 : Int32 → Rc → Rc → Option (Rc × Rc)) (x5 : Int32) (oE_6 : Rc) (oQ_7 : Rc) =>
    if (oP 0 0) ≤ x5 then (
      J129_4 oE_6 oQ_7
    ) else (
      zB1 (fX2_beginBlock NN oE_6 x5) fun oE_9 =>
      zGd (inb x5 13) <|
      zLet (oP 7 x5.toNatClampNeg) fun x10 =>
      zJn (fun (oE_11 : Rc) (oQ_12 : Rc) =>
          zGd (inb x5 12) <|
          zLet (oP 6 x5.toNatClampNeg) fun x14 =>
          zGd (inb x5 12) <|
          zGd (inb x5 12) <|
          zLet (rs oE_11 1 (upd (oE_11 1) x5.toNatClampNeg ((oE_11 1 x5.toNatClampNeg) * x14))) fun oE_15 =>
          zJn (fun (t16 : Int32) =>
              zLet (if (1 : Int32) < t16 then t16 else (1 : Int32)) fun x18 =>
              zGd (inb x5 12) <|
              zLet (rs oE_15 4 (upd (oE_15 4) x5.toNatClampNeg ((1 : Int32) + (x14 * x18)))) fun oE_19 =>
              zLet (x5 + 1) fun x20 =>
              go8 x20 oE_19 oQ_12
            ) fun J103_17 =>
          if p3 ≤ 0 then (
            J103_17 (1 : Int32)
          ) else (
            zGd (inb x5 12) <|
            zGd (¬ p3 = 0) <|
            J103_17 ((((oE_15 3 x5.toNatClampNeg) + p3) - (1 : Int32)) / p3)
          )
        ) fun J61_13 =>
      fX2_reckon_L32 oP NN x5 J61_13 NN x10 oE_9 oQ_7
    )
  ) n x5 oE_6 oQ_7
def fX2_reckon (NN : Nat) (oP : Rc) (oE : Rc) (oQ : Rc) (p2 : Int32) (p3 : Int32) : Option (Rc × Rc) :=
  zLet (rs oE 9 (fun _ => p2)) fun oE_1 =>
  zJn (fun (oE_2 : Rc) (oQ_3 : Rc) =>
      some (oE_2, oQ_3)
    ) fun J129_4 =>
  fX2_reckon_L8 oP p3 NN J129_4 NN (0 : Int32) oE_1 oQ
abbrev rX2_reckon : Room := { frames := 4, cells := 0, slots := 0, locals := 95 }
set_option maxHeartbeats 4000000 in
set_option maxRecDepth 100000 in
theorem mtX2_reckon (l : Launch) (dC : Nat → ClassId) (dI : Nat → Nat → Nat) (cI cB : ClassId) (aP aE aQ : Nat → Nat) (sz : Nat) (NN : Nat) (oP : Rc) (oE : Rc) (oQ : Rc) (p2 : Int32) (p3 : Int32) {oE' : Rc} {oQ' : Rc} (hf : fX2_reckon NN oP oE oQ p2 p3 = some (oE', oQ')) : zMv l yX2_reckon (Cond.code yX2_reckon cX2_reckon 7 none :: lw_g) rX2_reckon (dC, dI) [(cI, .int), (cB, .byte)] [.ref (aE 0), .ref (aP 0), .int p2, .int p3] sz (kX4 cI cB aP oP ++ kX2 cI cB aE (aQ 0) oE ++ kX3 cI cB aQ oQ) (kX4 cI cB aP oP ++ kX2 cI cB aE (aQ 0) oE' ++ kX3 cI cB aQ oQ') := by
  refine zSt (cc := cX2_reckon) (maxL := 7) (ret := none) (own := RX2) (fun A => zQv (dC, dI) [(cI, .int), (cB, .byte)] A (kX4 cI cB aP oP ++ kX2 cI cB aE (aQ 0) oE' ++ kX3 cI cB aQ oQ')) (by decide) rfl rfl (Nat.le_of_ble_eq_true rfl) ?_
  intro p e s m below meth c ls A H locs C hK hA hP hD hS hl
  generalize hQ : MQ below (zQv (dC, dI) [(cI, .int), (cB, .byte)] A (kX4 cI cB aP oP ++ kX2 cI cB aE (aQ 0) oE' ++ kX3 cI cB aQ oQ')) _ s 0 0 A = QQ
  generalize ([.ref (aE 0), .ref (aP 0), .int p2, .int p3] : List Value).toArray = args at C hQ ⊢
  have hl : lv_has ls 7 [(0, .ref (aE 0)), (1, .ref (aP 0)), (2, .int p2), (3, .int p3)] := hl
  unfold fX2_reckon at hf
  refine lv_aload_n C.1.1 C.1.2.1 dX2_reckon_0 rfl (lv_at hl 0 rfl) ?_
  refine lv_iload_n C.1.1 C.1.2.1 dX2_reckon_1 rfl (lv_at hl 2 rfl) ?_
  obtain ⟨oE_1, eoE_1, hf⟩ := zLet_el hf
  refine zPut (ty := .int) (kX4 cI cB aP oP ++ kX2 cI cB aE (aQ 0) oE_1 ++ kX3 cI cB aQ oQ) C.1 wuX2 tyX2 tyX2_ok nmX2 hK hP hD hS 10 rfl rfl 9 (by decide) wfX2_43 rfl rfl (by decide +kernel) rfl rfl (Nat.le_of_ble_eq_true rfl) dX2_reckon_2 (by rw [eoE_1]; rfl) (fun H locs hP hD hS => ?_)
  refine lv_iconst (v := 0) C.1.1 C.1.2.1 dX2_reckon_5 (by decide) ?_
  refine lv_istore (lv' := [(4, .int (0 : Int32)), (0, .ref (aE 0)), (1, .ref (aP 0)), (2, .int p2), (3, .int p3)]) C.1.1 C.1.2.1 dX2_reckon_6 hl (by decide) rfl (fun ls hl => ?_)
  obtain ⟨J129_4, eJ129_4, hf⟩ := zJn_el hf
  have hJ129_4 : ∀ (oE_2 : Rc) (oQ_3 : Rc), J129_4 oE_2 oQ_3 = some (oE', oQ') → ∀ (H : Heap) (locs : List Loc), va_P (dC, dI) vwCl (kX4 cI cB aP oP ++ kX2 cI cB aE (aQ 0) oE_2 ++ kX3 cI cB aQ oQ_3) H → va_D A (kX4 cI cB aP oP ++ kX2 cI cB aE (aQ 0) oE_2 ++ kX3 cI cB aQ oQ_3) → va_S A s.heap H locs → ∀ (ls : Array Slot), lv_has ls 7 [] → W p l e rX2_reckon s m args below meth c H locs 0 0 QQ (F0 m 129 ls []) := by
    intro oE_2 oQ_3 hf H locs hP hD hS ls hl
    rw [eJ129_4] at hf
    cases hf
    rw [← hQ]
    exact zRv C hK hP hD hS dX2_reckon_129
  refine zLp3_ind (o := (oE', oQ')) (P := fun (x5 : Int32) (oE_6 : Rc) (oQ_7 : Rc) => ∀ (H : Heap) (locs : List Loc), va_P (dC, dI) vwCl (kX4 cI cB aP oP ++ kX2 cI cB aE (aQ 0) oE_6 ++ kX3 cI cB aQ oQ_7) H → va_D A (kX4 cI cB aP oP ++ kX2 cI cB aE (aQ 0) oE_6 ++ kX3 cI cB aQ oQ_7) → va_S A s.heap H locs → ∀ (ls : Array Slot), lv_has ls 7 [(0, .ref (aE 0)), (1, .ref (aP 0)), (3, .int p3), (4, .int x5)] → W p l e rX2_reckon s m args below meth c H locs 0 0 QQ (F0 m 8 ls [])) (fun go8 ihgo8 x5 oE_6 oQ_7 hf H locs hP hD hS ls hl => ?_) _ (0 : Int32) oE_1 oQ hf H locs hP hD hS ls (lv_sub hl [1, 2, 4, 0] rfl)
  refine lv_iload C.1.1 C.1.2.1 dX2_reckon_8 (lv_at hl 3 rfl) ?_
  refine lv_aload_n C.1.1 C.1.2.1 dX2_reckon_10 rfl (lv_at hl 1 rfl) ?_
  refine zGet (.int (oP 0 0)) C.1 wuX4 hK hP 0 rfl rfl 0 (by decide) wfX2_50 rfl rfl dX2_reckon_11 ?_
  refine lv_icmp_ge (tgt := 129) C.1.1 C.1.2.1 dX2_reckon_14 (by decide) (fun hc => ?_) (fun hc => ?_)
  · replace hf := zIf_t hf hc
    exact hJ129_4 oE_6 oQ_7 hf H locs hP hD hS ls (lv_sub hl [] rfl)
  · replace hf := zIf_f hf hc
    refine lv_aload_n C.1.1 C.1.2.1 dX2_reckon_17 rfl (lv_at hl 0 rfl) ?_
    refine lv_iload C.1.1 C.1.2.1 dX2_reckon_18 (lv_at hl 3 rfl) ?_
    obtain ⟨oE_9, hg, hf⟩ := zB1_el hf
    refine zCVv (As := [.int x5]) (rest := []) (wr := (kX4 cI cB aP oP ++ kX3 cI cB aQ oQ_7)) (wn := (kX4 cI cB aP oP ++ kX2 cI cB aE (aQ 0) oE_9 ++ kX3 cI cB aQ oQ_7)) C.1 hK hA hP hD hS [10, 11, 12, 13, 14, 15, 16, 17, 18] [0, 1, 2, 3, 4, 5, 6, 7, 8, 9, 19, 20] [0, 1, 2, 3, 4, 5, 6, 7, 8, 9, 12, 13, 14, 15, 16, 17, 18, 19, 20, 10, 11] 0 (mtX2_beginBlock l dC dI cI cB aE aQ H.size NN oE_6 x5 hg) (zCwV 1 C.1 wlX2_55 wiX2_beginBlock ws_X2_beginBlock wnX2 wkX2_beginBlock rfl rfl (by decide +kernel) ⟨Nat.le_of_ble_eq_true rfl, Nat.le_of_ble_eq_true rfl⟩) rfl rfl (by decide +kernel) rfl rfl rfl rfl hl.1 (Nat.le_of_ble_eq_true rfl) dX2_reckon_20 ⟨Nat.zero_le _, Nat.zero_le _⟩ rfl (fun H locs hP hD hS => ?_)
    refine lv_aload_n C.1.1 C.1.2.1 dX2_reckon_23 rfl (lv_at hl 1 rfl) ?_
    refine zGet (.ref (aP 4)) C.1 wuX4 hK hP 0 rfl rfl 7 (by decide) wfX2_59 rfl rfl dX2_reckon_24 ?_
    refine lv_iload C.1.1 C.1.2.1 dX2_reckon_27 (lv_at hl 3 rfl) ?_
    obtain ⟨hib, hf⟩ := zGd_el hf
    refine va_iald C.1.1 C.1.2.1 hK.1 hP 4 0 rfl rfl hib dX2_reckon_29 ?_
    refine lv_topi (fun x10 ex10 => ?_)
    replace hf := zLet_at hf ex10
    refine lv_istore (lv' := [(5, .int x10), (0, .ref (aE 0)), (1, .ref (aP 0)), (3, .int p3), (4, .int x5)]) C.1.1 C.1.2.1 dX2_reckon_30 hl (by decide) rfl (fun ls hl => ?_)
    obtain ⟨J61_13, eJ61_13, hf⟩ := zJn_el hf
    have hJ61_13 : ∀ (oE_11 : Rc) (oQ_12 : Rc), J61_13 oE_11 oQ_12 = some (oE', oQ') → ∀ (H : Heap) (locs : List Loc), va_P (dC, dI) vwCl (kX4 cI cB aP oP ++ kX2 cI cB aE (aQ 0) oE_11 ++ kX3 cI cB aQ oQ_12) H → va_D A (kX4 cI cB aP oP ++ kX2 cI cB aE (aQ 0) oE_11 ++ kX3 cI cB aQ oQ_12) → va_S A s.heap H locs → ∀ (ls : Array Slot), lv_has ls 7 [(0, .ref (aE 0)), (1, .ref (aP 0)), (3, .int p3), (4, .int x5)] → W p l e rX2_reckon s m args below meth c H locs 0 0 QQ (F0 m 61 ls []) := by
      intro oE_11 oQ_12 hf H locs hP hD hS ls hl
      rw [eJ61_13] at hf
      refine lv_aload_n C.1.1 C.1.2.1 dX2_reckon_61 rfl (lv_at hl 1 rfl) ?_
      refine zGet (.ref (aP 3)) C.1 wuX4 hK hP 0 rfl rfl 6 (by decide) wfX2_66 rfl rfl dX2_reckon_62 ?_
      refine lv_iload C.1.1 C.1.2.1 dX2_reckon_65 (lv_at hl 3 rfl) ?_
      obtain ⟨hib, hf⟩ := zGd_el hf
      refine va_iald C.1.1 C.1.2.1 hK.1 hP 3 0 rfl rfl hib dX2_reckon_67 ?_
      refine lv_topi (fun x14 ex14 => ?_)
      replace hf := zLet_at hf ex14
      refine lv_istore (lv' := [(5, .int x14), (0, .ref (aE 0)), (1, .ref (aP 0)), (3, .int p3), (4, .int x5)]) C.1.1 C.1.2.1 dX2_reckon_68 hl (by decide) rfl (fun ls hl => ?_)
      refine lv_aload_n C.1.1 C.1.2.1 dX2_reckon_70 rfl (lv_at hl 1 rfl) ?_
      refine zGet (.ref (aE 2)) C.1 wuX2 hK hP 10 rfl rfl 1 (by decide) wfX2_15 rfl rfl dX2_reckon_71 ?_
      refine lv_iload C.1.1 C.1.2.1 dX2_reckon_74 (lv_at hl 4 rfl) ?_
      refine lv_dup2_11 C.1.1 C.1.2.1 dX2_reckon_76 rfl rfl ?_
      obtain ⟨hib, hf⟩ := zGd_el hf
      refine va_iald C.1.1 C.1.2.1 hK.1 hP 12 0 rfl rfl hib dX2_reckon_77 ?_
      refine lv_iload C.1.1 C.1.2.1 dX2_reckon_78 (lv_at hl 0 rfl) ?_
      refine lv_imul C.1.1 C.1.2.1 dX2_reckon_80 ?_
      obtain ⟨hib, hf⟩ := zGd_el hf
      obtain ⟨oE_15, eoE_15, hf⟩ := zLet_el hf
      refine zIast (kX4 cI cB aP oP ++ kX2 cI cB aE (aQ 0) oE_15 ++ kX3 cI cB aQ oQ_12) C.1 hK hP hD hS 12 0 rfl rfl hib dX2_reckon_81 (by rw [eoE_15]; rfl) (fun H locs hP hD hS => ?_)
      refine lv_iload_n C.1.1 C.1.2.1 dX2_reckon_82 rfl (lv_at hl 3 rfl) ?_
      obtain ⟨J103_17, eJ103_17, hf⟩ := zJn_el hf
      have hJ103_17 : ∀ (t16 : Int32), J103_17 t16 = some (oE', oQ') → ∀ (H : Heap) (locs : List Loc), va_P (dC, dI) vwCl (kX4 cI cB aP oP ++ kX2 cI cB aE (aQ 0) oE_15 ++ kX3 cI cB aQ oQ_12) H → va_D A (kX4 cI cB aP oP ++ kX2 cI cB aE (aQ 0) oE_15 ++ kX3 cI cB aQ oQ_12) → va_S A s.heap H locs → ∀ (ls : Array Slot), lv_has ls 7 [(0, .ref (aE 0)), (1, .ref (aP 0)), (3, .int p3), (4, .int x5), (5, .int x14)] → W p l e rX2_reckon s m args below meth c H locs 0 0 QQ (F0 m 103 ls [.int t16]) := by
        intro t16 hf H locs hP hD hS ls hl
        rw [eJ103_17] at hf
        refine lv_istore (lv' := [(6, .int t16), (0, .ref (aE 0)), (1, .ref (aP 0)), (3, .int p3), (4, .int x5), (5, .int x14)]) C.1.1 C.1.2.1 dX2_reckon_103 hl (by decide) rfl (fun ls hl => ?_)
        refine lv_aload_n C.1.1 C.1.2.1 dX2_reckon_105 rfl (lv_at hl 1 rfl) ?_
        refine zGet (.ref (aE 5)) C.1 wuX2 hK hP 10 rfl rfl 4 (by decide) wfX2_24 rfl rfl dX2_reckon_106 ?_
        refine lv_iload C.1.1 C.1.2.1 dX2_reckon_109 (lv_at hl 4 rfl) ?_
        refine lv_iconst (v := 1) C.1.1 C.1.2.1 dX2_reckon_111 (by decide) ?_
        refine lv_iload C.1.1 C.1.2.1 dX2_reckon_112 (lv_at hl 5 rfl) ?_
        refine lv_iconst (v := 1) C.1.1 C.1.2.1 dX2_reckon_114 (by decide) ?_
        refine lv_iload C.1.1 C.1.2.1 dX2_reckon_115 (lv_at hl 0 rfl) ?_
        refine va_mmax C.1.1 C.1.2.1 (C.1.2.2.1.trans hl.1.symm) C.1.2.2.2.1 (C.1.2.2.2.2 _ wlX2_69) (C.1.2.2.2.2 _ wtJ9_max_7cf53) (C.1.2.2.2.2 _ wnJ9) (C.1.2.2.2.2 _ wkJ9_max_7cf53) (Nat.le_of_ble_eq_true rfl) (Nat.le_of_ble_eq_true rfl) (Nat.zero_le _) (Nat.zero_le _) dX2_reckon_117 ?_
        refine lv_topi (fun x18 ex18 => ?_)
        replace hf := zLet_at hf ex18
        refine lv_imul C.1.1 C.1.2.1 dX2_reckon_120 ?_
        refine lv_iadd C.1.1 C.1.2.1 dX2_reckon_121 ?_
        obtain ⟨hib, hf⟩ := zGd_el hf
        obtain ⟨oE_19, eoE_19, hf⟩ := zLet_el hf
        refine zIast (kX4 cI cB aP oP ++ kX2 cI cB aE (aQ 0) oE_19 ++ kX3 cI cB aQ oQ_12) C.1 hK hP hD hS 15 0 rfl rfl hib dX2_reckon_122 (by rw [eoE_19]; rfl) (fun H locs hP hD hS => ?_)
        obtain ⟨x20, ex20, hf⟩ := zLet_el hf
        refine lv_iinc (v := x20) (lv' := [(4, .int x20), (6, .int t16), (0, .ref (aE 0)), (1, .ref (aP 0)), (3, .int p3), (5, .int x14)]) C.1.1 C.1.2.1 dX2_reckon_123 hl (k := 4) rfl (by rw [ex20]; rfl) (by decide) rfl (fun ls hl => ?_)
        refine lv_goto (tgt := 8) C.1.1 C.1.2.1 dX2_reckon_126 (by decide) ?_
        exact ihgo8 x20 oE_19 oQ_12 hf H locs hP hD hS ls (lv_sub hl [2, 3, 4, 0] rfl)
      refine lv_if_le (tgt := 102) C.1.1 C.1.2.1 dX2_reckon_83 (by decide) (fun hc => ?_) (fun hc => ?_)
      · replace hf := zIf_t hf hc
        refine lv_iconst (v := 1) C.1.1 C.1.2.1 dX2_reckon_102 (by decide) ?_
        exact hJ103_17 (1 : Int32) hf H locs hP hD hS ls (lv_sub hl [1, 2, 3, 4, 0] rfl)
      · replace hf := zIf_f hf hc
        refine lv_aload_n C.1.1 C.1.2.1 dX2_reckon_86 rfl (lv_at hl 1 rfl) ?_
        refine zGet (.ref (aE 4)) C.1 wuX2 hK hP 10 rfl rfl 3 (by decide) wfX2_21 rfl rfl dX2_reckon_87 ?_
        refine lv_iload C.1.1 C.1.2.1 dX2_reckon_90 (lv_at hl 4 rfl) ?_
        obtain ⟨hib, hf⟩ := zGd_el hf
        refine va_iald C.1.1 C.1.2.1 hK.1 hP 14 0 rfl rfl hib dX2_reckon_92 ?_
        refine lv_iload_n C.1.1 C.1.2.1 dX2_reckon_93 rfl (lv_at hl 3 rfl) ?_
        refine lv_iadd C.1.1 C.1.2.1 dX2_reckon_94 ?_
        refine lv_iconst (v := 1) C.1.1 C.1.2.1 dX2_reckon_95 (by decide) ?_
        refine lv_isub C.1.1 C.1.2.1 dX2_reckon_96 ?_
        refine lv_iload_n C.1.1 C.1.2.1 dX2_reckon_97 rfl (lv_at hl 3 rfl) ?_
        obtain ⟨hne, hf⟩ := zGd_el hf
        refine lv_idiv C.1.1 C.1.2.1 dX2_reckon_98 hne ?_
        refine lv_goto (tgt := 103) C.1.1 C.1.2.1 dX2_reckon_99 (by decide) ?_
        exact hJ103_17 ((((oE_15 3 x5.toNatClampNeg) + p3) - (1 : Int32)) / p3) hf H locs hP hD hS ls (lv_sub hl [1, 2, 3, 4, 0] rfl)
    refine zLp3_ind (o := (oE', oQ')) (P := fun (x21 : Int32) (oE_22 : Rc) (oQ_23 : Rc) => ∀ (H : Heap) (locs : List Loc), va_P (dC, dI) vwCl (kX4 cI cB aP oP ++ kX2 cI cB aE (aQ 0) oE_22 ++ kX3 cI cB aQ oQ_23) H → va_D A (kX4 cI cB aP oP ++ kX2 cI cB aE (aQ 0) oE_22 ++ kX3 cI cB aQ oQ_23) → va_S A s.heap H locs → ∀ (ls : Array Slot), lv_has ls 7 [(0, .ref (aE 0)), (1, .ref (aP 0)), (3, .int p3), (4, .int x5), (5, .int x21)] → W p l e rX2_reckon s m args below meth c H locs 0 0 QQ (F0 m 32 ls [])) (fun go24 ihgo24 x21 oE_22 oQ_23 hf H locs hP hD hS ls hl => ?_) _ x10 oE_9 oQ_7 hf H locs hP hD hS ls (lv_sub hl [1, 2, 3, 4, 0] rfl)
    refine lv_iload C.1.1 C.1.2.1 dX2_reckon_32 (lv_at hl 4 rfl) ?_
    refine lv_aload_n C.1.1 C.1.2.1 dX2_reckon_34 rfl (lv_at hl 1 rfl) ?_
    refine zGet (.ref (aP 4)) C.1 wuX4 hK hP 0 rfl rfl 7 (by decide) wfX2_59 rfl rfl dX2_reckon_35 ?_
    refine lv_iload C.1.1 C.1.2.1 dX2_reckon_38 (lv_at hl 3 rfl) ?_
    refine lv_iconst (v := 1) C.1.1 C.1.2.1 dX2_reckon_40 (by decide) ?_
    refine lv_iadd C.1.1 C.1.2.1 dX2_reckon_41 ?_
    obtain ⟨hib, hf⟩ := zGd_el hf
    refine va_iald C.1.1 C.1.2.1 hK.1 hP 4 0 rfl rfl hib dX2_reckon_42 ?_
    refine lv_icmp_ge (tgt := 61) C.1.1 C.1.2.1 dX2_reckon_43 (by decide) (fun hc => ?_) (fun hc => ?_)
    · replace hf := zIf_t hf hc
      exact hJ61_13 oE_22 oQ_23 hf H locs hP hD hS ls (lv_sub hl [0, 1, 2, 3] rfl)
    · replace hf := zIf_f hf hc
      refine lv_aload_n C.1.1 C.1.2.1 dX2_reckon_46 rfl (lv_at hl 0 rfl) ?_
      refine lv_aload_n C.1.1 C.1.2.1 dX2_reckon_47 rfl (lv_at hl 1 rfl) ?_
      refine lv_iload C.1.1 C.1.2.1 dX2_reckon_48 (lv_at hl 3 rfl) ?_
      refine lv_iload C.1.1 C.1.2.1 dX2_reckon_50 (lv_at hl 4 rfl) ?_
      obtain ⟨oE_25, oQ_26, hg, hf⟩ := zB2_el hf
      refine zCVv (As := [.ref (aP 0), .int x5, .int x21]) (rest := []) (wr := ([] : va_W)) (wn := (kX4 cI cB aP oP ++ kX2 cI cB aE (aQ 0) oE_25 ++ kX3 cI cB aQ oQ_26)) C.1 hK hA hP hD hS [0, 1, 2, 3, 4, 5, 6, 7, 8, 9, 10, 11, 12, 13, 14, 15, 16, 17, 18, 19, 20] [] [0, 1, 2, 3, 4, 5, 6, 7, 8, 9, 10, 11, 12, 13, 14, 15, 16, 17, 18, 19, 20] 10 (mtX2_reckonLine l dC dI cI cB aP aE aQ H.size NN oP oE_22 oQ_23 x5 x21 hg) (zCwV 3 C.1 wlX2_62 wiX2_reckonLine ws_X2_reckonLine wnX2 wkX2_reckonLine rfl rfl (by decide +kernel) ⟨Nat.le_of_ble_eq_true rfl, Nat.le_of_ble_eq_true rfl⟩) rfl rfl (by decide +kernel) rfl rfl rfl rfl hl.1 (Nat.le_of_ble_eq_true rfl) dX2_reckon_52 ⟨Nat.zero_le _, Nat.zero_le _⟩ rfl (fun H locs hP hD hS => ?_)
      obtain ⟨x27, ex27, hf⟩ := zLet_el hf
      refine lv_iinc (v := x27) (lv' := [(5, .int x27), (0, .ref (aE 0)), (1, .ref (aP 0)), (3, .int p3), (4, .int x5)]) C.1.1 C.1.2.1 dX2_reckon_55 hl (k := 4) rfl (by rw [ex27]; rfl) (by decide) rfl (fun ls hl => ?_)
      refine lv_goto (tgt := 32) C.1.1 C.1.2.1 dX2_reckon_58 (by decide) ?_
      exact ihgo24 x27 oE_25 oQ_26 hf H locs hP hD hS ls (lv_sub hl [1, 2, 3, 4, 0] rfl)
