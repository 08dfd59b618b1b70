theorem dX6_init_0 : decode cX6_init 0 = .ok (.aload_n 0, 1) := by decide +kernel
theorem dX6_init_1 : decode cX6_init 1 = .ok (.invokespecial 3, 3) := by decide +kernel
theorem dX6_init_4 : decode cX6_init 4 = .ok (.aload_n 0, 1) := by decide +kernel
theorem dX6_init_5 : decode cX6_init 5 = .ok (.sipush 600, 3) := by decide +kernel
theorem dX6_init_8 : decode cX6_init 8 = .ok (.newarray .int, 2) := by decide +kernel
theorem dX6_init_10 : decode cX6_init 10 = .ok (.putfield 9, 3) := by decide +kernel
theorem dX6_init_13 : decode cX6_init 13 = .ok (.aload_n 0, 1) := by decide +kernel
theorem dX6_init_14 : decode cX6_init 14 = .ok (.iconst 0, 1) := by decide +kernel
theorem dX6_init_15 : decode cX6_init 15 = .ok (.putfield 15, 3) := by decide +kernel
theorem dX6_init_18 : decode cX6_init 18 = .ok (.aload_n 0, 1) := by decide +kernel
theorem dX6_init_19 : decode cX6_init 19 = .ok (.iconst 0, 1) := by decide +kernel
theorem dX6_init_20 : decode cX6_init 20 = .ok (.putfield 19, 3) := by decide +kernel
theorem dX6_init_23 : decode cX6_init 23 = .ok (.aload_n 0, 1) := by decide +kernel
theorem dX6_init_24 : decode cX6_init 24 = .ok (.iconst 0, 1) := by decide +kernel
theorem dX6_init_25 : decode cX6_init 25 = .ok (.putfield 22, 3) := by decide +kernel
theorem dX6_init_28 : decode cX6_init 28 = .ok (.aload_n 0, 1) := by decide +kernel
theorem dX6_init_29 : decode cX6_init 29 = .ok (.iconst 0, 1) := by decide +kernel
theorem dX6_init_30 : decode cX6_init 30 = .ok (.putfield 25, 3) := by decide +kernel
theorem dX6_init_33 : decode cX6_init 33 = .ok (.aload_n 0, 1) := by decide +kernel
theorem dX6_init_34 : decode cX6_init 34 = .ok (.iconst 0, 1) := by decide +kernel
theorem dX6_init_35 : decode cX6_init 35 = .ok (.putfield 28, 3) := by decide +kernel
theorem dX6_init_38 : decode cX6_init 38 = .ok (.aload_n 0, 1) := by decide +kernel
theorem dX6_init_39 : decode cX6_init 39 = .ok (.iconst 0, 1) := by decide +kernel
theorem dX6_init_40 : decode cX6_init 40 = .ok (.putfield 31, 3) := by decide +kernel
theorem dX6_init_43 : decode cX6_init 43 = .ok (.aload_n 0, 1) := by decide +kernel
theorem dX6_init_44 : decode cX6_init 44 = .ok (.iconst 0, 1) := by decide +kernel
theorem dX6_init_45 : decode cX6_init 45 = .ok (.putfield 34, 3) := by decide +kernel
theorem dX6_init_48 : decode cX6_init 48 = .ok (.aload_n 0, 1) := by decide +kernel
theorem dX6_init_49 : decode cX6_init 49 = .ok (.iconst (-1), 1) := by decide +kernel
theorem dX6_init_50 : decode cX6_init 50 = .ok (.putfield 37, 3) := by decide +kernel
theorem dX6_init_53 : decode cX6_init 53 = .ok (.aload_n 0, 1) := by decide +kernel
theorem dX6_init_54 : decode cX6_init 54 = .ok (.iconst 0, 1) := by decide +kernel
theorem dX6_init_55 : decode cX6_init 55 = .ok (.putfield 40, 3) := by decide +kernel
theorem dX6_init_58 : decode cX6_init 58 = .ok (.return_, 1) := by decide +kernel
theorem dX6_append_0 : decode cX6_append 0 = .ok (.bipush 24, 2) := by decide +kernel
theorem dX6_append_2 : decode cX6_append 2 = .ok (.istore_n 2, 1) := by decide +kernel
theorem dX6_append_3 : decode cX6_append 3 = .ok (.iload_n 2, 1) := by decide +kernel
theorem dX6_append_4 : decode cX6_append 4 = .ok (.ifCond .lt 45, 3) := by decide +kernel
theorem dX6_append_7 : decode cX6_append 7 = .ok (.aload_n 0, 1) := by decide +kernel
theorem dX6_append_8 : decode cX6_append 8 = .ok (.getfield 15, 3) := by decide +kernel
theorem dX6_append_11 : decode cX6_append 11 = .ok (.sipush 600, 3) := by decide +kernel
theorem dX6_append_14 : decode cX6_append 14 = .ok (.if_icmp .ge 35, 3) := by decide +kernel
theorem dX6_append_17 : decode cX6_append 17 = .ok (.aload_n 0, 1) := by decide +kernel
theorem dX6_append_18 : decode cX6_append 18 = .ok (.getfield 9, 3) := by decide +kernel
theorem dX6_append_21 : decode cX6_append 21 = .ok (.aload_n 0, 1) := by decide +kernel
theorem dX6_append_22 : decode cX6_append 22 = .ok (.getfield 15, 3) := by decide +kernel
theorem dX6_append_25 : decode cX6_append 25 = .ok (.iload_n 1, 1) := by decide +kernel
theorem dX6_append_26 : decode cX6_append 26 = .ok (.iload_n 2, 1) := by decide +kernel
theorem dX6_append_27 : decode cX6_append 27 = .ok (.iushr, 1) := by decide +kernel
theorem dX6_append_28 : decode cX6_append 28 = .ok (.sipush 255, 3) := by decide +kernel
theorem dX6_append_31 : decode cX6_append 31 = .ok (.iand, 1) := by decide +kernel
theorem dX6_append_32 : decode cX6_append 32 = .ok (.iastore, 1) := by decide +kernel
theorem dX6_append_33 : decode cX6_append 33 = .ok (.aload_n 0, 1) := by decide +kernel
theorem dX6_append_34 : decode cX6_append 34 = .ok (.dup, 1) := by decide +kernel
theorem dX6_append_35 : decode cX6_append 35 = .ok (.getfield 15, 3) := by decide +kernel
theorem dX6_append_38 : decode cX6_append 38 = .ok (.iconst 1, 1) := by decide +kernel
theorem dX6_append_39 : decode cX6_append 39 = .ok (.iadd, 1) := by decide +kernel
theorem dX6_append_40 : decode cX6_append 40 = .ok (.putfield 15, 3) := by decide +kernel
theorem dX6_append_43 : decode cX6_append 43 = .ok (.iinc 2 (-8), 3) := by decide +kernel
theorem dX6_append_46 : decode cX6_append 46 = .ok (.goto (-43), 3) := by decide +kernel
theorem dX6_append_49 : decode cX6_append 49 = .ok (.return_, 1) := by decide +kernel
theorem dX6_clear_0 : decode cX6_clear 0 = .ok (.aload_n 0, 1) := by decide +kernel
theorem dX6_clear_1 : decode cX6_clear 1 = .ok (.iconst 0, 1) := by decide +kernel
theorem dX6_clear_2 : decode cX6_clear 2 = .ok (.putfield 15, 3) := by decide +kernel
theorem dX6_clear_5 : decode cX6_clear 5 = .ok (.return_, 1) := by decide +kernel
theorem dX6_open_0 : decode cX6_open 0 = .ok (.aload_n 0, 1) := by decide +kernel
theorem dX6_open_1 : decode cX6_open 1 = .ok (.iconst 0, 1) := by decide +kernel
theorem dX6_open_2 : decode cX6_open 2 = .ok (.iload_n 1, 1) := by decide +kernel
theorem dX6_open_3 : decode cX6_open 3 = .ok (.aload_n 0, 1) := by decide +kernel
theorem dX6_open_4 : decode cX6_open 4 = .ok (.getfield 15, 3) := by decide +kernel
theorem dX6_open_7 : decode cX6_open 7 = .ok (.invokestatic 44, 3) := by decide +kernel
theorem dX6_open_10 : decode cX6_open 10 = .ok (.invokestatic 50, 3) := by decide +kernel
theorem dX6_open_13 : decode cX6_open 13 = .ok (.putfield 19, 3) := by decide +kernel
theorem dX6_open_16 : decode cX6_open 16 = .ok (.aload_n 0, 1) := by decide +kernel
theorem dX6_open_17 : decode cX6_open 17 = .ok (.iconst 0, 1) := by decide +kernel
theorem dX6_open_18 : decode cX6_open 18 = .ok (.putfield 22, 3) := by decide +kernel
theorem dX6_open_21 : decode cX6_open 21 = .ok (.aload_n 0, 1) := by decide +kernel
theorem dX6_open_22 : decode cX6_open 22 = .ok (.invokevirtual 53, 3) := by decide +kernel
theorem dX6_open_25 : decode cX6_open 25 = .ok (.return_, 1) := by decide +kernel
theorem dX6_step_0 : decode cX6_step 0 = .ok (.aload_n 0, 1) := by decide +kernel
theorem dX6_step_1 : decode cX6_step 1 = .ok (.invokevirtual 56, 3) := by decide +kernel
theorem dX6_step_4 : decode cX6_step 4 = .ok (.aload_n 0, 1) := by decide +kernel
theorem dX6_step_5 : decode cX6_step 5 = .ok (.aload_n 0, 1) := by decide +kernel
theorem dX6_step_6 : decode cX6_step 6 = .ok (.getfield 22, 3) := by decide +kernel
theorem dX6_step_9 : decode cX6_step 9 = .ok (.putfield 28, 3) := by decide +kernel
theorem dX6_step_12 : decode cX6_step 12 = .ok (.aload_n 0, 1) := by decide +kernel
theorem dX6_step_13 : decode cX6_step 13 = .ok (.iconst 0, 1) := by decide +kernel
theorem dX6_step_14 : decode cX6_step 14 = .ok (.putfield 34, 3) := by decide +kernel
theorem dX6_step_17 : decode cX6_step 17 = .ok (.aload_n 0, 1) := by decide +kernel
theorem dX6_step_18 : decode cX6_step 18 = .ok (.iconst (-1), 1) := by decide +kernel
theorem dX6_step_19 : decode cX6_step 19 = .ok (.putfield 37, 3) := by decide +kernel
theorem dX6_step_22 : decode cX6_step 22 = .ok (.aload_n 0, 1) := by decide +kernel
theorem dX6_step_23 : decode cX6_step 23 = .ok (.iconst 0, 1) := by decide +kernel
theorem dX6_step_24 : decode cX6_step 24 = .ok (.putfield 40, 3) := by decide +kernel
theorem dX6_step_27 : decode cX6_step 27 = .ok (.aload_n 0, 1) := by decide +kernel
theorem dX6_step_28 : decode cX6_step 28 = .ok (.getfield 22, 3) := by decide +kernel
theorem dX6_step_31 : decode cX6_step 31 = .ok (.aload_n 0, 1) := by decide +kernel
theorem dX6_step_32 : decode cX6_step 32 = .ok (.getfield 19, 3) := by decide +kernel
theorem dX6_step_35 : decode cX6_step 35 = .ok (.if_icmp .lt 11, 3) := by decide +kernel
theorem dX6_step_38 : decode cX6_step 38 = .ok (.aload_n 0, 1) := by decide +kernel
theorem dX6_step_39 : decode cX6_step 39 = .ok (.iconst 0, 1) := by decide +kernel
theorem dX6_step_40 : decode cX6_step 40 = .ok (.putfield 25, 3) := by decide +kernel
theorem dX6_step_43 : decode cX6_step 43 = .ok (.goto 89, 3) := by decide +kernel
theorem dX6_step_46 : decode cX6_step 46 = .ok (.aload_n 0, 1) := by decide +kernel
theorem dX6_step_47 : decode cX6_step 47 = .ok (.getfield 9, 3) := by decide +kernel
theorem dX6_step_50 : decode cX6_step 50 = .ok (.aload_n 0, 1) := by decide +kernel
theorem dX6_step_51 : decode cX6_step 51 = .ok (.getfield 22, 3) := by decide +kernel
theorem dX6_step_54 : decode cX6_step 54 = .ok (.iaload, 1) := by decide +kernel
theorem dX6_step_55 : decode cX6_step 55 = .ok (.invokestatic 59, 3) := by decide +kernel
theorem dX6_step_58 : decode cX6_step 58 = .ok (.ifCond .eq 10, 3) := by decide +kernel
theorem dX6_step_61 : decode cX6_step 61 = .ok (.aload_n 0, 1) := by decide +kernel
theorem dX6_step_62 : decode cX6_step 62 = .ok (.invokevirtual 63, 3) := by decide +kernel
theorem dX6_step_65 : decode cX6_step 65 = .ok (.goto 67, 3) := by decide +kernel
theorem dX6_step_68 : decode cX6_step 68 = .ok (.aload_n 0, 1) := by decide +kernel
theorem dX6_step_69 : decode cX6_step 69 = .ok (.getfield 9, 3) := by decide +kernel
theorem dX6_step_72 : decode cX6_step 72 = .ok (.aload_n 0, 1) := by decide +kernel
theorem dX6_step_73 : decode cX6_step 73 = .ok (.getfield 22, 3) := by decide +kernel
theorem dX6_step_76 : decode cX6_step 76 = .ok (.iaload, 1) := by decide +kernel
theorem dX6_step_77 : decode cX6_step 77 = .ok (.invokestatic 66, 3) := by decide +kernel
theorem dX6_step_80 : decode cX6_step 80 = .ok (.ifCond .eq 10, 3) := by decide +kernel
theorem dX6_step_83 : decode cX6_step 83 = .ok (.aload_n 0, 1) := by decide +kernel
theorem dX6_step_84 : decode cX6_step 84 = .ok (.invokevirtual 69, 3) := by decide +kernel
theorem dX6_step_87 : decode cX6_step 87 = .ok (.goto 45, 3) := by decide +kernel
theorem dX6_step_90 : decode cX6_step 90 = .ok (.aload_n 0, 1) := by decide +kernel
theorem dX6_step_91 : decode cX6_step 91 = .ok (.aload_n 0, 1) := by decide +kernel
theorem dX6_step_92 : decode cX6_step 92 = .ok (.getfield 9, 3) := by decide +kernel
theorem dX6_step_95 : decode cX6_step 95 = .ok (.aload_n 0, 1) := by decide +kernel
theorem dX6_step_96 : decode cX6_step 96 = .ok (.getfield 22, 3) := by decide +kernel
theorem dX6_step_99 : decode cX6_step 99 = .ok (.iaload, 1) := by decide +kernel
theorem dX6_step_100 : decode cX6_step 100 = .ok (.invokestatic 72, 3) := by decide +kernel
theorem dX6_step_103 : decode cX6_step 103 = .ok (.ifCond .eq 15, 3) := by decide +kernel
theorem dX6_step_106 : decode cX6_step 106 = .ok (.aload_n 0, 1) := by decide +kernel
theorem dX6_step_107 : decode cX6_step 107 = .ok (.getfield 9, 3) := by decide +kernel
theorem dX6_step_110 : decode cX6_step 110 = .ok (.aload_n 0, 1) := by decide +kernel
theorem dX6_step_111 : decode cX6_step 111 = .ok (.getfield 22, 3) := by decide +kernel
theorem dX6_step_114 : decode cX6_step 114 = .ok (.iaload, 1) := by decide +kernel
theorem dX6_step_115 : decode cX6_step 115 = .ok (.goto 4, 3) := by decide +kernel
theorem dX6_step_118 : decode cX6_step 118 = .ok (.iconst 1, 1) := by decide +kernel
theorem dX6_step_119 : decode cX6_step 119 = .ok (.putfield 25, 3) := by decide +kernel
theorem dX6_step_122 : decode cX6_step 122 = .ok (.aload_n 0, 1) := by decide +kernel
theorem dX6_step_123 : decode cX6_step 123 = .ok (.dup, 1) := by decide +kernel
theorem dX6_step_124 : decode cX6_step 124 = .ok (.getfield 22, 3) := by decide +kernel
theorem dX6_step_127 : decode cX6_step 127 = .ok (.iconst 1, 1) := by decide +kernel
theorem dX6_step_128 : decode cX6_step 128 = .ok (.iadd, 1) := by decide +kernel
theorem dX6_step_129 : decode cX6_step 129 = .ok (.putfield 22, 3) := by decide +kernel
theorem dX6_step_132 : decode cX6_step 132 = .ok (.aload_n 0, 1) := by decide +kernel
theorem dX6_step_133 : decode cX6_step 133 = .ok (.aload_n 0, 1) := by decide +kernel
theorem dX6_step_134 : decode cX6_step 134 = .ok (.getfield 22, 3) := by decide +kernel
theorem dX6_step_137 : decode cX6_step 137 = .ok (.aload_n 0, 1) := by decide +kernel
theorem dX6_step_138 : decode cX6_step 138 = .ok (.getfield 28, 3) := by decide +kernel
theorem dX6_step_141 : decode cX6_step 141 = .ok (.isub, 1) := by decide +kernel
theorem dX6_step_142 : decode cX6_step 142 = .ok (.putfield 31, 3) := by decide +kernel
theorem dX6_step_145 : decode cX6_step 145 = .ok (.return_, 1) := by decide +kernel
theorem dX6_skipBlanks_0 : decode cX6_skipBlanks 0 = .ok (.aload_n 0, 1) := by decide +kernel
theorem dX6_skipBlanks_1 : decode cX6_skipBlanks 1 = .ok (.getfield 22, 3) := by decide +kernel
theorem dX6_skipBlanks_4 : decode cX6_skipBlanks 4 = .ok (.aload_n 0, 1) := by decide +kernel
theorem dX6_skipBlanks_5 : decode cX6_skipBlanks 5 = .ok (.getfield 19, 3) := by decide +kernel
theorem dX6_skipBlanks_8 : decode cX6_skipBlanks 8 = .ok (.if_icmp .ge 44, 3) := by decide +kernel
theorem dX6_skipBlanks_11 : decode cX6_skipBlanks 11 = .ok (.aload_n 0, 1) := by decide +kernel
theorem dX6_skipBlanks_12 : decode cX6_skipBlanks 12 = .ok (.getfield 9, 3) := by decide +kernel
theorem dX6_skipBlanks_15 : decode cX6_skipBlanks 15 = .ok (.aload_n 0, 1) := by decide +kernel
theorem dX6_skipBlanks_16 : decode cX6_skipBlanks 16 = .ok (.getfield 22, 3) := by decide +kernel
theorem dX6_skipBlanks_19 : decode cX6_skipBlanks 19 = .ok (.iaload, 1) := by decide +kernel
theorem dX6_skipBlanks_20 : decode cX6_skipBlanks 20 = .ok (.bipush 32, 2) := by decide +kernel
theorem dX6_skipBlanks_22 : decode cX6_skipBlanks 22 = .ok (.if_icmp .eq 17, 3) := by decide +kernel
theorem dX6_skipBlanks_25 : decode cX6_skipBlanks 25 = .ok (.aload_n 0, 1) := by decide +kernel
theorem dX6_skipBlanks_26 : decode cX6_skipBlanks 26 = .ok (.getfield 9, 3) := by decide +kernel
theorem dX6_skipBlanks_29 : decode cX6_skipBlanks 29 = .ok (.aload_n 0, 1) := by decide +kernel
theorem dX6_skipBlanks_30 : decode cX6_skipBlanks 30 = .ok (.getfield 22, 3) := by decide +kernel
theorem dX6_skipBlanks_33 : decode cX6_skipBlanks 33 = .ok (.iaload, 1) := by decide +kernel
theorem dX6_skipBlanks_34 : decode cX6_skipBlanks 34 = .ok (.bipush 10, 2) := by decide +kernel
theorem dX6_skipBlanks_36 : decode cX6_skipBlanks 36 = .ok (.if_icmp .ne 16, 3) := by decide +kernel
theorem dX6_skipBlanks_39 : decode cX6_skipBlanks 39 = .ok (.aload_n 0, 1) := by decide +kernel
theorem dX6_skipBlanks_40 : decode cX6_skipBlanks 40 = .ok (.dup, 1) := by decide +kernel
theorem dX6_skipBlanks_41 : decode cX6_skipBlanks 41 = .ok (.getfield 22, 3) := by decide +kernel
theorem dX6_skipBlanks_44 : decode cX6_skipBlanks 44 = .ok (.iconst 1, 1) := by decide +kernel
theorem dX6_skipBlanks_45 : decode cX6_skipBlanks 45 = .ok (.iadd, 1) := by decide +kernel
theorem dX6_skipBlanks_46 : decode cX6_skipBlanks 46 = .ok (.putfield 22, 3) := by decide +kernel
theorem dX6_skipBlanks_49 : decode cX6_skipBlanks 49 = .ok (.goto (-49), 3) := by decide +kernel
theorem dX6_skipBlanks_52 : decode cX6_skipBlanks 52 = .ok (.return_, 1) := by decide +kernel
theorem dX6_takeWord_0 : decode cX6_takeWord 0 = .ok (.aload_n 0, 1) := by decide +kernel
theorem dX6_takeWord_1 : decode cX6_takeWord 1 = .ok (.getfield 22, 3) := by decide +kernel
theorem dX6_takeWord_4 : decode cX6_takeWord 4 = .ok (.aload_n 0, 1) := by decide +kernel
theorem dX6_takeWord_5 : decode cX6_takeWord 5 = .ok (.getfield 19, 3) := by decide +kernel
theorem dX6_takeWord_8 : decode cX6_takeWord 8 = .ok (.if_icmp .ge 31, 3) := by decide +kernel
theorem dX6_takeWord_11 : decode cX6_takeWord 11 = .ok (.aload_n 0, 1) := by decide +kernel
theorem dX6_takeWord_12 : decode cX6_takeWord 12 = .ok (.getfield 9, 3) := by decide +kernel
theorem dX6_takeWord_15 : decode cX6_takeWord 15 = .ok (.aload_n 0, 1) := by decide +kernel
theorem dX6_takeWord_16 : decode cX6_takeWord 16 = .ok (.getfield 22, 3) := by decide +kernel
theorem dX6_takeWord_19 : decode cX6_takeWord 19 = .ok (.iaload, 1) := by decide +kernel
theorem dX6_takeWord_20 : decode cX6_takeWord 20 = .ok (.invokestatic 59, 3) := by decide +kernel
theorem dX6_takeWord_23 : decode cX6_takeWord 23 = .ok (.ifCond .eq 16, 3) := by decide +kernel
theorem dX6_takeWord_26 : decode cX6_takeWord 26 = .ok (.aload_n 0, 1) := by decide +kernel
theorem dX6_takeWord_27 : decode cX6_takeWord 27 = .ok (.dup, 1) := by decide +kernel
theorem dX6_takeWord_28 : decode cX6_takeWord 28 = .ok (.getfield 22, 3) := by decide +kernel
theorem dX6_takeWord_31 : decode cX6_takeWord 31 = .ok (.iconst 1, 1) := by decide +kernel
theorem dX6_takeWord_32 : decode cX6_takeWord 32 = .ok (.iadd, 1) := by decide +kernel
theorem dX6_takeWord_33 : decode cX6_takeWord 33 = .ok (.putfield 22, 3) := by decide +kernel
theorem dX6_takeWord_36 : decode cX6_takeWord 36 = .ok (.goto (-36), 3) := by decide +kernel
theorem dX6_takeWord_39 : decode cX6_takeWord 39 = .ok (.aload_n 0, 1) := by decide +kernel
theorem dX6_takeWord_40 : decode cX6_takeWord 40 = .ok (.getfield 22, 3) := by decide +kernel
theorem dX6_takeWord_43 : decode cX6_takeWord 43 = .ok (.aload_n 0, 1) := by decide +kernel
theorem dX6_takeWord_44 : decode cX6_takeWord 44 = .ok (.getfield 28, 3) := by decide +kernel
theorem dX6_takeWord_47 : decode cX6_takeWord 47 = .ok (.isub, 1) := by decide +kernel
theorem dX6_takeWord_48 : decode cX6_takeWord 48 = .ok (.istore_n 1, 1) := by decide +kernel
theorem dX6_takeWord_49 : decode cX6_takeWord 49 = .ok (.aload_n 0, 1) := by decide +kernel
theorem dX6_takeWord_50 : decode cX6_takeWord 50 = .ok (.iload_n 1, 1) := by decide +kernel
theorem dX6_takeWord_51 : decode cX6_takeWord 51 = .ok (.bipush 8, 2) := by decide +kernel
theorem dX6_takeWord_53 : decode cX6_takeWord 53 = .ok (.if_icmp .gt 7, 3) := by decide +kernel
theorem dX6_takeWord_56 : decode cX6_takeWord 56 = .ok (.iconst 2, 1) := by decide +kernel
theorem dX6_takeWord_57 : decode cX6_takeWord 57 = .ok (.goto 4, 3) := by decide +kernel
theorem dX6_takeWord_60 : decode cX6_takeWord 60 = .ok (.iconst 1, 1) := by decide +kernel
theorem dX6_takeWord_61 : decode cX6_takeWord 61 = .ok (.putfield 25, 3) := by decide +kernel
theorem dX6_takeWord_64 : decode cX6_takeWord 64 = .ok (.iload_n 1, 1) := by decide +kernel
theorem dX6_takeWord_65 : decode cX6_takeWord 65 = .ok (.iconst 1, 1) := by decide +kernel
theorem dX6_takeWord_66 : decode cX6_takeWord 66 = .ok (.if_icmp .ne 33, 3) := by decide +kernel
theorem dX6_takeWord_69 : decode cX6_takeWord 69 = .ok (.aload_n 0, 1) := by decide +kernel
theorem dX6_takeWord_70 : decode cX6_takeWord 70 = .ok (.getfield 9, 3) := by decide +kernel
theorem dX6_takeWord_73 : decode cX6_takeWord 73 = .ok (.aload_n 0, 1) := by decide +kernel
theorem dX6_takeWord_74 : decode cX6_takeWord 74 = .ok (.getfield 28, 3) := by decide +kernel
theorem dX6_takeWord_77 : decode cX6_takeWord 77 = .ok (.iaload, 1) := by decide +kernel
theorem dX6_takeWord_78 : decode cX6_takeWord 78 = .ok (.bipush 105, 2) := by decide +kernel
theorem dX6_takeWord_80 : decode cX6_takeWord 80 = .ok (.if_icmp .ge 19, 3) := by decide +kernel
theorem dX6_takeWord_83 : decode cX6_takeWord 83 = .ok (.aload_n 0, 1) := by decide +kernel
theorem dX6_takeWord_84 : decode cX6_takeWord 84 = .ok (.aload_n 0, 1) := by decide +kernel
theorem dX6_takeWord_85 : decode cX6_takeWord 85 = .ok (.getfield 9, 3) := by decide +kernel
theorem dX6_takeWord_88 : decode cX6_takeWord 88 = .ok (.aload_n 0, 1) := by decide +kernel
theorem dX6_takeWord_89 : decode cX6_takeWord 89 = .ok (.getfield 28, 3) := by decide +kernel
theorem dX6_takeWord_92 : decode cX6_takeWord 92 = .ok (.iaload, 1) := by decide +kernel
theorem dX6_takeWord_93 : decode cX6_takeWord 93 = .ok (.bipush 97, 2) := by decide +kernel
theorem dX6_takeWord_95 : decode cX6_takeWord 95 = .ok (.isub, 1) := by decide +kernel
theorem dX6_takeWord_96 : decode cX6_takeWord 96 = .ok (.putfield 37, 3) := by decide +kernel
theorem dX6_takeWord_99 : decode cX6_takeWord 99 = .ok (.aload_n 0, 1) := by decide +kernel
theorem dX6_takeWord_100 : decode cX6_takeWord 100 = .ok (.iload_n 1, 1) := by decide +kernel
theorem dX6_takeWord_101 : decode cX6_takeWord 101 = .ok (.iconst 2, 1) := by decide +kernel
theorem dX6_takeWord_102 : decode cX6_takeWord 102 = .ok (.if_icmp .ne 37, 3) := by decide +kernel
theorem dX6_takeWord_105 : decode cX6_takeWord 105 = .ok (.aload_n 0, 1) := by decide +kernel
theorem dX6_takeWord_106 : decode cX6_takeWord 106 = .ok (.getfield 9, 3) := by decide +kernel
theorem dX6_takeWord_109 : decode cX6_takeWord 109 = .ok (.aload_n 0, 1) := by decide +kernel
theorem dX6_takeWord_110 : decode cX6_takeWord 110 = .ok (.getfield 28, 3) := by decide +kernel
theorem dX6_takeWord_113 : decode cX6_takeWord 113 = .ok (.iaload, 1) := by decide +kernel
theorem dX6_takeWord_114 : decode cX6_takeWord 114 = .ok (.bipush 105, 2) := by decide +kernel
theorem dX6_takeWord_116 : decode cX6_takeWord 116 = .ok (.if_icmp .ne 23, 3) := by decide +kernel
theorem dX6_takeWord_119 : decode cX6_takeWord 119 = .ok (.aload_n 0, 1) := by decide +kernel
theorem dX6_takeWord_120 : decode cX6_takeWord 120 = .ok (.getfield 9, 3) := by decide +kernel
theorem dX6_takeWord_123 : decode cX6_takeWord 123 = .ok (.aload_n 0, 1) := by decide +kernel
theorem dX6_takeWord_124 : decode cX6_takeWord 124 = .ok (.getfield 28, 3) := by decide +kernel
theorem dX6_takeWord_127 : decode cX6_takeWord 127 = .ok (.iconst 1, 1) := by decide +kernel
theorem dX6_takeWord_128 : decode cX6_takeWord 128 = .ok (.iadd, 1) := by decide +kernel
theorem dX6_takeWord_129 : decode cX6_takeWord 129 = .ok (.iaload, 1) := by decide +kernel
theorem dX6_takeWord_130 : decode cX6_takeWord 130 = .ok (.bipush 102, 2) := by decide +kernel
theorem dX6_takeWord_132 : decode cX6_takeWord 132 = .ok (.if_icmp .ne 7, 3) := by decide +kernel
theorem dX6_takeWord_135 : decode cX6_takeWord 135 = .ok (.iconst 1, 1) := by decide +kernel
theorem dX6_takeWord_136 : decode cX6_takeWord 136 = .ok (.goto 4, 3) := by decide +kernel
theorem dX6_takeWord_139 : decode cX6_takeWord 139 = .ok (.iconst 0, 1) := by decide +kernel
theorem dX6_takeWord_140 : decode cX6_takeWord 140 = .ok (.putfield 40, 3) := by decide +kernel
theorem dX6_takeWord_143 : decode cX6_takeWord 143 = .ok (.return_, 1) := by decide +kernel
theorem dX6_takeWhole_0 : decode cX6_takeWhole 0 = .ok (.aload_n 0, 1) := by decide +kernel
theorem dX6_takeWhole_1 : decode cX6_takeWhole 1 = .ok (.getfield 22, 3) := by decide +kernel
theorem dX6_takeWhole_4 : decode cX6_takeWhole 4 = .ok (.aload_n 0, 1) := by decide +kernel
theorem dX6_takeWhole_5 : decode cX6_takeWhole 5 = .ok (.getfield 19, 3) := by decide +kernel
theorem dX6_takeWhole_8 : decode cX6_takeWhole 8 = .ok (.if_icmp .ge 55, 3) := by decide +kernel
theorem dX6_takeWhole_11 : decode cX6_takeWhole 11 = .ok (.aload_n 0, 1) := by decide +kernel
theorem dX6_takeWhole_12 : decode cX6_takeWhole 12 = .ok (.getfield 9, 3) := by decide +kernel
theorem dX6_takeWhole_15 : decode cX6_takeWhole 15 = .ok (.aload_n 0, 1) := by decide +kernel
theorem dX6_takeWhole_16 : decode cX6_takeWhole 16 = .ok (.getfield 22, 3) := by decide +kernel
theorem dX6_takeWhole_19 : decode cX6_takeWhole 19 = .ok (.iaload, 1) := by decide +kernel
theorem dX6_takeWhole_20 : decode cX6_takeWhole 20 = .ok (.invokestatic 66, 3) := by decide +kernel
theorem dX6_takeWhole_23 : decode cX6_takeWhole 23 = .ok (.ifCond .eq 40, 3) := by decide +kernel
theorem dX6_takeWhole_26 : decode cX6_takeWhole 26 = .ok (.aload_n 0, 1) := by decide +kernel
theorem dX6_takeWhole_27 : decode cX6_takeWhole 27 = .ok (.aload_n 0, 1) := by decide +kernel
theorem dX6_takeWhole_28 : decode cX6_takeWhole 28 = .ok (.getfield 34, 3) := by decide +kernel
theorem dX6_takeWhole_31 : decode cX6_takeWhole 31 = .ok (.bipush 10, 2) := by decide +kernel
theorem dX6_takeWhole_33 : decode cX6_takeWhole 33 = .ok (.imul, 1) := by decide +kernel
theorem dX6_takeWhole_34 : decode cX6_takeWhole 34 = .ok (.aload_n 0, 1) := by decide +kernel
theorem dX6_takeWhole_35 : decode cX6_takeWhole 35 = .ok (.getfield 9, 3) := by decide +kernel
theorem dX6_takeWhole_38 : decode cX6_takeWhole 38 = .ok (.aload_n 0, 1) := by decide +kernel
theorem dX6_takeWhole_39 : decode cX6_takeWhole 39 = .ok (.getfield 22, 3) := by decide +kernel
theorem dX6_takeWhole_42 : decode cX6_takeWhole 42 = .ok (.iaload, 1) := by decide +kernel
theorem dX6_takeWhole_43 : decode cX6_takeWhole 43 = .ok (.iadd, 1) := by decide +kernel
theorem dX6_takeWhole_44 : decode cX6_takeWhole 44 = .ok (.bipush 48, 2) := by decide +kernel
theorem dX6_takeWhole_46 : decode cX6_takeWhole 46 = .ok (.isub, 1) := by decide +kernel
theorem dX6_takeWhole_47 : decode cX6_takeWhole 47 = .ok (.putfield 34, 3) := by decide +kernel
theorem dX6_takeWhole_50 : decode cX6_takeWhole 50 = .ok (.aload_n 0, 1) := by decide +kernel
theorem dX6_takeWhole_51 : decode cX6_takeWhole 51 = .ok (.dup, 1) := by decide +kernel
theorem dX6_takeWhole_52 : decode cX6_takeWhole 52 = .ok (.getfield 22, 3) := by decide +kernel
theorem dX6_takeWhole_55 : decode cX6_takeWhole 55 = .ok (.iconst 1, 1) := by decide +kernel
theorem dX6_takeWhole_56 : decode cX6_takeWhole 56 = .ok (.iadd, 1) := by decide +kernel
theorem dX6_takeWhole_57 : decode cX6_takeWhole 57 = .ok (.putfield 22, 3) := by decide +kernel
theorem dX6_takeWhole_60 : decode cX6_takeWhole 60 = .ok (.goto (-60), 3) := by decide +kernel
theorem dX6_takeWhole_63 : decode cX6_takeWhole 63 = .ok (.aload_n 0, 1) := by decide +kernel
theorem dX6_takeWhole_64 : decode cX6_takeWhole 64 = .ok (.aload_n 0, 1) := by decide +kernel
theorem dX6_takeWhole_65 : decode cX6_takeWhole 65 = .ok (.getfield 22, 3) := by decide +kernel
theorem dX6_takeWhole_68 : decode cX6_takeWhole 68 = .ok (.aload_n 0, 1) := by decide +kernel
theorem dX6_takeWhole_69 : decode cX6_takeWhole 69 = .ok (.getfield 28, 3) := by decide +kernel
theorem dX6_takeWhole_72 : decode cX6_takeWhole 72 = .ok (.isub, 1) := by decide +kernel
theorem dX6_takeWhole_73 : decode cX6_takeWhole 73 = .ok (.iconst 5, 1) := by decide +kernel
theorem dX6_takeWhole_74 : decode cX6_takeWhole 74 = .ok (.if_icmp .gt 7, 3) := by decide +kernel
theorem dX6_takeWhole_77 : decode cX6_takeWhole 77 = .ok (.iconst 3, 1) := by decide +kernel
theorem dX6_takeWhole_78 : decode cX6_takeWhole 78 = .ok (.goto 4, 3) := by decide +kernel
theorem dX6_takeWhole_81 : decode cX6_takeWhole 81 = .ok (.iconst 1, 1) := by decide +kernel
theorem dX6_takeWhole_82 : decode cX6_takeWhole 82 = .ok (.putfield 25, 3) := by decide +kernel
theorem dX6_takeWhole_85 : decode cX6_takeWhole 85 = .ok (.return_, 1) := by decide +kernel
theorem dX6_letter_0 : decode cX6_letter 0 = .ok (.iload_n 1, 1) := by decide +kernel
theorem dX6_letter_1 : decode cX6_letter 1 = .ok (.ifCond .lt 25, 3) := by decide +kernel
theorem dX6_letter_4 : decode cX6_letter 4 = .ok (.iload_n 1, 1) := by decide +kernel
theorem dX6_letter_5 : decode cX6_letter 5 = .ok (.aload_n 0, 1) := by decide +kernel
theorem dX6_letter_6 : decode cX6_letter 6 = .ok (.getfield 31, 3) := by decide +kernel
theorem dX6_letter_9 : decode cX6_letter 9 = .ok (.if_icmp .ge 17, 3) := by decide +kernel
theorem dX6_letter_12 : decode cX6_letter 12 = .ok (.aload_n 0, 1) := by decide +kernel
theorem dX6_letter_13 : decode cX6_letter 13 = .ok (.getfield 9, 3) := by decide +kernel
theorem dX6_letter_16 : decode cX6_letter 16 = .ok (.aload_n 0, 1) := by decide +kernel
theorem dX6_letter_17 : decode cX6_letter 17 = .ok (.getfield 28, 3) := by decide +kernel
theorem dX6_letter_20 : decode cX6_letter 20 = .ok (.iload_n 1, 1) := by decide +kernel
theorem dX6_letter_21 : decode cX6_letter 21 = .ok (.iadd, 1) := by decide +kernel
theorem dX6_letter_22 : decode cX6_letter 22 = .ok (.iaload, 1) := by decide +kernel
theorem dX6_letter_23 : decode cX6_letter 23 = .ok (.goto 4, 3) := by decide +kernel
theorem dX6_letter_26 : decode cX6_letter 26 = .ok (.iconst (-1), 1) := by decide +kernel
theorem dX6_letter_27 : decode cX6_letter 27 = .ok (.ireturn, 1) := by decide +kernel
theorem dX6_isSign_0 : decode cX6_isSign 0 = .ok (.aload_n 0, 1) := by decide +kernel
theorem dX6_isSign_1 : decode cX6_isSign 1 = .ok (.getfield 25, 3) := by decide +kernel
theorem dX6_isSign_4 : decode cX6_isSign 4 = .ok (.invokestatic 75, 3) := by decide +kernel
theorem dX6_isSign_7 : decode cX6_isSign 7 = .ok (.ireturn, 1) := by decide +kernel
theorem dX6_isLetter_0 : decode cX6_isLetter 0 = .ok (.iload_n 0, 1) := by decide +kernel
theorem dX6_isLetter_1 : decode cX6_isLetter 1 = .ok (.bipush 97, 2) := by decide +kernel
theorem dX6_isLetter_3 : decode cX6_isLetter 3 = .ok (.if_icmp .lt 13, 3) := by decide +kernel
theorem dX6_isLetter_6 : decode cX6_isLetter 6 = .ok (.iload_n 0, 1) := by decide +kernel
theorem dX6_isLetter_7 : decode cX6_isLetter 7 = .ok (.bipush 122, 2) := by decide +kernel
theorem dX6_isLetter_9 : decode cX6_isLetter 9 = .ok (.if_icmp .gt 7, 3) := by decide +kernel
theorem dX6_isLetter_12 : decode cX6_isLetter 12 = .ok (.iconst 1, 1) := by decide +kernel
theorem dX6_isLetter_13 : decode cX6_isLetter 13 = .ok (.goto 4, 3) := by decide +kernel
theorem dX6_isLetter_16 : decode cX6_isLetter 16 = .ok (.iconst 0, 1) := by decide +kernel
theorem dX6_isLetter_17 : decode cX6_isLetter 17 = .ok (.ireturn, 1) := by decide +kernel
theorem dX6_isDigit_0 : decode cX6_isDigit 0 = .ok (.iload_n 0, 1) := by decide +kernel
theorem dX6_isDigit_1 : decode cX6_isDigit 1 = .ok (.bipush 48, 2) := by decide +kernel
theorem dX6_isDigit_3 : decode cX6_isDigit 3 = .ok (.if_icmp .lt 13, 3) := by decide +kernel
theorem dX6_isDigit_6 : decode cX6_isDigit 6 = .ok (.iload_n 0, 1) := by decide +kernel
theorem dX6_isDigit_7 : decode cX6_isDigit 7 = .ok (.bipush 57, 2) := by decide +kernel
theorem dX6_isDigit_9 : decode cX6_isDigit 9 = .ok (.if_icmp .gt 7, 3) := by decide +kernel
theorem dX6_isDigit_12 : decode cX6_isDigit 12 = .ok (.iconst 1, 1) := by decide +kernel
theorem dX6_isDigit_13 : decode cX6_isDigit 13 = .ok (.goto 4, 3) := by decide +kernel
theorem dX6_isDigit_16 : decode cX6_isDigit 16 = .ok (.iconst 0, 1) := by decide +kernel
theorem dX6_isDigit_17 : decode cX6_isDigit 17 = .ok (.ireturn, 1) := by decide +kernel
theorem dX6_isSingle_0 : decode cX6_isSingle 0 = .ok (.iload_n 0, 1) := by decide +kernel
theorem dX6_isSingle_1 : decode cX6_isSingle 1 = .ok (.lookupswitch 69 #[(40, 67), (41, 67), (59, 67), (61, 67), (123, 67), (125, 67), (126, 67)], 67) := by decide +kernel
theorem dX6_isSingle_68 : decode cX6_isSingle 68 = .ok (.iconst 1, 1) := by decide +kernel
theorem dX6_isSingle_69 : decode cX6_isSingle 69 = .ok (.ireturn, 1) := by decide +kernel
theorem dX6_isSingle_70 : decode cX6_isSingle 70 = .ok (.iload_n 0, 1) := by decide +kernel
theorem dX6_isSingle_71 : decode cX6_isSingle 71 = .ok (.invokestatic 75, 3) := by decide +kernel
theorem dX6_isSingle_74 : decode cX6_isSingle 74 = .ok (.ireturn, 1) := by decide +kernel
theorem dX6_isSignByte_0 : decode cX6_isSignByte 0 = .ok (.iload_n 0, 1) := by decide +kernel
theorem dX6_isSignByte_1 : decode cX6_isSignByte 1 = .ok (.lookupswitch 69 #[(38, 67), (42, 67), (43, 67), (45, 67), (60, 67), (94, 67), (124, 67)], 67) := by decide +kernel
theorem dX6_isSignByte_68 : decode cX6_isSignByte 68 = .ok (.iconst 1, 1) := by decide +kernel
theorem dX6_isSignByte_69 : decode cX6_isSignByte 69 = .ok (.ireturn, 1) := by decide +kernel
theorem dX6_isSignByte_70 : decode cX6_isSignByte 70 = .ok (.iconst 0, 1) := by decide +kernel
theorem dX6_isSignByte_71 : decode cX6_isSignByte 71 = .ok (.ireturn, 1) := by decide +kernel
def fX6_append_L3 (p1 : Int32) (J49_2 : Rc → Option (Rc)) (n : Nat) (x3 : Int32) (oT_4 : Rc) : Option (Rc) := zLp2 (fun (go5 : Int32 → Rc → Option (Rc)) (x3 : Int32) (oT_4 : Rc) =>
    if x3 < 0 then (
      J49_2 oT_4
    ) else (
      if (600 : Int32) ≤ (oT_4 1 0) then (
        J49_2 oT_4
      ) else (
        zGd (inb (oT_4 1 0) 600) <|
        zLet (rs oT_4 0 (upd (oT_4 0) (oT_4 1 0).toNatClampNeg (((p1.toUInt32 >>> (x3.toUInt32 &&& Int32.toUInt32 31)).toInt32) &&& (255 : Int32)))) fun oT_6 =>
        zLet (rs oT_6 1 (fun _ => ((oT_6 1 0) + (1 : Int32)))) fun oT_7 =>
        zLet (x3 + (-8)) fun x8 =>
        go5 x8 oT_7
      )
    )
  ) n x3 oT_4
def fX6_append (NN : Nat) (oT : Rc) (p1 : Int32) : Option (Rc) :=
  zJn (fun (oT_1 : Rc) =>
      some oT_1
    ) fun J49_2 =>
  fX6_append_L3 p1 J49_2 NN (24 : Int32) oT
abbrev rX6_append : Room := { frames := 0, cells := 0, slots := 0, locals := 0 }
set_option maxHeartbeats 4000000 in
set_option maxRecDepth 100000 in
theorem mtX6_append (l : Launch) (dC : Nat → ClassId) (dI : Nat → Nat → Nat) (cI cB : ClassId) (aT : Nat → Nat) (sz : Nat) (NN : Nat) (oT : Rc) (p1 : Int32) {oT' : Rc} (hf : fX6_append NN oT p1 = some oT') : zMv l yX6_append (Cond.code yX6_append cX6_append 3 none :: lw_g) rX6_append (dC, dI) [(cI, .int), (cB, .byte)] [.ref (aT 0), .int p1] sz (kX6 cI cB aT oT) (kX6 cI cB aT oT') := by
  refine zSt (cc := cX6_append) (maxL := 3) (ret := none) (own := RX6) (fun A => zQv (dC, dI) [(cI, .int), (cB, .byte)] A (kX6 cI cB aT oT')) (by decide) rfl rfl (Nat.le_of_ble_eq_true rfl) ?_
  intro p e s m below meth c ls A H locs C hK hA hP hD hS hl
  generalize hQ : MQ below (zQv (dC, dI) [(cI, .int), (cB, .byte)] A (kX6 cI cB aT oT')) _ s 0 0 A = QQ
  generalize ([.ref (aT 0), .int p1] : List Value).toArray = args at C hQ ⊢
  have hl : lv_has ls 3 [(0, .ref (aT 0)), (1, .int p1)] := hl
  unfold fX6_append at hf
  refine lv_bipush (v := 24) C.1.1 C.1.2.1 dX6_append_0 (by decide) ?_
  refine lv_istore_n (lv' := [(2, .int (24 : Int32)), (0, .ref (aT 0)), (1, .int p1)]) C.1.1 C.1.2.1 dX6_append_2 rfl hl (by decide) rfl (fun ls hl => ?_)
  obtain ⟨J49_2, eJ49_2, hf⟩ := zJn_el hf
  have hJ49_2 : ∀ (oT_1 : Rc), J49_2 oT_1 = some oT' → ∀ (H : Heap) (locs : List Loc), va_P (dC, dI) vwCl (kX6 cI cB aT oT_1) H → va_D A (kX6 cI cB aT oT_1) → va_S A s.heap H locs → ∀ (ls : Array Slot), lv_has ls 3 [] → W p l e rX6_append s m args below meth c H locs 0 0 QQ (F0 m 49 ls []) := by
    intro oT_1 hf H locs hP hD hS ls hl
    rw [eJ49_2] at hf
    cases hf
    rw [← hQ]
    exact zRv C hK hP hD hS dX6_append_49
  refine zLp2_ind (o := oT') (P := fun (x3 : Int32) (oT_4 : Rc) => ∀ (H : Heap) (locs : List Loc), va_P (dC, dI) vwCl (kX6 cI cB aT oT_4) H → va_D A (kX6 cI cB aT oT_4) → va_S A s.heap H locs → ∀ (ls : Array Slot), lv_has ls 3 [(0, .ref (aT 0)), (1, .int p1), (2, .int x3)] → W p l e rX6_append s m args below meth c H locs 0 0 QQ (F0 m 3 ls [])) (fun go5 ihgo5 x3 oT_4 hf H locs hP hD hS ls hl => ?_) _ (24 : Int32) oT hf H locs hP hD hS ls (lv_sub hl [1, 2, 0] rfl)
  refine lv_iload_n C.1.1 C.1.2.1 dX6_append_3 rfl (lv_at hl 2 rfl) ?_
  refine lv_if_lt (tgt := 49) C.1.1 C.1.2.1 dX6_append_4 (by decide) (fun hc => ?_) (fun hc => ?_)
  · replace hf := zIf_t hf hc
    exact hJ49_2 oT_4 hf H locs hP hD hS ls (lv_sub hl [] rfl)
  · replace hf := zIf_f hf hc
    refine lv_aload_n C.1.1 C.1.2.1 dX6_append_7 rfl (lv_at hl 0 rfl) ?_
    refine zGet (.int (oT_4 1 0)) C.1 wuX6 hK hP 0 rfl rfl 1 (by decide) wfX6_15 rfl rfl dX6_append_8 ?_
    refine lv_sipush (v := 600) C.1.1 C.1.2.1 dX6_append_11 (by decide) ?_
    refine lv_icmp_ge (tgt := 49) C.1.1 C.1.2.1 dX6_append_14 (by decide) (fun hc => ?_) (fun hc => ?_)
    · replace hf := zIf_t hf hc
      exact hJ49_2 oT_4 hf H locs hP hD hS ls (lv_sub hl [] rfl)
    · replace hf := zIf_f hf hc
      refine lv_aload_n C.1.1 C.1.2.1 dX6_append_17 rfl (lv_at hl 0 rfl) ?_
      refine zGet (.ref (aT 1)) C.1 wuX6 hK hP 0 rfl rfl 0 (by decide) wfX6_9 rfl rfl dX6_append_18 ?_
      refine lv_aload_n C.1.1 C.1.2.1 dX6_append_21 rfl (lv_at hl 0 rfl) ?_
      refine zGet (.int (oT_4 1 0)) C.1 wuX6 hK hP 0 rfl rfl 1 (by decide) wfX6_15 rfl rfl dX6_append_22 ?_
      refine lv_iload_n C.1.1 C.1.2.1 dX6_append_25 rfl (lv_at hl 1 rfl) ?_
      refine lv_iload_n C.1.1 C.1.2.1 dX6_append_26 rfl (lv_at hl 2 rfl) ?_
      refine lv_iushr C.1.1 C.1.2.1 dX6_append_27 rfl ?_
      refine lv_sipush (v := 255) C.1.1 C.1.2.1 dX6_append_28 (by decide) ?_
      refine lv_iand C.1.1 C.1.2.1 dX6_append_31 ?_
      obtain ⟨hib, hf⟩ := zGd_el hf
      obtain ⟨oT_6, eoT_6, hf⟩ := zLet_el hf
      refine zIast (kX6 cI cB aT oT_6) C.1 hK hP hD hS 1 0 rfl rfl hib dX6_append_32 (by rw [eoT_6]; rfl) (fun H locs hP hD hS => ?_)
      refine lv_aload_n C.1.1 C.1.2.1 dX6_append_33 rfl (lv_at hl 0 rfl) ?_
      refine lv_dup C.1.1 C.1.2.1 dX6_append_34 rfl ?_
      refine zGet (.int (oT_6 1 0)) C.1 wuX6 hK hP 0 rfl rfl 1 (by decide) wfX6_15 rfl rfl dX6_append_35 ?_
      refine lv_iconst (v := 1) C.1.1 C.1.2.1 dX6_append_38 (by decide) ?_
      refine lv_iadd C.1.1 C.1.2.1 dX6_append_39 ?_
      obtain ⟨oT_7, eoT_7, hf⟩ := zLet_el hf
      refine zPut (ty := .int) (kX6 cI cB aT oT_7) C.1 wuX6 tyX6 tyX6_ok nmX6 hK hP hD hS 0 rfl rfl 1 (by decide) wfX6_15 rfl rfl (by decide +kernel) rfl rfl (Nat.le_of_ble_eq_true rfl) dX6_append_40 (by rw [eoT_7]; rfl) (fun H locs hP hD hS => ?_)
      obtain ⟨x8, ex8, hf⟩ := zLet_el hf
      refine lv_iinc (v := x8) (lv' := [(2, .int x8), (0, .ref (aT 0)), (1, .int p1)]) C.1.1 C.1.2.1 dX6_append_43 hl (k := 2) rfl (by rw [ex8]; rfl) (by decide) rfl (fun ls hl => ?_)
      refine lv_goto (tgt := 3) C.1.1 C.1.2.1 dX6_append_46 (by decide) ?_
      exact ihgo5 x8 oT_7 hf H locs hP hD hS ls (lv_sub hl [1, 2, 0] rfl)
def fX6_clear (oT : Rc) : Option (Rc) :=
  zLet (rs oT 1 (fun _ => (0 : Int32))) fun oT_1 =>
  some oT_1
abbrev rX6_clear : Room := { frames := 0, cells := 0, slots := 0, locals := 0 }
set_option maxHeartbeats 4000000 in
set_option maxRecDepth 100000 in
theorem mtX6_clear (l : Launch) (dC : Nat → ClassId) (dI : Nat → Nat → Nat) (cI cB : ClassId) (aT : Nat → Nat) (sz : Nat) (oT : Rc) {oT' : Rc} (hf : fX6_clear oT = some oT') : zMv l yX6_clear (Cond.code yX6_clear cX6_clear 1 none :: lw_g) rX6_clear (dC, dI) [(cI, .int), (cB, .byte)] [.ref (aT 0)] sz (kX6 cI cB aT oT) (kX6 cI cB aT oT') := by
  refine zSt (cc := cX6_clear) (maxL := 1) (ret := none) (own := RX6) (fun A => zQv (dC, dI) [(cI, .int), (cB, .byte)] A (kX6 cI cB aT oT')) (by decide) rfl rfl (Nat.le_of_ble_eq_true rfl) ?_
  intro p e s m below meth c ls A H locs C hK hA hP hD hS hl
  generalize hQ : MQ below (zQv (dC, dI) [(cI, .int), (cB, .byte)] A (kX6 cI cB aT oT')) _ s 0 0 A = QQ
  generalize ([.ref (aT 0)] : List Value).toArray = args at C hQ ⊢
  have hl : lv_has ls 1 [(0, .ref (aT 0))] := hl
  unfold fX6_clear at hf
  refine lv_aload_n C.1.1 C.1.2.1 dX6_clear_0 rfl (lv_at hl 0 rfl) ?_
  refine lv_iconst (v := 0) C.1.1 C.1.2.1 dX6_clear_1 (by decide) ?_
  obtain ⟨oT_1, eoT_1, hf⟩ := zLet_el hf
  refine zPut (ty := .int) (kX6 cI cB aT oT_1) C.1 wuX6 tyX6 tyX6_ok nmX6 hK hP hD hS 0 rfl rfl 1 (by decide) wfX6_15 rfl rfl (by decide +kernel) rfl rfl (Nat.le_of_ble_eq_true rfl) dX6_clear_2 (by rw [eoT_1]; rfl) (fun H locs hP hD hS => ?_)
  cases hf
  rw [← hQ]
  exact zRv C hK hP hD hS dX6_clear_5
def fX6_skipBlanks_L0 (J52_2 : Rc → Option (Rc)) (n : Nat) (oT_3 : Rc) : Option (Rc) := zLp1 (fun (go4 : Rc → Option (Rc)) (oT_3 : Rc) =>
    if (oT_3 2 0) ≤ (oT_3 3 0) then (
      J52_2 oT_3
    ) else (
      zGd (inb (oT_3 3 0) 600) <|
      zJn (fun (_ : Unit) =>
          zLet (rs oT_3 3 (fun _ => ((oT_3 3 0) + (1 : Int32)))) fun oT_6 =>
          go4 oT_6
        ) fun J39_5 =>
      if (oT_3 0 (oT_3 3 0).toNatClampNeg) = (32 : Int32) then (
        J39_5 ()
      ) else (
        zGd (inb (oT_3 3 0) 600) <|
        if (oT_3 0 (oT_3 3 0).toNatClampNeg) = (10 : Int32) then (
          J39_5 ()
        ) else (
          J52_2 oT_3
        )
      )
    )
  ) n oT_3
def fX6_skipBlanks (NN : Nat) (oT : Rc) : Option (Rc) :=
  zJn (fun (oT_1 : Rc) =>
      some oT_1
    ) fun J52_2 =>
  fX6_skipBlanks_L0 J52_2 NN oT
abbrev rX6_skipBlanks : Room := { frames := 0, cells := 0, slots := 0, locals := 0 }
set_option maxHeartbeats 4000000 in
set_option maxRecDepth 100000 in
theorem mtX6_skipBlanks (l : Launch) (dC : Nat → ClassId) (dI : Nat → Nat → Nat) (cI cB : ClassId) (aT : Nat → Nat) (sz : Nat) (NN : Nat) (oT : Rc) {oT' : Rc} (hf : fX6_skipBlanks NN oT = some oT') : zMv l yX6_skipBlanks (Cond.code yX6_skipBlanks cX6_skipBlanks 1 none :: lw_g) rX6_skipBlanks (dC, dI) [(cI, .int), (cB, .byte)] [.ref (aT 0)] sz (kX6 cI cB aT oT) (kX6 cI cB aT oT') := by
  refine zSt (cc := cX6_skipBlanks) (maxL := 1) (ret := none) (own := RX6) (fun A => zQv (dC, dI) [(cI, .int), (cB, .byte)] A (kX6 cI cB aT oT')) (by decide) rfl rfl (Nat.le_of_ble_eq_true rfl) ?_
  intro p e s m below meth c ls A H locs C hK hA hP hD hS hl
  generalize hQ : MQ below (zQv (dC, dI) [(cI, .int), (cB, .byte)] A (kX6 cI cB aT oT')) _ s 0 0 A = QQ
  generalize ([.ref (aT 0)] : List Value).toArray = args at C hQ ⊢
  have hl : lv_has ls 1 [(0, .ref (aT 0))] := hl
  unfold fX6_skipBlanks at hf
  obtain ⟨J52_2, eJ52_2, hf⟩ := zJn_el hf
  have hJ52_2 : ∀ (oT_1 : Rc), J52_2 oT_1 = some oT' → ∀ (H : Heap) (locs : List Loc), va_P (dC, dI) vwCl (kX6 cI cB aT oT_1) H → va_D A (kX6 cI cB aT oT_1) → va_S A s.heap H locs → ∀ (ls : Array Slot), lv_has ls 1 [] → W p l e rX6_skipBlanks s m args below meth c H locs 0 0 QQ (F0 m 52 ls []) := by
    intro oT_1 hf H locs hP hD hS ls hl
    rw [eJ52_2] at hf
    cases hf
    rw [← hQ]
    exact zRv C hK hP hD hS dX6_skipBlanks_52
  refine zLp1_ind (o := oT') (P := fun (oT_3 : Rc) => ∀ (H : Heap) (locs : List Loc), va_P (dC, dI) vwCl (kX6 cI cB aT oT_3) H → va_D A (kX6 cI cB aT oT_3) → va_S A s.heap H locs → ∀ (ls : Array Slot), lv_has ls 1 [(0, .ref (aT 0))] → W p l e rX6_skipBlanks s m args below meth c H locs 0 0 QQ (F0 m 0 ls [])) (fun go4 ihgo4 oT_3 hf H locs hP hD hS ls hl => ?_) _ oT hf H locs hP hD hS ls (lv_sub hl [0] rfl)
  refine lv_aload_n C.1.1 C.1.2.1 dX6_skipBlanks_0 rfl (lv_at hl 0 rfl) ?_
  refine zGet (.int (oT_3 3 0)) C.1 wuX6 hK hP 0 rfl rfl 3 (by decide) wfX6_22 rfl rfl dX6_skipBlanks_1 ?_
  refine lv_aload_n C.1.1 C.1.2.1 dX6_skipBlanks_4 rfl (lv_at hl 0 rfl) ?_
  refine zGet (.int (oT_3 2 0)) C.1 wuX6 hK hP 0 rfl rfl 2 (by decide) wfX6_19 rfl rfl dX6_skipBlanks_5 ?_
  refine lv_icmp_ge (tgt := 52) C.1.1 C.1.2.1 dX6_skipBlanks_8 (by decide) (fun hc => ?_) (fun hc => ?_)
  · replace hf := zIf_t hf hc
    exact hJ52_2 oT_3 hf H locs hP hD hS ls (lv_sub hl [] rfl)
  · replace hf := zIf_f hf hc
    refine lv_aload_n C.1.1 C.1.2.1 dX6_skipBlanks_11 rfl (lv_at hl 0 rfl) ?_
    refine zGet (.ref (aT 1)) C.1 wuX6 hK hP 0 rfl rfl 0 (by decide) wfX6_9 rfl rfl dX6_skipBlanks_12 ?_
    refine lv_aload_n C.1.1 C.1.2.1 dX6_skipBlanks_15 rfl (lv_at hl 0 rfl) ?_
    refine zGet (.int (oT_3 3 0)) C.1 wuX6 hK hP 0 rfl rfl 3 (by decide) wfX6_22 rfl rfl dX6_skipBlanks_16 ?_
    obtain ⟨hib, hf⟩ := zGd_el hf
    refine va_iald C.1.1 C.1.2.1 hK.1 hP 1 0 rfl rfl hib dX6_skipBlanks_19 ?_
    refine lv_bipush (v := 32) C.1.1 C.1.2.1 dX6_skipBlanks_20 (by decide) ?_
    obtain ⟨J39_5, eJ39_5, hf⟩ := zJn_el hf
    have hJ39_5 : ∀ (u : Unit), J39_5 u = some oT' → ∀ (H : Heap) (locs : List Loc), va_P (dC, dI) vwCl (kX6 cI cB aT oT_3) H → va_D A (kX6 cI cB aT oT_3) → va_S A s.heap H locs → ∀ (ls : Array Slot), lv_has ls 1 [(0, .ref (aT 0))] → W p l e rX6_skipBlanks s m args below meth c H locs 0 0 QQ (F0 m 39 ls []) := by
      intro u hf H locs hP hD hS ls hl
      rw [eJ39_5] at hf
      refine lv_aload_n C.1.1 C.1.2.1 dX6_skipBlanks_39 rfl (lv_at hl 0 rfl) ?_
      refine lv_dup C.1.1 C.1.2.1 dX6_skipBlanks_40 rfl ?_
      refine zGet (.int (oT_3 3 0)) C.1 wuX6 hK hP 0 rfl rfl 3 (by decide) wfX6_22 rfl rfl dX6_skipBlanks_41 ?_
      refine lv_iconst (v := 1) C.1.1 C.1.2.1 dX6_skipBlanks_44 (by decide) ?_
      refine lv_iadd C.1.1 C.1.2.1 dX6_skipBlanks_45 ?_
      obtain ⟨oT_6, eoT_6, hf⟩ := zLet_el hf
      refine zPut (ty := .int) (kX6 cI cB aT oT_6) C.1 wuX6 tyX6 tyX6_ok nmX6 hK hP hD hS 0 rfl rfl 3 (by decide) wfX6_22 rfl rfl (by decide +kernel) rfl rfl (Nat.le_of_ble_eq_true rfl) dX6_skipBlanks_46 (by rw [eoT_6]; rfl) (fun H locs hP hD hS => ?_)
      refine lv_goto (tgt := 0) C.1.1 C.1.2.1 dX6_skipBlanks_49 (by decide) ?_
      exact ihgo4 oT_6 hf H locs hP hD hS ls (lv_sub hl [0] rfl)
    refine lv_icmp_eq (tgt := 39) C.1.1 C.1.2.1 dX6_skipBlanks_22 (by decide) (fun hc => ?_) (fun hc => ?_)
    · replace hf := zIf_t hf hc
      exact hJ39_5 () hf H locs hP hD hS ls (lv_sub hl [0] rfl)
    · replace hf := zIf_f hf hc
      refine lv_aload_n C.1.1 C.1.2.1 dX6_skipBlanks_25 rfl (lv_at hl 0 rfl) ?_
      refine zGet (.ref (aT 1)) C.1 wuX6 hK hP 0 rfl rfl 0 (by decide) wfX6_9 rfl rfl dX6_skipBlanks_26 ?_
      refine lv_aload_n C.1.1 C.1.2.1 dX6_skipBlanks_29 rfl (lv_at hl 0 rfl) ?_
      refine zGet (.int (oT_3 3 0)) C.1 wuX6 hK hP 0 rfl rfl 3 (by decide) wfX6_22 rfl rfl dX6_skipBlanks_30 ?_
      obtain ⟨hib, hf⟩ := zGd_el hf
      refine va_iald C.1.1 C.1.2.1 hK.1 hP 1 0 rfl rfl hib dX6_skipBlanks_33 ?_
      refine lv_bipush (v := 10) C.1.1 C.1.2.1 dX6_skipBlanks_34 (by decide) ?_
      refine lv_icmp_ne (tgt := 52) C.1.1 C.1.2.1 dX6_skipBlanks_36 (by decide) (fun hc => ?_) (fun hc => ?_)
      · replace hf := zIf_f hf hc
        exact hJ52_2 oT_3 hf H locs hP hD hS ls (lv_sub hl [] rfl)
      · replace hf := zIf_t hf hc
        exact hJ39_5 () hf H locs hP hD hS ls (lv_sub hl [0] rfl)
def fX6_isLetter (p1 : Int32) : Option (Int32) :=
  if p1 < (97 : Int32) then (
    some (0 : Int32)
  ) else (
    if (122 : Int32) < p1 then (
      some (0 : Int32)
    ) else (
      some (1 : Int32)
    )
  )
abbrev rX6_isLetter : Room := { frames := 0, cells := 0, slots := 0, locals := 0 }
set_option maxHeartbeats 4000000 in
set_option maxRecDepth 100000 in
theorem mtX6_isLetter (l : Launch) (dC : Nat → ClassId) (dI : Nat → Nat → Nat) (cI cB : ClassId) (sz : Nat) (p1 : Int32) {ov : Int32} (hf : fX6_isLetter p1 = some ov) : zMi l yX6_isLetter (Cond.code yX6_isLetter cX6_isLetter 1 (some .boolean) :: lw_g) rX6_isLetter (dC, dI) [(cI, .int), (cB, .byte)] [.int p1] sz ([] : va_W) ov ([] : va_W) := by
  refine zSt (cc := cX6_isLetter) (maxL := 1) (ret := (some .boolean)) (own := RX6) (fun A => zQi (dC, dI) [(cI, .int), (cB, .byte)] A ov ([] : va_W)) (by decide) rfl rfl (Nat.le_of_ble_eq_true rfl) ?_
  intro p e s m below meth c ls A H locs C hK hA hP hD hS hl
  generalize hQ : MQ below (zQi (dC, dI) [(cI, .int), (cB, .byte)] A ov ([] : va_W)) _ s 0 0 A = QQ
  generalize ([.int p1] : List Value).toArray = args at C hQ ⊢
  have hl : lv_has ls 1 [(0, .int p1)] := hl
  unfold fX6_isLetter at hf
  refine lv_iload_n C.1.1 C.1.2.1 dX6_isLetter_0 rfl (lv_at hl 0 rfl) ?_
  refine lv_bipush (v := 97) C.1.1 C.1.2.1 dX6_isLetter_1 (by decide) ?_
  refine lv_icmp_lt (tgt := 16) C.1.1 C.1.2.1 dX6_isLetter_3 (by decide) (fun hc => ?_) (fun hc => ?_)
  · replace hf := zIf_t hf hc
    refine lv_iconst (v := 0) C.1.1 C.1.2.1 dX6_isLetter_16 (by decide) ?_
    cases hf
    rw [← hQ]
    exact zRz C (by decide +kernel) hK hP hD hS dX6_isLetter_17
  · replace hf := zIf_f hf hc
    refine lv_iload_n C.1.1 C.1.2.1 dX6_isLetter_6 rfl (lv_at hl 0 rfl) ?_
    refine lv_bipush (v := 122) C.1.1 C.1.2.1 dX6_isLetter_7 (by decide) ?_
    refine lv_icmp_gt (tgt := 16) C.1.1 C.1.2.1 dX6_isLetter_9 (by decide) (fun hc => ?_) (fun hc => ?_)
    · replace hf := zIf_t hf hc
      refine lv_iconst (v := 0) C.1.1 C.1.2.1 dX6_isLetter_16 (by decide) ?_
      cases hf
      rw [← hQ]
      exact zRz C (by decide +kernel) hK hP hD hS dX6_isLetter_17
    · replace hf := zIf_f hf hc
      refine lv_iconst (v := 1) C.1.1 C.1.2.1 dX6_isLetter_12 (by decide) ?_
      refine lv_goto (tgt := 17) C.1.1 C.1.2.1 dX6_isLetter_13 (by decide) ?_
      cases hf
      rw [← hQ]
      exact zRz C (by decide +kernel) hK hP hD hS dX6_isLetter_17
def fX6_takeWord_L0 (J39_2 : Rc → Option (Rc)) (n : Nat) (oT_14 : Rc) : Option (Rc) := zLp1 (fun (go15 : Rc → Option (Rc)) (oT_14 : Rc) =>
    if (oT_14 2 0) ≤ (oT_14 3 0) then (
      J39_2 oT_14
    ) else (
      zGd (inb (oT_14 3 0) 600) <|
      zB1 (fX6_isLetter (oT_14 0 (oT_14 3 0).toNatClampNeg)) fun v16 =>
      if v16 = 0 then (
        J39_2 oT_14
      ) else (
        zLet (rs oT_14 3 (fun _ => ((oT_14 3 0) + (1 : Int32)))) fun oT_17 =>
        go15 oT_17
      )
    )
  ) n oT_14
def fX6_takeWord (NN : Nat) (oT : Rc) : Option (Rc) :=
  zJn (fun (oT_1 : Rc) =>
      zLet ((oT_1 3 0) - (oT_1 5 0)) fun x3 =>
      zJn (fun (t4 : Int32) =>
          zLet (rs oT_1 4 (fun _ => t4)) fun oT_6 =>
          zJn (fun (oT_7 : Rc) =>
              zJn (fun (t9 : Int32) =>
                  zGd (zbit t9) <|
                  zLet (rs oT_7 9 (fun _ => t9)) fun oT_11 =>
                  some oT_11
                ) fun J140_10 =>
              zJn (fun (_ : Unit) =>
                  J140_10 (0 : Int32)
                ) fun J139_12 =>
              if x3 = (2 : Int32) then (
                zGd (inb (oT_7 5 0) 600) <|
                if (oT_7 0 (oT_7 5 0).toNatClampNeg) = (105 : Int32) then (
                  zGd (inb ((oT_7 5 0) + (1 : Int32)) 600) <|
                  if (oT_7 0 ((oT_7 5 0) + (1 : Int32)).toNatClampNeg) = (102 : Int32) then (
                    J140_10 (1 : Int32)
                  ) else (
                    J139_12 ()
                  )
                ) else (
                  J139_12 ()
                )
              ) else (
                J139_12 ()
              )
            ) fun J99_8 =>
          if x3 = (1 : Int32) then (
            zGd (inb (oT_6 5 0) 600) <|
            if (105 : Int32) ≤ (oT_6 0 (oT_6 5 0).toNatClampNeg) then (
              J99_8 oT_6
            ) else (
              zGd (inb (oT_6 5 0) 600) <|
              zLet (rs oT_6 8 (fun _ => ((oT_6 0 (oT_6 5 0).toNatClampNeg) - (97 : Int32)))) fun oT_13 =>
              J99_8 oT_13
            )
          ) else (
            J99_8 oT_6
          )
        ) fun J61_5 =>
      if (8 : Int32) < x3 then (
        J61_5 (1 : Int32)
      ) else (
        J61_5 (2 : Int32)
      )
    ) fun J39_2 =>
  fX6_takeWord_L0 J39_2 NN oT
abbrev rX6_takeWord : Room := { frames := 1, cells := 0, slots := 0, locals := 20 }
set_option maxHeartbeats 4000000 in
set_option maxRecDepth 100000 in
theorem mtX6_takeWord (l : Launch) (dC : Nat → ClassId) (dI : Nat → Nat → Nat) (cI cB : ClassId) (aT : Nat → Nat) (sz : Nat) (NN : Nat) (oT : Rc) {oT' : Rc} (hf : fX6_takeWord NN oT = some oT') : zMv l yX6_takeWord (Cond.code yX6_takeWord cX6_takeWord 2 none :: lw_g) rX6_takeWord (dC, dI) [(cI, .int), (cB, .byte)] [.ref (aT 0)] sz (kX6 cI cB aT oT) (kX6 cI cB aT oT') := by
  refine zSt (cc := cX6_takeWord) (maxL := 2) (ret := none) (own := RX6) (fun A => zQv (dC, dI) [(cI, .int), (cB, .byte)] A (kX6 cI cB aT oT')) (by decide) rfl rfl (Nat.le_of_ble_eq_true rfl) ?_
  intro p e s m below meth c ls A H locs C hK hA hP hD hS hl
  generalize hQ : MQ below (zQv (dC, dI) [(cI, .int), (cB, .byte)] A (kX6 cI cB aT oT')) _ s 0 0 A = QQ
  generalize ([.ref (aT 0)] : List Value).toArray = args at C hQ ⊢
  have hl : lv_has ls 2 [(0, .ref (aT 0))] := hl
  unfold fX6_takeWord at hf
  obtain ⟨J39_2, eJ39_2, hf⟩ := zJn_el hf
  have hJ39_2 : ∀ (oT_1 : Rc), J39_2 oT_1 = some oT' → ∀ (H : Heap) (locs : List Loc), va_P (dC, dI) vwCl (kX6 cI cB aT oT_1) H → va_D A (kX6 cI cB aT oT_1) → va_S A s.heap H locs → ∀ (ls : Array Slot), lv_has ls 2 [(0, .ref (aT 0))] → W p l e rX6_takeWord s m args below meth c H locs 0 0 QQ (F0 m 39 ls []) := by
    intro oT_1 hf H locs hP hD hS ls hl
    rw [eJ39_2] at hf
    refine lv_aload_n C.1.1 C.1.2.1 dX6_takeWord_39 rfl (lv_at hl 0 rfl) ?_
    refine zGet (.int (oT_1 3 0)) C.1 wuX6 hK hP 0 rfl rfl 3 (by decide) wfX6_22 rfl rfl dX6_takeWord_40 ?_
    refine lv_aload_n C.1.1 C.1.2.1 dX6_takeWord_43 rfl (lv_at hl 0 rfl) ?_
    refine zGet (.int (oT_1 5 0)) C.1 wuX6 hK hP 0 rfl rfl 5 (by decide) wfX6_28 rfl rfl dX6_takeWord_44 ?_
    refine lv_isub C.1.1 C.1.2.1 dX6_takeWord_47 ?_
    refine lv_topi (fun x3 ex3 => ?_)
    replace hf := zLet_at hf ex3
    refine lv_istore_n (lv' := [(1, .int x3), (0, .ref (aT 0))]) C.1.1 C.1.2.1 dX6_takeWord_48 rfl hl (by decide) rfl (fun ls hl => ?_)
    refine lv_aload_n C.1.1 C.1.2.1 dX6_takeWord_49 rfl (lv_at hl 1 rfl) ?_
    refine lv_iload_n C.1.1 C.1.2.1 dX6_takeWord_50 rfl (lv_at hl 0 rfl) ?_
    refine lv_bipush (v := 8) C.1.1 C.1.2.1 dX6_takeWord_51 (by decide) ?_
    obtain ⟨J61_5, eJ61_5, hf⟩ := zJn_el hf
    have hJ61_5 : ∀ (t4 : Int32), J61_5 t4 = some oT' → ∀ (H : Heap) (locs : List Loc), va_P (dC, dI) vwCl (kX6 cI cB aT oT_1) H → va_D A (kX6 cI cB aT oT_1) → va_S A s.heap H locs → ∀ (ls : Array Slot), lv_has ls 2 [(0, .ref (aT 0)), (1, .int x3)] → W p l e rX6_takeWord s m args below meth c H locs 0 0 QQ (F0 m 61 ls [.int t4, .ref (aT 0)]) := by
      intro t4 hf H locs hP hD hS ls hl
      rw [eJ61_5] at hf
      obtain ⟨oT_6, eoT_6, hf⟩ := zLet_el hf
      refine zPut (ty := .int) (kX6 cI cB aT oT_6) C.1 wuX6 tyX6 tyX6_ok nmX6 hK hP hD hS 0 rfl rfl 4 (by decide) wfX6_25 rfl rfl (by decide +kernel) rfl rfl (Nat.le_of_ble_eq_true rfl) dX6_takeWord_61 (by rw [eoT_6]; rfl) (fun H locs hP hD hS => ?_)
      refine lv_iload_n C.1.1 C.1.2.1 dX6_takeWord_64 rfl (lv_at hl 1 rfl) ?_
      refine lv_iconst (v := 1) C.1.1 C.1.2.1 dX6_takeWord_65 (by decide) ?_
      obtain ⟨J99_8, eJ99_8, hf⟩ := zJn_el hf
      have hJ99_8 : ∀ (oT_7 : Rc), J99_8 oT_7 = some oT' → ∀ (H : Heap) (locs : List Loc), va_P (dC, dI) vwCl (kX6 cI cB aT oT_7) H → va_D A (kX6 cI cB aT oT_7) → va_S A s.heap H locs → ∀ (ls : Array Slot), lv_has ls 2 [(0, .ref (aT 0)), (1, .int x3)] → W p l e rX6_takeWord s m args below meth c H locs 0 0 QQ (F0 m 99 ls []) := by
        intro oT_7 hf H locs hP hD hS ls hl
        rw [eJ99_8] at hf
        refine lv_aload_n C.1.1 C.1.2.1 dX6_takeWord_99 rfl (lv_at hl 0 rfl) ?_
        refine lv_iload_n C.1.1 C.1.2.1 dX6_takeWord_100 rfl (lv_at hl 1 rfl) ?_
        refine lv_iconst (v := 2) C.1.1 C.1.2.1 dX6_takeWord_101 (by decide) ?_
        obtain ⟨J140_10, eJ140_10, hf⟩ := zJn_el hf
        have hJ140_10 : ∀ (t9 : Int32), J140_10 t9 = some oT' → ∀ (H : Heap) (locs : List Loc), va_P (dC, dI) vwCl (kX6 cI cB aT oT_7) H → va_D A (kX6 cI cB aT oT_7) → va_S A s.heap H locs → ∀ (ls : Array Slot), lv_has ls 2 [] → W p l e rX6_takeWord s m args below meth c H locs 0 0 QQ (F0 m 140 ls [.int t9, .ref (aT 0)]) := by
          intro t9 hf H locs hP hD hS ls hl
          rw [eJ140_10] at hf
          obtain ⟨hz, hf⟩ := zGd_el hf
          obtain ⟨oT_11, eoT_11, hf⟩ := zLet_el hf
          refine zPut (ty := .boolean) (kX6 cI cB aT oT_11) C.1 wuX6 tyX6 tyX6_ok nmX6 hK hP hD hS 0 rfl rfl 9 (by decide) wfX6_40 rfl rfl (by decide +kernel) (zbit_n hz).1 (zbit_n hz).2 (Nat.le_of_ble_eq_true rfl) dX6_takeWord_140 (by rw [eoT_11]; rfl) (fun H locs hP hD hS => ?_)
          cases hf
          rw [← hQ]
          exact zRv C hK hP hD hS dX6_takeWord_143
        obtain ⟨J139_12, eJ139_12, hf⟩ := zJn_el hf
        have hJ139_12 : ∀ (u : Unit), J139_12 u = some oT' → ∀ (H : Heap) (locs : List Loc), va_P (dC, dI) vwCl (kX6 cI cB aT oT_7) H → va_D A (kX6 cI cB aT oT_7) → va_S A s.heap H locs → ∀ (ls : Array Slot), lv_has ls 2 [] → W p l e rX6_takeWord s m args below meth c H locs 0 0 QQ (F0 m 139 ls [.ref (aT 0)]) := by
          intro u hf H locs hP hD hS ls hl
          rw [eJ139_12] at hf
          refine lv_iconst (v := 0) C.1.1 C.1.2.1 dX6_takeWord_139 (by decide) ?_
          exact hJ140_10 (0 : Int32) hf H locs hP hD hS ls (lv_sub hl [] rfl)
        refine lv_icmp_ne (tgt := 139) C.1.1 C.1.2.1 dX6_takeWord_102 (by decide) (fun hc => ?_) (fun hc => ?_)
        · replace hf := zIf_f hf hc
          exact hJ139_12 () hf H locs hP hD hS ls (lv_sub hl [] rfl)
        · replace hf := zIf_t hf hc
          refine lv_aload_n C.1.1 C.1.2.1 dX6_takeWord_105 rfl (lv_at hl 0 rfl) ?_
          refine zGet (.ref (aT 1)) C.1 wuX6 hK hP 0 rfl rfl 0 (by decide) wfX6_9 rfl rfl dX6_takeWord_106 ?_
          refine lv_aload_n C.1.1 C.1.2.1 dX6_takeWord_109 rfl (lv_at hl 0 rfl) ?_
          refine zGet (.int (oT_7 5 0)) C.1 wuX6 hK hP 0 rfl rfl 5 (by decide) wfX6_28 rfl rfl dX6_takeWord_110 ?_
          obtain ⟨hib, hf⟩ := zGd_el hf
          refine va_iald C.1.1 C.1.2.1 hK.1 hP 1 0 rfl rfl hib dX6_takeWord_113 ?_
          refine lv_bipush (v := 105) C.1.1 C.1.2.1 dX6_takeWord_114 (by decide) ?_
          refine lv_icmp_ne (tgt := 139) C.1.1 C.1.2.1 dX6_takeWord_116 (by decide) (fun hc => ?_) (fun hc => ?_)
          · replace hf := zIf_f hf hc
            exact hJ139_12 () hf H locs hP hD hS ls (lv_sub hl [] rfl)
          · replace hf := zIf_t hf hc
            refine lv_aload_n C.1.1 C.1.2.1 dX6_takeWord_119 rfl (lv_at hl 0 rfl) ?_
            refine zGet (.ref (aT 1)) C.1 wuX6 hK hP 0 rfl rfl 0 (by decide) wfX6_9 rfl rfl dX6_takeWord_120 ?_
            refine lv_aload_n C.1.1 C.1.2.1 dX6_takeWord_123 rfl (lv_at hl 0 rfl) ?_
            refine zGet (.int (oT_7 5 0)) C.1 wuX6 hK hP 0 rfl rfl 5 (by decide) wfX6_28 rfl rfl dX6_takeWord_124 ?_
            refine lv_iconst (v := 1) C.1.1 C.1.2.1 dX6_takeWord_127 (by decide) ?_
            refine lv_iadd C.1.1 C.1.2.1 dX6_takeWord_128 ?_
            obtain ⟨hib, hf⟩ := zGd_el hf
            refine va_iald C.1.1 C.1.2.1 hK.1 hP 1 0 rfl rfl hib dX6_takeWord_129 ?_
            refine lv_bipush (v := 102) C.1.1 C.1.2.1 dX6_takeWord_130 (by decide) ?_
            refine lv_icmp_ne (tgt := 139) C.1.1 C.1.2.1 dX6_takeWord_132 (by decide) (fun hc => ?_) (fun hc => ?_)
            · replace hf := zIf_f hf hc
              exact hJ139_12 () hf H locs hP hD hS ls (lv_sub hl [] rfl)
            · replace hf := zIf_t hf hc
              refine lv_iconst (v := 1) C.1.1 C.1.2.1 dX6_takeWord_135 (by decide) ?_
              refine lv_goto (tgt := 140) C.1.1 C.1.2.1 dX6_takeWord_136 (by decide) ?_
              exact hJ140_10 (1 : Int32) hf H locs hP hD hS ls (lv_sub hl [] rfl)
      refine lv_icmp_ne (tgt := 99) C.1.1 C.1.2.1 dX6_takeWord_66 (by decide) (fun hc => ?_) (fun hc => ?_)
      · replace hf := zIf_f hf hc
        exact hJ99_8 oT_6 hf H locs hP hD hS ls (lv_sub hl [0, 1] rfl)
      · replace hf := zIf_t hf hc
        refine lv_aload_n C.1.1 C.1.2.1 dX6_takeWord_69 rfl (lv_at hl 0 rfl) ?_
        refine zGet (.ref (aT 1)) C.1 wuX6 hK hP 0 rfl rfl 0 (by decide) wfX6_9 rfl rfl dX6_takeWord_70 ?_
        refine lv_aload_n C.1.1 C.1.2.1 dX6_takeWord_73 rfl (lv_at hl 0 rfl) ?_
        refine zGet (.int (oT_6 5 0)) C.1 wuX6 hK hP 0 rfl rfl 5 (by decide) wfX6_28 rfl rfl dX6_takeWord_74 ?_
        obtain ⟨hib, hf⟩ := zGd_el hf
        refine va_iald C.1.1 C.1.2.1 hK.1 hP 1 0 rfl rfl hib dX6_takeWord_77 ?_
        refine lv_bipush (v := 105) C.1.1 C.1.2.1 dX6_takeWord_78 (by decide) ?_
        refine lv_icmp_ge (tgt := 99) C.1.1 C.1.2.1 dX6_takeWord_80 (by decide) (fun hc => ?_) (fun hc => ?_)
        · replace hf := zIf_t hf hc
          exact hJ99_8 oT_6 hf H locs hP hD hS ls (lv_sub hl [0, 1] rfl)
        · replace hf := zIf_f hf hc
          refine lv_aload_n C.1.1 C.1.2.1 dX6_takeWord_83 rfl (lv_at hl 0 rfl) ?_
          refine lv_aload_n C.1.1 C.1.2.1 dX6_takeWord_84 rfl (lv_at hl 0 rfl) ?_
          refine zGet (.ref (aT 1)) C.1 wuX6 hK hP 0 rfl rfl 0 (by decide) wfX6_9 rfl rfl dX6_takeWord_85 ?_
          refine lv_aload_n C.1.1 C.1.2.1 dX6_takeWord_88 rfl (lv_at hl 0 rfl) ?_
          refine zGet (.int (oT_6 5 0)) C.1 wuX6 hK hP 0 rfl rfl 5 (by decide) wfX6_28 rfl rfl dX6_takeWord_89 ?_
          obtain ⟨hib, hf⟩ := zGd_el hf
          refine va_iald C.1.1 C.1.2.1 hK.1 hP 1 0 rfl rfl hib dX6_takeWord_92 ?_
          refine lv_bipush (v := 97) C.1.1 C.1.2.1 dX6_takeWord_93 (by decide) ?_
          refine lv_isub C.1.1 C.1.2.1 dX6_takeWord_95 ?_
          obtain ⟨oT_13, eoT_13, hf⟩ := zLet_el hf
          refine zPut (ty := .int) (kX6 cI cB aT oT_13) C.1 wuX6 tyX6 tyX6_ok nmX6 hK hP hD hS 0 rfl rfl 8 (by decide) wfX6_37 rfl rfl (by decide +kernel) rfl rfl (Nat.le_of_ble_eq_true rfl) dX6_takeWord_96 (by rw [eoT_13]; rfl) (fun H locs hP hD hS => ?_)
          exact hJ99_8 oT_13 hf H locs hP hD hS ls (lv_sub hl [0, 1] rfl)
    refine lv_icmp_gt (tgt := 60) C.1.1 C.1.2.1 dX6_takeWord_53 (by decide) (fun hc => ?_) (fun hc => ?_)
    · replace hf := zIf_t hf hc
      refine lv_iconst (v := 1) C.1.1 C.1.2.1 dX6_takeWord_60 (by decide) ?_
      exact hJ61_5 (1 : Int32) hf H locs hP hD hS ls (lv_sub hl [1, 0] rfl)
    · replace hf := zIf_f hf hc
      refine lv_iconst (v := 2) C.1.1 C.1.2.1 dX6_takeWord_56 (by decide) ?_
      refine lv_goto (tgt := 61) C.1.1 C.1.2.1 dX6_takeWord_57 (by decide) ?_
      exact hJ61_5 (2 : Int32) hf H locs hP hD hS ls (lv_sub hl [1, 0] rfl)
  refine zLp1_ind (o := oT') (P := fun (oT_14 : Rc) => ∀ (H : Heap) (locs : List Loc), va_P (dC, dI) vwCl (kX6 cI cB aT oT_14) H → va_D A (kX6 cI cB aT oT_14) → va_S A s.heap H locs → ∀ (ls : Array Slot), lv_has ls 2 [(0, .ref (aT 0))] → W p l e rX6_takeWord s m args below meth c H locs 0 0 QQ (F0 m 0 ls [])) (fun go15 ihgo15 oT_14 hf H locs hP hD hS ls hl => ?_) _ oT hf H locs hP hD hS ls (lv_sub hl [0] rfl)
  refine lv_aload_n C.1.1 C.1.2.1 dX6_takeWord_0 rfl (lv_at hl 0 rfl) ?_
  refine zGet (.int (oT_14 3 0)) C.1 wuX6 hK hP 0 rfl rfl 3 (by decide) wfX6_22 rfl rfl dX6_takeWord_1 ?_
  refine lv_aload_n C.1.1 C.1.2.1 dX6_takeWord_4 rfl (lv_at hl 0 rfl) ?_
  refine zGet (.int (oT_14 2 0)) C.1 wuX6 hK hP 0 rfl rfl 2 (by decide) wfX6_19 rfl rfl dX6_takeWord_5 ?_
  refine lv_icmp_ge (tgt := 39) C.1.1 C.1.2.1 dX6_takeWord_8 (by decide) (fun hc => ?_) (fun hc => ?_)
  · replace hf := zIf_t hf hc
    exact hJ39_2 oT_14 hf H locs hP hD hS ls (lv_sub hl [0] rfl)
  · replace hf := zIf_f hf hc
    refine lv_aload_n C.1.1 C.1.2.1 dX6_takeWord_11 rfl (lv_at hl 0 rfl) ?_
    refine zGet (.ref (aT 1)) C.1 wuX6 hK hP 0 rfl rfl 0 (by decide) wfX6_9 rfl rfl dX6_takeWord_12 ?_
    refine lv_aload_n C.1.1 C.1.2.1 dX6_takeWord_15 rfl (lv_at hl 0 rfl) ?_
    refine zGet (.int (oT_14 3 0)) C.1 wuX6 hK hP 0 rfl rfl 3 (by decide) wfX6_22 rfl rfl dX6_takeWord_16 ?_
    obtain ⟨hib, hf⟩ := zGd_el hf
    refine va_iald C.1.1 C.1.2.1 hK.1 hP 1 0 rfl rfl hib dX6_takeWord_19 ?_
    obtain ⟨v16, hg, hf⟩ := zB1_el hf
    refine zCSi (As := [.int (oT_14 0 (oT_14 3 0).toNatClampNeg)]) (rest := []) (wr := (kX6 cI cB aT oT_14)) (wn := (kX6 cI cB aT oT_14)) C.1 hK hA hP hD hS [] [0, 1] [0, 1] (mtX6_isLetter l dC dI cI cB H.size (oT_14 0 (oT_14 3 0).toNatClampNeg) hg) (zCwS 1 C.1 wlX6_59 wtX6_isLetter wnX6 wkX6_isLetter rfl rfl (by decide +kernel) ⟨Nat.le_of_ble_eq_true rfl, Nat.le_of_ble_eq_true rfl⟩) rfl rfl (by decide +kernel) rfl rfl hl.1 (Nat.le_of_ble_eq_true rfl) dX6_takeWord_20 ⟨Nat.zero_le _, Nat.zero_le _⟩ rfl (fun H locs hP hD hS => ?_)
    refine lv_if_eq (tgt := 39) C.1.1 C.1.2.1 dX6_takeWord_23 (by decide) (fun hc => ?_) (fun hc => ?_)
    · replace hf := zIf_t hf hc
      exact hJ39_2 oT_14 hf H locs hP hD hS ls (lv_sub hl [0] rfl)
    · replace hf := zIf_f hf hc
      refine lv_aload_n C.1.1 C.1.2.1 dX6_takeWord_26 rfl (lv_at hl 0 rfl) ?_
      refine lv_dup C.1.1 C.1.2.1 dX6_takeWord_27 rfl ?_
      refine zGet (.int (oT_14 3 0)) C.1 wuX6 hK hP 0 rfl rfl 3 (by decide) wfX6_22 rfl rfl dX6_takeWord_28 ?_
      refine lv_iconst (v := 1) C.1.1 C.1.2.1 dX6_takeWord_31 (by decide) ?_
      refine lv_iadd C.1.1 C.1.2.1 dX6_takeWord_32 ?_
      obtain ⟨oT_17, eoT_17, hf⟩ := zLet_el hf
      refine zPut (ty := .int) (kX6 cI cB aT oT_17) C.1 wuX6 tyX6 tyX6_ok nmX6 hK hP hD hS 0 rfl rfl 3 (by decide) wfX6_22 rfl rfl (by decide +kernel) rfl rfl (Nat.le_of_ble_eq_true rfl) dX6_takeWord_33 (by rw [eoT_17]; rfl) (fun H locs hP hD hS => ?_)
      refine lv_goto (tgt := 0) C.1.1 C.1.2.1 dX6_takeWord_36 (by decide) ?_
      exact ihgo15 oT_17 hf H locs hP hD hS ls (lv_sub hl [0] rfl)
def fX6_isDigit (p1 : Int32) : Option (Int32) :=
  if p1 < (48 : Int32) then (
    some (0 : Int32)
  ) else (
    if (57 : Int32) < p1 then (
      some (0 : Int32)
    ) else (
      some (1 : Int32)
    )
  )
abbrev rX6_isDigit : Room := { frames := 0, cells := 0, slots := 0, locals := 0 }
set_option maxHeartbeats 4000000 in
set_option maxRecDepth 100000 in
theorem mtX6_isDigit (l : Launch) (dC : Nat → ClassId) (dI : Nat → Nat → Nat) (cI cB : ClassId) (sz : Nat) (p1 : Int32) {ov : Int32} (hf : fX6_isDigit p1 = some ov) : zMi l yX6_isDigit (Cond.code yX6_isDigit cX6_isDigit 1 (some .boolean) :: lw_g) rX6_isDigit (dC, dI) [(cI, .int), (cB, .byte)] [.int p1] sz ([] : va_W) ov ([] : va_W) := by
  refine zSt (cc := cX6_isDigit) (maxL := 1) (ret := (some .boolean)) (own := RX6) (fun A => zQi (dC, dI) [(cI, .int), (cB, .byte)] A ov ([] : va_W)) (by decide) rfl rfl (Nat.le_of_ble_eq_true rfl) ?_
  intro p e s m below meth c ls A H locs C hK hA hP hD hS hl
  generalize hQ : MQ below (zQi (dC, dI) [(cI, .int), (cB, .byte)] A ov ([] : va_W)) _ s 0 0 A = QQ
  generalize ([.int p1] : List Value).toArray = args at C hQ ⊢
  have hl : lv_has ls 1 [(0, .int p1)] := hl
  unfold fX6_isDigit at hf
  refine lv_iload_n C.1.1 C.1.2.1 dX6_isDigit_0 rfl (lv_at hl 0 rfl) ?_
  refine lv_bipush (v := 48) C.1.1 C.1.2.1 dX6_isDigit_1 (by decide) ?_
  refine lv_icmp_lt (tgt := 16) C.1.1 C.1.2.1 dX6_isDigit_3 (by decide) (fun hc => ?_) (fun hc => ?_)
  · replace hf := zIf_t hf hc
    refine lv_iconst (v := 0) C.1.1 C.1.2.1 dX6_isDigit_16 (by decide) ?_
    cases hf
    rw [← hQ]
    exact zRz C (by decide +kernel) hK hP hD hS dX6_isDigit_17
  · replace hf := zIf_f hf hc
    refine lv_iload_n C.1.1 C.1.2.1 dX6_isDigit_6 rfl (lv_at hl 0 rfl) ?_
    refine lv_bipush (v := 57) C.1.1 C.1.2.1 dX6_isDigit_7 (by decide) ?_
    refine lv_icmp_gt (tgt := 16) C.1.1 C.1.2.1 dX6_isDigit_9 (by decide) (fun hc => ?_) (fun hc => ?_)
    · replace hf := zIf_t hf hc
      refine lv_iconst (v := 0) C.1.1 C.1.2.1 dX6_isDigit_16 (by decide) ?_
      cases hf
      rw [← hQ]
      exact zRz C (by decide +kernel) hK hP hD hS dX6_isDigit_17
    · replace hf := zIf_f hf hc
      refine lv_iconst (v := 1) C.1.1 C.1.2.1 dX6_isDigit_12 (by decide) ?_
      refine lv_goto (tgt := 17) C.1.1 C.1.2.1 dX6_isDigit_13 (by decide) ?_
      cases hf
      rw [← hQ]
      exact zRz C (by decide +kernel) hK hP hD hS dX6_isDigit_17
def fX6_takeWhole_L0 (J63_2 : Rc → Option (Rc)) (n : Nat) (oT_6 : Rc) : Option (Rc) := zLp1 (fun (go7 : Rc → Option (Rc)) (oT_6 : Rc) =>
    if (oT_6 2 0) ≤ (oT_6 3 0) then (
      J63_2 oT_6
    ) else (
      zGd (inb (oT_6 3 0) 600) <|
      zB1 (fX6_isDigit (oT_6 0 (oT_6 3 0).toNatClampNeg)) fun v8 =>
      if v8 = 0 then (
        J63_2 oT_6
      ) else (
        zGd (inb (oT_6 3 0) 600) <|
        zLet (rs oT_6 7 (fun _ => ((((oT_6 7 0) * (10 : Int32)) + (oT_6 0 (oT_6 3 0).toNatClampNeg)) - (48 : Int32)))) fun oT_9 =>
        zLet (rs oT_9 3 (fun _ => ((oT_9 3 0) + (1 : Int32)))) fun oT_10 =>
        go7 oT_10
      )
    )
  ) n oT_6
def fX6_takeWhole (NN : Nat) (oT : Rc) : Option (Rc) :=
  zJn (fun (oT_1 : Rc) =>
      zJn (fun (t3 : Int32) =>
          zLet (rs oT_1 4 (fun _ => t3)) fun oT_5 =>
          some oT_5
        ) fun J82_4 =>
      if (5 : Int32) < ((oT_1 3 0) - (oT_1 5 0)) then (
        J82_4 (1 : Int32)
      ) else (
        J82_4 (3 : Int32)
      )
    ) fun J63_2 =>
  fX6_takeWhole_L0 J63_2 NN oT
abbrev rX6_takeWhole : Room := { frames := 1, cells := 0, slots := 0, locals := 20 }
set_option maxHeartbeats 4000000 in
set_option maxRecDepth 100000 in
theorem mtX6_takeWhole (l : Launch) (dC : Nat → ClassId) (dI : Nat → Nat → Nat) (cI cB : ClassId) (aT : Nat → Nat) (sz : Nat) (NN : Nat) (oT : Rc) {oT' : Rc} (hf : fX6_takeWhole NN oT = some oT') : zMv l yX6_takeWhole (Cond.code yX6_takeWhole cX6_takeWhole 1 none :: lw_g) rX6_takeWhole (dC, dI) [(cI, .int), (cB, .byte)] [.ref (aT 0)] sz (kX6 cI cB aT oT) (kX6 cI cB aT oT') := by
  refine zSt (cc := cX6_takeWhole) (maxL := 1) (ret := none) (own := RX6) (fun A => zQv (dC, dI) [(cI, .int), (cB, .byte)] A (kX6 cI cB aT oT')) (by decide) rfl rfl (Nat.le_of_ble_eq_true rfl) ?_
  intro p e s m below meth c ls A H locs C hK hA hP hD hS hl
  generalize hQ : MQ below (zQv (dC, dI) [(cI, .int), (cB, .byte)] A (kX6 cI cB aT oT')) _ s 0 0 A = QQ
  generalize ([.ref (aT 0)] : List Value).toArray = args at C hQ ⊢
  have hl : lv_has ls 1 [(0, .ref (aT 0))] := hl
  unfold fX6_takeWhole at hf
  obtain ⟨J63_2, eJ63_2, hf⟩ := zJn_el hf
  have hJ63_2 : ∀ (oT_1 : Rc), J63_2 oT_1 = some oT' → ∀ (H : Heap) (locs : List Loc), va_P (dC, dI) vwCl (kX6 cI cB aT oT_1) H → va_D A (kX6 cI cB aT oT_1) → va_S A s.heap H locs → ∀ (ls : Array Slot), lv_has ls 1 [(0, .ref (aT 0))] → W p l e rX6_takeWhole s m args below meth c H locs 0 0 QQ (F0 m 63 ls []) := by
    intro oT_1 hf H locs hP hD hS ls hl
    rw [eJ63_2] at hf
    refine lv_aload_n C.1.1 C.1.2.1 dX6_takeWhole_63 rfl (lv_at hl 0 rfl) ?_
    refine lv_aload_n C.1.1 C.1.2.1 dX6_takeWhole_64 rfl (lv_at hl 0 rfl) ?_
    refine zGet (.int (oT_1 3 0)) C.1 wuX6 hK hP 0 rfl rfl 3 (by decide) wfX6_22 rfl rfl dX6_takeWhole_65 ?_
    refine lv_aload_n C.1.1 C.1.2.1 dX6_takeWhole_68 rfl (lv_at hl 0 rfl) ?_
    refine zGet (.int (oT_1 5 0)) C.1 wuX6 hK hP 0 rfl rfl 5 (by decide) wfX6_28 rfl rfl dX6_takeWhole_69 ?_
    refine lv_isub C.1.1 C.1.2.1 dX6_takeWhole_72 ?_
    refine lv_iconst (v := 5) C.1.1 C.1.2.1 dX6_takeWhole_73 (by decide) ?_
    obtain ⟨J82_4, eJ82_4, hf⟩ := zJn_el hf
    have hJ82_4 : ∀ (t3 : Int32), J82_4 t3 = some oT' → ∀ (H : Heap) (locs : List Loc), va_P (dC, dI) vwCl (kX6 cI cB aT oT_1) H → va_D A (kX6 cI cB aT oT_1) → va_S A s.heap H locs → ∀ (ls : Array Slot), lv_has ls 1 [] → W p l e rX6_takeWhole s m args below meth c H locs 0 0 QQ (F0 m 82 ls [.int t3, .ref (aT 0)]) := by
      intro t3 hf H locs hP hD hS ls hl
      rw [eJ82_4] at hf
      obtain ⟨oT_5, eoT_5, hf⟩ := zLet_el hf
      refine zPut (ty := .int) (kX6 cI cB aT oT_5) C.1 wuX6 tyX6 tyX6_ok nmX6 hK hP hD hS 0 rfl rfl 4 (by decide) wfX6_25 rfl rfl (by decide +kernel) rfl rfl (Nat.le_of_ble_eq_true rfl) dX6_takeWhole_82 (by rw [eoT_5]; rfl) (fun H locs hP hD hS => ?_)
      cases hf
      rw [← hQ]
      exact zRv C hK hP hD hS dX6_takeWhole_85
    refine lv_icmp_gt (tgt := 81) C.1.1 C.1.2.1 dX6_takeWhole_74 (by decide) (fun hc => ?_) (fun hc => ?_)
    · replace hf := zIf_t hf hc
      refine lv_iconst (v := 1) C.1.1 C.1.2.1 dX6_takeWhole_81 (by decide) ?_
      exact hJ82_4 (1 : Int32) hf H locs hP hD hS ls (lv_sub hl [] rfl)
    · replace hf := zIf_f hf hc
      refine lv_iconst (v := 3) C.1.1 C.1.2.1 dX6_takeWhole_77 (by decide) ?_
      refine lv_goto (tgt := 82) C.1.1 C.1.2.1 dX6_takeWhole_78 (by decide) ?_
      exact hJ82_4 (3 : Int32) hf H locs hP hD hS ls (lv_sub hl [] rfl)
  refine zLp1_ind (o := oT') (P := fun (oT_6 : Rc) => ∀ (H : Heap) (locs : List Loc), va_P (dC, dI) vwCl (kX6 cI cB aT oT_6) H → va_D A (kX6 cI cB aT oT_6) → va_S A s.heap H locs → ∀ (ls : Array Slot), lv_has ls 1 [(0, .ref (aT 0))] → W p l e rX6_takeWhole s m args below meth c H locs 0 0 QQ (F0 m 0 ls [])) (fun go7 ihgo7 oT_6 hf H locs hP hD hS ls hl => ?_) _ oT hf H locs hP hD hS ls (lv_sub hl [0] rfl)
  refine lv_aload_n C.1.1 C.1.2.1 dX6_takeWhole_0 rfl (lv_at hl 0 rfl) ?_
  refine zGet (.int (oT_6 3 0)) C.1 wuX6 hK hP 0 rfl rfl 3 (by decide) wfX6_22 rfl rfl dX6_takeWhole_1 ?_
  refine lv_aload_n C.1.1 C.1.2.1 dX6_takeWhole_4 rfl (lv_at hl 0 rfl) ?_
  refine zGet (.int (oT_6 2 0)) C.1 wuX6 hK hP 0 rfl rfl 2 (by decide) wfX6_19 rfl rfl dX6_takeWhole_5 ?_
  refine lv_icmp_ge (tgt := 63) C.1.1 C.1.2.1 dX6_takeWhole_8 (by decide) (fun hc => ?_) (fun hc => ?_)
  · replace hf := zIf_t hf hc
    exact hJ63_2 oT_6 hf H locs hP hD hS ls (lv_sub hl [0] rfl)
  · replace hf := zIf_f hf hc
    refine lv_aload_n C.1.1 C.1.2.1 dX6_takeWhole_11 rfl (lv_at hl 0 rfl) ?_
    refine zGet (.ref (aT 1)) C.1 wuX6 hK hP 0 rfl rfl 0 (by decide) wfX6_9 rfl rfl dX6_takeWhole_12 ?_
    refine lv_aload_n C.1.1 C.1.2.1 dX6_takeWhole_15 rfl (lv_at hl 0 rfl) ?_
    refine zGet (.int (oT_6 3 0)) C.1 wuX6 hK hP 0 rfl rfl 3 (by decide) wfX6_22 rfl rfl dX6_takeWhole_16 ?_
    obtain ⟨hib, hf⟩ := zGd_el hf
    refine va_iald C.1.1 C.1.2.1 hK.1 hP 1 0 rfl rfl hib dX6_takeWhole_19 ?_
    obtain ⟨v8, hg, hf⟩ := zB1_el hf
    refine zCSi (As := [.int (oT_6 0 (oT_6 3 0).toNatClampNeg)]) (rest := []) (wr := (kX6 cI cB aT oT_6)) (wn := (kX6 cI cB aT oT_6)) C.1 hK hA hP hD hS [] [0, 1] [0, 1] (mtX6_isDigit l dC dI cI cB H.size (oT_6 0 (oT_6 3 0).toNatClampNeg) hg) (zCwS 1 C.1 wlX6_66 wtX6_isDigit wnX6 wkX6_isDigit rfl rfl (by decide +kernel) ⟨Nat.le_of_ble_eq_true rfl, Nat.le_of_ble_eq_true rfl⟩) rfl rfl (by decide +kernel) rfl rfl hl.1 (Nat.le_of_ble_eq_true rfl) dX6_takeWhole_20 ⟨Nat.zero_le _, Nat.zero_le _⟩ rfl (fun H locs hP hD hS => ?_)
    refine lv_if_eq (tgt := 63) C.1.1 C.1.2.1 dX6_takeWhole_23 (by decide) (fun hc => ?_) (fun hc => ?_)
    · replace hf := zIf_t hf hc
      exact hJ63_2 oT_6 hf H locs hP hD hS ls (lv_sub hl [0] rfl)
    · replace hf := zIf_f hf hc
      refine lv_aload_n C.1.1 C.1.2.1 dX6_takeWhole_26 rfl (lv_at hl 0 rfl) ?_
      refine lv_aload_n C.1.1 C.1.2.1 dX6_takeWhole_27 rfl (lv_at hl 0 rfl) ?_
      refine zGet (.int (oT_6 7 0)) C.1 wuX6 hK hP 0 rfl rfl 7 (by decide) wfX6_34 rfl rfl dX6_takeWhole_28 ?_
      refine lv_bipush (v := 10) C.1.1 C.1.2.1 dX6_takeWhole_31 (by decide) ?_
      refine lv_imul C.1.1 C.1.2.1 dX6_takeWhole_33 ?_
      refine lv_aload_n C.1.1 C.1.2.1 dX6_takeWhole_34 rfl (lv_at hl 0 rfl) ?_
      refine zGet (.ref (aT 1)) C.1 wuX6 hK hP 0 rfl rfl 0 (by decide) wfX6_9 rfl rfl dX6_takeWhole_35 ?_
      refine lv_aload_n C.1.1 C.1.2.1 dX6_takeWhole_38 rfl (lv_at hl 0 rfl) ?_
      refine zGet (.int (oT_6 3 0)) C.1 wuX6 hK hP 0 rfl rfl 3 (by decide) wfX6_22 rfl rfl dX6_takeWhole_39 ?_
      obtain ⟨hib, hf⟩ := zGd_el hf
      refine va_iald C.1.1 C.1.2.1 hK.1 hP 1 0 rfl rfl hib dX6_takeWhole_42 ?_
      refine lv_iadd C.1.1 C.1.2.1 dX6_takeWhole_43 ?_
      refine lv_bipush (v := 48) C.1.1 C.1.2.1 dX6_takeWhole_44 (by decide) ?_
      refine lv_isub C.1.1 C.1.2.1 dX6_takeWhole_46 ?_
      obtain ⟨oT_9, eoT_9, hf⟩ := zLet_el hf
      refine zPut (ty := .int) (kX6 cI cB aT oT_9) C.1 wuX6 tyX6 tyX6_ok nmX6 hK hP hD hS 0 rfl rfl 7 (by decide) wfX6_34 rfl rfl (by decide +kernel) rfl rfl (Nat.le_of_ble_eq_true rfl) dX6_takeWhole_47 (by rw [eoT_9]; rfl) (fun H locs hP hD hS => ?_)
      refine lv_aload_n C.1.1 C.1.2.1 dX6_takeWhole_50 rfl (lv_at hl 0 rfl) ?_
      refine lv_dup C.1.1 C.1.2.1 dX6_takeWhole_51 rfl ?_
      refine zGet (.int (oT_9 3 0)) C.1 wuX6 hK hP 0 rfl rfl 3 (by decide) wfX6_22 rfl rfl dX6_takeWhole_52 ?_
      refine lv_iconst (v := 1) C.1.1 C.1.2.1 dX6_takeWhole_55 (by decide) ?_
      refine lv_iadd C.1.1 C.1.2.1 dX6_takeWhole_56 ?_
      obtain ⟨oT_10, eoT_10, hf⟩ := zLet_el hf
      refine zPut (ty := .int) (kX6 cI cB aT oT_10) C.1 wuX6 tyX6 tyX6_ok nmX6 hK hP hD hS 0 rfl rfl 3 (by decide) wfX6_22 rfl rfl (by decide +kernel) rfl rfl (Nat.le_of_ble_eq_true rfl) dX6_takeWhole_57 (by rw [eoT_10]; rfl) (fun H locs hP hD hS => ?_)
      refine lv_goto (tgt := 0) C.1.1 C.1.2.1 dX6_takeWhole_60 (by decide) ?_
      exact ihgo7 oT_10 hf H locs hP hD hS ls (lv_sub hl [0] rfl)
def fX6_isSignByte (p1 : Int32) : Option (Int32) :=
  if p1 = 38 then (
    some (1 : Int32)
  ) else (
    if p1 = 42 then (
      some (1 : Int32)
    ) else (
      if p1 = 43 then (
        some (1 : Int32)
      ) else (
        if p1 = 45 then (
          some (1 : Int32)
        ) else (
          if p1 = 60 then (
            some (1 : Int32)
          ) else (
            if p1 = 94 then (
              some (1 : Int32)
            ) else (
              if p1 = 124 then (
                some (1 : Int32)
              ) else (
                some (0 : Int32)
              )
            )
          )
        )
      )
    )
  )
abbrev rX6_isSignByte : Room := { frames := 0, cells := 0, slots := 0, locals := 0 }
set_option maxHeartbeats 4000000 in
set_option maxRecDepth 100000 in
theorem mtX6_isSignByte (l : Launch) (dC : Nat → ClassId) (dI : Nat → Nat → Nat) (cI cB : ClassId) (sz : Nat) (p1 : Int32) {ov : Int32} (hf : fX6_isSignByte p1 = some ov) : zMi l yX6_isSignByte (Cond.code yX6_isSignByte cX6_isSignByte 1 (some .boolean) :: lw_g) rX6_isSignByte (dC, dI) [(cI, .int), (cB, .byte)] [.int p1] sz ([] : va_W) ov ([] : va_W) := by
  refine zSt (cc := cX6_isSignByte) (maxL := 1) (ret := (some .boolean)) (own := RX6) (fun A => zQi (dC, dI) [(cI, .int), (cB, .byte)] A ov ([] : va_W)) (by decide) rfl rfl (Nat.le_of_ble_eq_true rfl) ?_
  intro p e s m below meth c ls A H locs C hK hA hP hD hS hl
  generalize hQ : MQ below (zQi (dC, dI) [(cI, .int), (cB, .byte)] A ov ([] : va_W)) _ s 0 0 A = QQ
  generalize ([.int p1] : List Value).toArray = args at C hQ ⊢
  have hl : lv_has ls 1 [(0, .int p1)] := hl
  unfold fX6_isSignByte at hf
  refine lv_iload_n C.1.1 C.1.2.1 dX6_isSignByte_0 rfl (lv_at hl 0 rfl) ?_
  rcases Classical.em (p1 = 38) with hk1 | hk1
  · replace hf := zIf_t hf hk1
    refine lv_lookup (off := 67) (tgt := 68) C.1.1 C.1.2.1 dX6_isSignByte_1 (by decide +kernel) (by rw [hk1] <;> decide +kernel) (by decide) ?_
    refine lv_iconst (v := 1) C.1.1 C.1.2.1 dX6_isSignByte_68 (by decide) ?_
    cases hf
    rw [← hQ]
    exact zRz C (by decide +kernel) hK hP hD hS dX6_isSignByte_69
  · replace hf := zIf_f hf hk1
    rcases Classical.em (p1 = 42) with hk2 | hk2
    · replace hf := zIf_t hf hk2
      refine lv_lookup (off := 67) (tgt := 68) C.1.1 C.1.2.1 dX6_isSignByte_1 (by decide +kernel) (by rw [hk2] <;> decide +kernel) (by decide) ?_
      refine lv_iconst (v := 1) C.1.1 C.1.2.1 dX6_isSignByte_68 (by decide) ?_
      cases hf
      rw [← hQ]
      exact zRz C (by decide +kernel) hK hP hD hS dX6_isSignByte_69
    · replace hf := zIf_f hf hk2
      rcases Classical.em (p1 = 43) with hk3 | hk3
      · replace hf := zIf_t hf hk3
        refine lv_lookup (off := 67) (tgt := 68) C.1.1 C.1.2.1 dX6_isSignByte_1 (by decide +kernel) (by rw [hk3] <;> decide +kernel) (by decide) ?_
        refine lv_iconst (v := 1) C.1.1 C.1.2.1 dX6_isSignByte_68 (by decide) ?_
        cases hf
        rw [← hQ]
        exact zRz C (by decide +kernel) hK hP hD hS dX6_isSignByte_69
      · replace hf := zIf_f hf hk3
        rcases Classical.em (p1 = 45) with hk4 | hk4
        · replace hf := zIf_t hf hk4
          refine lv_lookup (off := 67) (tgt := 68) C.1.1 C.1.2.1 dX6_isSignByte_1 (by decide +kernel) (by rw [hk4] <;> decide +kernel) (by decide) ?_
          refine lv_iconst (v := 1) C.1.1 C.1.2.1 dX6_isSignByte_68 (by decide) ?_
          cases hf
          rw [← hQ]
          exact zRz C (by decide +kernel) hK hP hD hS dX6_isSignByte_69
        · replace hf := zIf_f hf hk4
          rcases Classical.em (p1 = 60) with hk5 | hk5
          · replace hf := zIf_t hf hk5
            refine lv_lookup (off := 67) (tgt := 68) C.1.1 C.1.2.1 dX6_isSignByte_1 (by decide +kernel) (by rw [hk5] <;> decide +kernel) (by decide) ?_
            refine lv_iconst (v := 1) C.1.1 C.1.2.1 dX6_isSignByte_68 (by decide) ?_
            cases hf
            rw [← hQ]
            exact zRz C (by decide +kernel) hK hP hD hS dX6_isSignByte_69
          · replace hf := zIf_f hf hk5
            rcases Classical.em (p1 = 94) with hk6 | hk6
            · replace hf := zIf_t hf hk6
              refine lv_lookup (off := 67) (tgt := 68) C.1.1 C.1.2.1 dX6_isSignByte_1 (by decide +kernel) (by rw [hk6] <;> decide +kernel) (by decide) ?_
              refine lv_iconst (v := 1) C.1.1 C.1.2.1 dX6_isSignByte_68 (by decide) ?_
              cases hf
              rw [← hQ]
              exact zRz C (by decide +kernel) hK hP hD hS dX6_isSignByte_69
            · replace hf := zIf_f hf hk6
              rcases Classical.em (p1 = 124) with hk7 | hk7
              · replace hf := zIf_t hf hk7
                refine lv_lookup (off := 67) (tgt := 68) C.1.1 C.1.2.1 dX6_isSignByte_1 (by decide +kernel) (by rw [hk7] <;> decide +kernel) (by decide) ?_
                refine lv_iconst (v := 1) C.1.1 C.1.2.1 dX6_isSignByte_68 (by decide) ?_
                cases hf
                rw [← hQ]
                exact zRz C (by decide +kernel) hK hP hD hS dX6_isSignByte_69
              · replace hf := zIf_f hf hk7
                refine lv_lookup (off := 69) (tgt := 70) C.1.1 C.1.2.1 dX6_isSignByte_1 (by decide +kernel) (by simp only [List.toList_toArray]; rw [lv_osw hk1 (by decide), lv_osw hk2 (by decide), lv_osw hk3 (by decide), lv_osw hk4 (by decide), lv_osw hk5 (by decide), lv_osw hk6 (by decide), lv_osw hk7 (by decide)] <;> rfl) (by decide) ?_
                refine lv_iconst (v := 0) C.1.1 C.1.2.1 dX6_isSignByte_70 (by decide) ?_
                cases hf
                rw [← hQ]
                exact zRz C (by decide +kernel) hK hP hD hS dX6_isSignByte_71
def fX6_isSingle (p1 : Int32) : Option (Int32) :=
  if p1 = 40 then (
    some (1 : Int32)
  ) else (
    if p1 = 41 then (
      some (1 : Int32)
    ) else (
      if p1 = 59 then (
        some (1 : Int32)
      ) else (
        if p1 = 61 then (
          some (1 : Int32)
        ) else (
          if p1 = 123 then (
            some (1 : Int32)
          ) else (
            if p1 = 125 then (
              some (1 : Int32)
            ) else (
              if p1 = 126 then (
                some (1 : Int32)
              ) else (
                zB1 (fX6_isSignByte p1) fun v8 =>
                zGd (zbit v8) <|
                some v8
              )
            )
          )
        )
      )
    )
  )
abbrev rX6_isSingle : Room := { frames := 1, cells := 0, slots := 0, locals := 20 }
set_option maxHeartbeats 4000000 in
set_option maxRecDepth 100000 in
theorem mtX6_isSingle (l : Launch) (dC : Nat → ClassId) (dI : Nat → Nat → Nat) (cI cB : ClassId) (sz : Nat) (p1 : Int32) {ov : Int32} (hf : fX6_isSingle p1 = some ov) : zMi l yX6_isSingle (Cond.code yX6_isSingle cX6_isSingle 1 (some .boolean) :: lw_g) rX6_isSingle (dC, dI) [(cI, .int), (cB, .byte)] [.int p1] sz ([] : va_W) ov ([] : va_W) := by
  refine zSt (cc := cX6_isSingle) (maxL := 1) (ret := (some .boolean)) (own := RX6) (fun A => zQi (dC, dI) [(cI, .int), (cB, .byte)] A ov ([] : va_W)) (by decide) rfl rfl (Nat.le_of_ble_eq_true rfl) ?_
  intro p e s m below meth c ls A H locs C hK hA hP hD hS hl
  generalize hQ : MQ below (zQi (dC, dI) [(cI, .int), (cB, .byte)] A ov ([] : va_W)) _ s 0 0 A = QQ
  generalize ([.int p1] : List Value).toArray = args at C hQ ⊢
  have hl : lv_has ls 1 [(0, .int p1)] := hl
  unfold fX6_isSingle at hf
  refine lv_iload_n C.1.1 C.1.2.1 dX6_isSingle_0 rfl (lv_at hl 0 rfl) ?_
  rcases Classical.em (p1 = 40) with hk1 | hk1
  · replace hf := zIf_t hf hk1
    refine lv_lookup (off := 67) (tgt := 68) C.1.1 C.1.2.1 dX6_isSingle_1 (by decide +kernel) (by rw [hk1] <;> decide +kernel) (by decide) ?_
    refine lv_iconst (v := 1) C.1.1 C.1.2.1 dX6_isSingle_68 (by decide) ?_
    cases hf
    rw [← hQ]
    exact zRz C (by decide +kernel) hK hP hD hS dX6_isSingle_69
  · replace hf := zIf_f hf hk1
    rcases Classical.em (p1 = 41) with hk2 | hk2
    · replace hf := zIf_t hf hk2
      refine lv_lookup (off := 67) (tgt := 68) C.1.1 C.1.2.1 dX6_isSingle_1 (by decide +kernel) (by rw [hk2] <;> decide +kernel) (by decide) ?_
      refine lv_iconst (v := 1) C.1.1 C.1.2.1 dX6_isSingle_68 (by decide) ?_
      cases hf
      rw [← hQ]
      exact zRz C (by decide +kernel) hK hP hD hS dX6_isSingle_69
    · replace hf := zIf_f hf hk2
      rcases Classical.em (p1 = 59) with hk3 | hk3
      · replace hf := zIf_t hf hk3
        refine lv_lookup (off := 67) (tgt := 68) C.1.1 C.1.2.1 dX6_isSingle_1 (by decide +kernel) (by rw [hk3] <;> decide +kernel) (by decide) ?_
        refine lv_iconst (v := 1) C.1.1 C.1.2.1 dX6_isSingle_68 (by decide) ?_
        cases hf
        rw [← hQ]
        exact zRz C (by decide +kernel) hK hP hD hS dX6_isSingle_69
      · replace hf := zIf_f hf hk3
        rcases Classical.em (p1 = 61) with hk4 | hk4
        · replace hf := zIf_t hf hk4
          refine lv_lookup (off := 67) (tgt := 68) C.1.1 C.1.2.1 dX6_isSingle_1 (by decide +kernel) (by rw [hk4] <;> decide +kernel) (by decide) ?_
          refine lv_iconst (v := 1) C.1.1 C.1.2.1 dX6_isSingle_68 (by decide) ?_
          cases hf
          rw [← hQ]
          exact zRz C (by decide +kernel) hK hP hD hS dX6_isSingle_69
        · replace hf := zIf_f hf hk4
          rcases Classical.em (p1 = 123) with hk5 | hk5
          · replace hf := zIf_t hf hk5
            refine lv_lookup (off := 67) (tgt := 68) C.1.1 C.1.2.1 dX6_isSingle_1 (by decide +kernel) (by rw [hk5] <;> decide +kernel) (by decide) ?_
            refine lv_iconst (v := 1) C.1.1 C.1.2.1 dX6_isSingle_68 (by decide) ?_
            cases hf
            rw [← hQ]
            exact zRz C (by decide +kernel) hK hP hD hS dX6_isSingle_69
          · replace hf := zIf_f hf hk5
            rcases Classical.em (p1 = 125) with hk6 | hk6
            · replace hf := zIf_t hf hk6
              refine lv_lookup (off := 67) (tgt := 68) C.1.1 C.1.2.1 dX6_isSingle_1 (by decide +kernel) (by rw [hk6] <;> decide +kernel) (by decide) ?_
              refine lv_iconst (v := 1) C.1.1 C.1.2.1 dX6_isSingle_68 (by decide) ?_
              cases hf
              rw [← hQ]
              exact zRz C (by decide +kernel) hK hP hD hS dX6_isSingle_69
            · replace hf := zIf_f hf hk6
              rcases Classical.em (p1 = 126) with hk7 | hk7
              · replace hf := zIf_t hf hk7
                refine lv_lookup (off := 67) (tgt := 68) C.1.1 C.1.2.1 dX6_isSingle_1 (by decide +kernel) (by rw [hk7] <;> decide +kernel) (by decide) ?_
                refine lv_iconst (v := 1) C.1.1 C.1.2.1 dX6_isSingle_68 (by decide) ?_
                cases hf
                rw [← hQ]
                exact zRz C (by decide +kernel) hK hP hD hS dX6_isSingle_69
              · replace hf := zIf_f hf hk7
                refine lv_lookup (off := 69) (tgt := 70) C.1.1 C.1.2.1 dX6_isSingle_1 (by decide +kernel) (by simp only [List.toList_toArray]; rw [lv_osw hk1 (by decide), lv_osw hk2 (by decide), lv_osw hk3 (by decide), lv_osw hk4 (by decide), lv_osw hk5 (by decide), lv_osw hk6 (by decide), lv_osw hk7 (by decide)] <;> rfl) (by decide) ?_
                refine lv_iload_n C.1.1 C.1.2.1 dX6_isSingle_70 rfl (lv_at hl 0 rfl) ?_
                obtain ⟨v8, hg, hf⟩ := zB1_el hf
                refine zCSi (As := [.int p1]) (rest := []) (wr := ([] : va_W)) (wn := ([] : va_W)) C.1 hK hA hP hD hS [] [] [] (mtX6_isSignByte l dC dI cI cB H.size p1 hg) (zCwS 1 C.1 wlX6_75 wtX6_isSignByte wnX6 wkX6_isSignByte rfl rfl (by decide +kernel) ⟨Nat.le_of_ble_eq_true rfl, Nat.le_of_ble_eq_true rfl⟩) rfl rfl (by decide +kernel) rfl rfl hl.1 (Nat.le_of_ble_eq_true rfl) dX6_isSingle_71 ⟨Nat.zero_le _, Nat.zero_le _⟩ rfl (fun H locs hP hD hS => ?_)
                obtain ⟨hz, hf⟩ := zGd_el hf
                cases hf
                rw [← hQ]
                exact zRz C (zbit_n hz).1 hK hP hD hS dX6_isSingle_74
def fX6_step (NN : Nat) (oT : Rc) : Option (Rc) :=
  zB1 (fX6_skipBlanks NN oT) fun oT_1 =>
  zLet (rs oT_1 5 (fun _ => (oT_1 3 0))) fun oT_2 =>
  zLet (rs oT_2 7 (fun _ => (0 : Int32))) fun oT_3 =>
  zLet (rs oT_3 8 (fun _ => (-1 : Int32))) fun oT_4 =>
  zLet (rs oT_4 9 (fun _ => (0 : Int32))) fun oT_5 =>
  zJn (fun (oT_6 : Rc) =>
      zLet (rs oT_6 6 (fun _ => ((oT_6 3 0) - (oT_6 5 0)))) fun oT_8 =>
      some oT_8
    ) fun J132_7 =>
  if (oT_5 3 0) < (oT_5 2 0) then (
    zGd (inb (oT_5 3 0) 600) <|
    zB1 (fX6_isLetter (oT_5 0 (oT_5 3 0).toNatClampNeg)) fun v9 =>
    if v9 = 0 then (
      zGd (inb (oT_5 3 0) 600) <|
      zB1 (fX6_isDigit (oT_5 0 (oT_5 3 0).toNatClampNeg)) fun v10 =>
      if v10 = 0 then (
        zGd (inb (oT_5 3 0) 600) <|
        zB1 (fX6_isSingle (oT_5 0 (oT_5 3 0).toNatClampNeg)) fun v11 =>
        zJn (fun (t12 : Int32) =>
            zLet (rs oT_5 4 (fun _ => t12)) fun oT_14 =>
            zLet (rs oT_14 3 (fun _ => ((oT_14 3 0) + (1 : Int32)))) fun oT_15 =>
            J132_7 oT_15
          ) fun J119_13 =>
        if v11 = 0 then (
          J119_13 (1 : Int32)
        ) else (
          zGd (inb (oT_5 3 0) 600) <|
          J119_13 (oT_5 0 (oT_5 3 0).toNatClampNeg)
        )
      ) else (
        zB1 (fX6_takeWhole NN oT_5) fun oT_16 =>
        J132_7 oT_16
      )
    ) else (
      zB1 (fX6_takeWord NN oT_5) fun oT_17 =>
      J132_7 oT_17
    )
  ) else (
    zLet (rs oT_5 4 (fun _ => (0 : Int32))) fun oT_18 =>
    J132_7 oT_18
  )
abbrev rX6_step : Room := { frames := 2, cells := 0, slots := 0, locals := 41 }
set_option maxHeartbeats 4000000 in
set_option maxRecDepth 100000 in
theorem mtX6_step (l : Launch) (dC : Nat → ClassId) (dI : Nat → Nat → Nat) (cI cB : ClassId) (aT : Nat → Nat) (sz : Nat) (NN : Nat) (oT : Rc) {oT' : Rc} (hf : fX6_step NN oT = some oT') : zMv l yX6_step (Cond.code yX6_step cX6_step 1 none :: lw_g) rX6_step (dC, dI) [(cI, .int), (cB, .byte)] [.ref (aT 0)] sz (kX6 cI cB aT oT) (kX6 cI cB aT oT') := by
  refine zSt (cc := cX6_step) (maxL := 1) (ret := none) (own := RX6) (fun A => zQv (dC, dI) [(cI, .int), (cB, .byte)] A (kX6 cI cB aT oT')) (by decide) rfl rfl (Nat.le_of_ble_eq_true rfl) ?_
  intro p e s m below meth c ls A H locs C hK hA hP hD hS hl
  generalize hQ : MQ below (zQv (dC, dI) [(cI, .int), (cB, .byte)] A (kX6 cI cB aT oT')) _ s 0 0 A = QQ
  generalize ([.ref (aT 0)] : List Value).toArray = args at C hQ ⊢
  have hl : lv_has ls 1 [(0, .ref (aT 0))] := hl
  unfold fX6_step at hf
  refine lv_aload_n C.1.1 C.1.2.1 dX6_step_0 rfl (lv_at hl 0 rfl) ?_
  obtain ⟨oT_1, hg, hf⟩ := zB1_el hf
  refine zCVv (As := []) (rest := []) (wr := ([] : va_W)) (wn := (kX6 cI cB aT oT_1)) C.1 hK hA hP hD hS [0, 1] [] [0, 1] 0 (mtX6_skipBlanks l dC dI cI cB aT H.size NN oT hg) (zCwV 0 C.1 wlX6_56 wiX6_skipBlanks ws_X6_skipBlanks wnX6 wkX6_skipBlanks rfl rfl (by decide +kernel) ⟨Nat.le_of_ble_eq_true rfl, Nat.le_of_ble_eq_true rfl⟩) rfl rfl (by decide +kernel) rfl rfl rfl rfl hl.1 (Nat.le_of_ble_eq_true rfl) dX6_step_1 ⟨Nat.zero_le _, Nat.zero_le _⟩ rfl (fun H locs hP hD hS => ?_)
  refine lv_aload_n C.1.1 C.1.2.1 dX6_step_4 rfl (lv_at hl 0 rfl) ?_
  refine lv_aload_n C.1.1 C.1.2.1 dX6_step_5 rfl (lv_at hl 0 rfl) ?_
  refine zGet (.int (oT_1 3 0)) C.1 wuX6 hK hP 0 rfl rfl 3 (by decide) wfX6_22 rfl rfl dX6_step_6 ?_
  obtain ⟨oT_2, eoT_2, hf⟩ := zLet_el hf
  refine zPut (ty := .int) (kX6 cI cB aT oT_2) C.1 wuX6 tyX6 tyX6_ok nmX6 hK hP hD hS 0 rfl rfl 5 (by decide) wfX6_28 rfl rfl (by decide +kernel) rfl rfl (Nat.le_of_ble_eq_true rfl) dX6_step_9 (by rw [eoT_2]; rfl) (fun H locs hP hD hS => ?_)
  refine lv_aload_n C.1.1 C.1.2.1 dX6_step_12 rfl (lv_at hl 0 rfl) ?_
  refine lv_iconst (v := 0) C.1.1 C.1.2.1 dX6_step_13 (by decide) ?_
  obtain ⟨oT_3, eoT_3, hf⟩ := zLet_el hf
  refine zPut (ty := .int) (kX6 cI cB aT oT_3) C.1 wuX6 tyX6 tyX6_ok nmX6 hK hP hD hS 0 rfl rfl 7 (by decide) wfX6_34 rfl rfl (by decide +kernel) rfl rfl (Nat.le_of_ble_eq_true rfl) dX6_step_14 (by rw [eoT_3]; rfl) (fun H locs hP hD hS => ?_)
  refine lv_aload_n C.1.1 C.1.2.1 dX6_step_17 rfl (lv_at hl 0 rfl) ?_
  refine lv_iconst (v := (-1)) C.1.1 C.1.2.1 dX6_step_18 (by decide) ?_
  obtain ⟨oT_4, eoT_4, hf⟩ := zLet_el hf
  refine zPut (ty := .int) (kX6 cI cB aT oT_4) C.1 wuX6 tyX6 tyX6_ok nmX6 hK hP hD hS 0 rfl rfl 8 (by decide) wfX6_37 rfl rfl (by decide +kernel) rfl rfl (Nat.le_of_ble_eq_true rfl) dX6_step_19 (by rw [eoT_4]; rfl) (fun H locs hP hD hS => ?_)
  refine lv_aload_n C.1.1 C.1.2.1 dX6_step_22 rfl (lv_at hl 0 rfl) ?_
  refine lv_iconst (v := 0) C.1.1 C.1.2.1 dX6_step_23 (by decide) ?_
  obtain ⟨oT_5, eoT_5, hf⟩ := zLet_el hf
  refine zPut (ty := .boolean) (kX6 cI cB aT oT_5) C.1 wuX6 tyX6 tyX6_ok nmX6 hK hP hD hS 0 rfl rfl 9 (by decide) wfX6_40 rfl rfl (by decide +kernel) (by decide +kernel) (by decide +kernel) (Nat.le_of_ble_eq_true rfl) dX6_step_24 (by rw [eoT_5]; rfl) (fun H locs hP hD hS => ?_)
  refine lv_aload_n C.1.1 C.1.2.1 dX6_step_27 rfl (lv_at hl 0 rfl) ?_
  refine zGet (.int (oT_5 3 0)) C.1 wuX6 hK hP 0 rfl rfl 3 (by decide) wfX6_22 rfl rfl dX6_step_28 ?_
  refine lv_aload_n C.1.1 C.1.2.1 dX6_step_31 rfl (lv_at hl 0 rfl) ?_
  refine zGet (.int (oT_5 2 0)) C.1 wuX6 hK hP 0 rfl rfl 2 (by decide) wfX6_19 rfl rfl dX6_step_32 ?_
  obtain ⟨J132_7, eJ132_7, hf⟩ := zJn_el hf
  have hJ132_7 : ∀ (oT_6 : Rc), J132_7 oT_6 = some oT' → ∀ (H : Heap) (locs : List Loc), va_P (dC, dI) vwCl (kX6 cI cB aT oT_6) H → va_D A (kX6 cI cB aT oT_6) → va_S A s.heap H locs → ∀ (ls : Array Slot), lv_has ls 1 [(0, .ref (aT 0))] → W p l e rX6_step s m args below meth c H locs 0 0 QQ (F0 m 132 ls []) := by
    intro oT_6 hf H locs hP hD hS ls hl
    rw [eJ132_7] at hf
    refine lv_aload_n C.1.1 C.1.2.1 dX6_step_132 rfl (lv_at hl 0 rfl) ?_
    refine lv_aload_n C.1.1 C.1.2.1 dX6_step_133 rfl (lv_at hl 0 rfl) ?_
    refine zGet (.int (oT_6 3 0)) C.1 wuX6 hK hP 0 rfl rfl 3 (by decide) wfX6_22 rfl rfl dX6_step_134 ?_
    refine lv_aload_n C.1.1 C.1.2.1 dX6_step_137 rfl (lv_at hl 0 rfl) ?_
    refine zGet (.int (oT_6 5 0)) C.1 wuX6 hK hP 0 rfl rfl 5 (by decide) wfX6_28 rfl rfl dX6_step_138 ?_
    refine lv_isub C.1.1 C.1.2.1 dX6_step_141 ?_
    obtain ⟨oT_8, eoT_8, hf⟩ := zLet_el hf
    refine zPut (ty := .int) (kX6 cI cB aT oT_8) C.1 wuX6 tyX6 tyX6_ok nmX6 hK hP hD hS 0 rfl rfl 6 (by decide) wfX6_31 rfl rfl (by decide +kernel) rfl rfl (Nat.le_of_ble_eq_true rfl) dX6_step_142 (by rw [eoT_8]; rfl) (fun H locs hP hD hS => ?_)
    cases hf
    rw [← hQ]
    exact zRv C hK hP hD hS dX6_step_145
  refine lv_icmp_lt (tgt := 46) C.1.1 C.1.2.1 dX6_step_35 (by decide) (fun hc => ?_) (fun hc => ?_)
  · replace hf := zIf_t hf hc
    refine lv_aload_n C.1.1 C.1.2.1 dX6_step_46 rfl (lv_at hl 0 rfl) ?_
    refine zGet (.ref (aT 1)) C.1 wuX6 hK hP 0 rfl rfl 0 (by decide) wfX6_9 rfl rfl dX6_step_47 ?_
    refine lv_aload_n C.1.1 C.1.2.1 dX6_step_50 rfl (lv_at hl 0 rfl) ?_
    refine zGet (.int (oT_5 3 0)) C.1 wuX6 hK hP 0 rfl rfl 3 (by decide) wfX6_22 rfl rfl dX6_step_51 ?_
    obtain ⟨hib, hf⟩ := zGd_el hf
    refine va_iald C.1.1 C.1.2.1 hK.1 hP 1 0 rfl rfl hib dX6_step_54 ?_
    obtain ⟨v9, hg, hf⟩ := zB1_el hf
    refine zCSi (As := [.int (oT_5 0 (oT_5 3 0).toNatClampNeg)]) (rest := []) (wr := (kX6 cI cB aT oT_5)) (wn := (kX6 cI cB aT oT_5)) C.1 hK hA hP hD hS [] [0, 1] [0, 1] (mtX6_isLetter l dC dI cI cB H.size (oT_5 0 (oT_5 3 0).toNatClampNeg) hg) (zCwS 1 C.1 wlX6_59 wtX6_isLetter wnX6 wkX6_isLetter rfl rfl (by decide +kernel) ⟨Nat.le_of_ble_eq_true rfl, Nat.le_of_ble_eq_true rfl⟩) rfl rfl (by decide +kernel) rfl rfl hl.1 (Nat.le_of_ble_eq_true rfl) dX6_step_55 ⟨Nat.zero_le _, Nat.zero_le _⟩ rfl (fun H locs hP hD hS => ?_)
    refine lv_if_eq (tgt := 68) C.1.1 C.1.2.1 dX6_step_58 (by decide) (fun hc => ?_) (fun hc => ?_)
    · replace hf := zIf_t hf hc
      refine lv_aload_n C.1.1 C.1.2.1 dX6_step_68 rfl (lv_at hl 0 rfl) ?_
      refine zGet (.ref (aT 1)) C.1 wuX6 hK hP 0 rfl rfl 0 (by decide) wfX6_9 rfl rfl dX6_step_69 ?_
      refine lv_aload_n C.1.1 C.1.2.1 dX6_step_72 rfl (lv_at hl 0 rfl) ?_
      refine zGet (.int (oT_5 3 0)) C.1 wuX6 hK hP 0 rfl rfl 3 (by decide) wfX6_22 rfl rfl dX6_step_73 ?_
      obtain ⟨hib, hf⟩ := zGd_el hf
      refine va_iald C.1.1 C.1.2.1 hK.1 hP 1 0 rfl rfl hib dX6_step_76 ?_
      obtain ⟨v10, hg, hf⟩ := zB1_el hf
      refine zCSi (As := [.int (oT_5 0 (oT_5 3 0).toNatClampNeg)]) (rest := []) (wr := (kX6 cI cB aT oT_5)) (wn := (kX6 cI cB aT oT_5)) C.1 hK hA hP hD hS [] [0, 1] [0, 1] (mtX6_isDigit l dC dI cI cB H.size (oT_5 0 (oT_5 3 0).toNatClampNeg) hg) (zCwS 1 C.1 wlX6_66 wtX6_isDigit wnX6 wkX6_isDigit rfl rfl (by decide +kernel) ⟨Nat.le_of_ble_eq_true rfl, Nat.le_of_ble_eq_true rfl⟩) rfl rfl (by decide +kernel) rfl rfl hl.1 (Nat.le_of_ble_eq_true rfl) dX6_step_77 ⟨Nat.zero_le _, Nat.zero_le _⟩ rfl (fun H locs hP hD hS => ?_)
      refine lv_if_eq (tgt := 90) C.1.1 C.1.2.1 dX6_step_80 (by decide) (fun hc => ?_) (fun hc => ?_)
      · replace hf := zIf_t hf hc
        refine lv_aload_n C.1.1 C.1.2.1 dX6_step_90 rfl (lv_at hl 0 rfl) ?_
        refine lv_aload_n C.1.1 C.1.2.1 dX6_step_91 rfl (lv_at hl 0 rfl) ?_
        refine zGet (.ref (aT 1)) C.1 wuX6 hK hP 0 rfl rfl 0 (by decide) wfX6_9 rfl rfl dX6_step_92 ?_
        refine lv_aload_n C.1.1 C.1.2.1 dX6_step_95 rfl (lv_at hl 0 rfl) ?_
        refine zGet (.int (oT_5 3 0)) C.1 wuX6 hK hP 0 rfl rfl 3 (by decide) wfX6_22 rfl rfl dX6_step_96 ?_
        obtain ⟨hib, hf⟩ := zGd_el hf
        refine va_iald C.1.1 C.1.2.1 hK.1 hP 1 0 rfl rfl hib dX6_step_99 ?_
        obtain ⟨v11, hg, hf⟩ := zB1_el hf
        refine zCSi (As := [.int (oT_5 0 (oT_5 3 0).toNatClampNeg)]) (rest := [.ref (aT 0)]) (wr := (kX6 cI cB aT oT_5)) (wn := (kX6 cI cB aT oT_5)) C.1 hK hA hP hD hS [] [0, 1] [0, 1] (mtX6_isSingle l dC dI cI cB H.size (oT_5 0 (oT_5 3 0).toNatClampNeg) hg) (zCwS 1 C.1 wlX6_72 wtX6_isSingle wnX6 wkX6_isSingle rfl rfl (by decide +kernel) ⟨Nat.le_of_ble_eq_true rfl, Nat.le_of_ble_eq_true rfl⟩) rfl rfl (by decide +kernel) rfl rfl hl.1 (Nat.le_of_ble_eq_true rfl) dX6_step_100 ⟨Nat.zero_le _, Nat.zero_le _⟩ rfl (fun H locs hP hD hS => ?_)
        obtain ⟨J119_13, eJ119_13, hf⟩ := zJn_el hf
        have hJ119_13 : ∀ (t12 : Int32), J119_13 t12 = some oT' → ∀ (H : Heap) (locs : List Loc), va_P (dC, dI) vwCl (kX6 cI cB aT oT_5) H → va_D A (kX6 cI cB aT oT_5) → va_S A s.heap H locs → ∀ (ls : Array Slot), lv_has ls 1 [(0, .ref (aT 0))] → W p l e rX6_step s m args below meth c H locs 0 0 QQ (F0 m 119 ls [.int t12, .ref (aT 0)]) := by
          intro t12 hf H locs hP hD hS ls hl
          rw [eJ119_13] at hf
          obtain ⟨oT_14, eoT_14, hf⟩ := zLet_el hf
          refine zPut (ty := .int) (kX6 cI cB aT oT_14) C.1 wuX6 tyX6 tyX6_ok nmX6 hK hP hD hS 0 rfl rfl 4 (by decide) wfX6_25 rfl rfl (by decide +kernel) rfl rfl (Nat.le_of_ble_eq_true rfl) dX6_step_119 (by rw [eoT_14]; rfl) (fun H locs hP hD hS => ?_)
          refine lv_aload_n C.1.1 C.1.2.1 dX6_step_122 rfl (lv_at hl 0 rfl) ?_
          refine lv_dup C.1.1 C.1.2.1 dX6_step_123 rfl ?_
          refine zGet (.int (oT_14 3 0)) C.1 wuX6 hK hP 0 rfl rfl 3 (by decide) wfX6_22 rfl rfl dX6_step_124 ?_
          refine lv_iconst (v := 1) C.1.1 C.1.2.1 dX6_step_127 (by decide) ?_
          refine lv_iadd C.1.1 C.1.2.1 dX6_step_128 ?_
          obtain ⟨oT_15, eoT_15, hf⟩ := zLet_el hf
          refine zPut (ty := .int) (kX6 cI cB aT oT_15) C.1 wuX6 tyX6 tyX6_ok nmX6 hK hP hD hS 0 rfl rfl 3 (by decide) wfX6_22 rfl rfl (by decide +kernel) rfl rfl (Nat.le_of_ble_eq_true rfl) dX6_step_129 (by rw [eoT_15]; rfl) (fun H locs hP hD hS => ?_)
          exact hJ132_7 oT_15 hf H locs hP hD hS ls (lv_sub hl [0] rfl)
        refine lv_if_eq (tgt := 118) C.1.1 C.1.2.1 dX6_step_103 (by decide) (fun hc => ?_) (fun hc => ?_)
        · replace hf := zIf_t hf hc
          refine lv_iconst (v := 1) C.1.1 C.1.2.1 dX6_step_118 (by decide) ?_
          exact hJ119_13 (1 : Int32) hf H locs hP hD hS ls (lv_sub hl [0] rfl)
        · replace hf := zIf_f hf hc
          refine lv_aload_n C.1.1 C.1.2.1 dX6_step_106 rfl (lv_at hl 0 rfl) ?_
          refine zGet (.ref (aT 1)) C.1 wuX6 hK hP 0 rfl rfl 0 (by decide) wfX6_9 rfl rfl dX6_step_107 ?_
          refine lv_aload_n C.1.1 C.1.2.1 dX6_step_110 rfl (lv_at hl 0 rfl) ?_
          refine zGet (.int (oT_5 3 0)) C.1 wuX6 hK hP 0 rfl rfl 3 (by decide) wfX6_22 rfl rfl dX6_step_111 ?_
          obtain ⟨hib, hf⟩ := zGd_el hf
          refine va_iald C.1.1 C.1.2.1 hK.1 hP 1 0 rfl rfl hib dX6_step_114 ?_
          refine lv_goto (tgt := 119) C.1.1 C.1.2.1 dX6_step_115 (by decide) ?_
          exact hJ119_13 (oT_5 0 (oT_5 3 0).toNatClampNeg) hf H locs hP hD hS ls (lv_sub hl [0] rfl)
      · replace hf := zIf_f hf hc
        refine lv_aload_n C.1.1 C.1.2.1 dX6_step_83 rfl (lv_at hl 0 rfl) ?_
        obtain ⟨oT_16, hg, hf⟩ := zB1_el hf
        refine zCVv (As := []) (rest := []) (wr := ([] : va_W)) (wn := (kX6 cI cB aT oT_16)) C.1 hK hA hP hD hS [0, 1] [] [0, 1] 0 (mtX6_takeWhole l dC dI cI cB aT H.size NN oT_5 hg) (zCwV 0 C.1 wlX6_69 wiX6_takeWhole ws_X6_takeWhole wnX6 wkX6_takeWhole rfl rfl (by decide +kernel) ⟨Nat.le_of_ble_eq_true rfl, Nat.le_of_ble_eq_true rfl⟩) rfl rfl (by decide +kernel) rfl rfl rfl rfl hl.1 (Nat.le_of_ble_eq_true rfl) dX6_step_84 ⟨Nat.zero_le _, Nat.zero_le _⟩ rfl (fun H locs hP hD hS => ?_)
        refine lv_goto (tgt := 132) C.1.1 C.1.2.1 dX6_step_87 (by decide) ?_
        exact hJ132_7 oT_16 hf H locs hP hD hS ls (lv_sub hl [0] rfl)
    · replace hf := zIf_f hf hc
      refine lv_aload_n C.1.1 C.1.2.1 dX6_step_61 rfl (lv_at hl 0 rfl) ?_
      obtain ⟨oT_17, hg, hf⟩ := zB1_el hf
      refine zCVv (As := []) (rest := []) (wr := ([] : va_W)) (wn := (kX6 cI cB aT oT_17)) C.1 hK hA hP hD hS [0, 1] [] [0, 1] 0 (mtX6_takeWord l dC dI cI cB aT H.size NN oT_5 hg) (zCwV 0 C.1 wlX6_63 wiX6_takeWord ws_X6_takeWord wnX6 wkX6_takeWord rfl rfl (by decide +kernel) ⟨Nat.le_of_ble_eq_true rfl, Nat.le_of_ble_eq_true rfl⟩) rfl rfl (by decide +kernel) rfl rfl rfl rfl hl.1 (Nat.le_of_ble_eq_true rfl) dX6_step_62 ⟨Nat.zero_le _, Nat.zero_le _⟩ rfl (fun H locs hP hD hS => ?_)
      refine lv_goto (tgt := 132) C.1.1 C.1.2.1 dX6_step_65 (by decide) ?_
      exact hJ132_7 oT_17 hf H locs hP hD hS ls (lv_sub hl [0] rfl)
  · replace hf := zIf_f hf hc
    refine lv_aload_n C.1.1 C.1.2.1 dX6_step_38 rfl (lv_at hl 0 rfl) ?_
    refine lv_iconst (v := 0) C.1.1 C.1.2.1 dX6_step_39 (by decide) ?_
    obtain ⟨oT_18, eoT_18, hf⟩ := zLet_el hf
    refine zPut (ty := .int) (kX6 cI cB aT oT_18) C.1 wuX6 tyX6 tyX6_ok nmX6 hK hP hD hS 0 rfl rfl 4 (by decide) wfX6_25 rfl rfl (by decide +kernel) rfl rfl (Nat.le_of_ble_eq_true rfl) dX6_step_40 (by rw [eoT_18]; rfl) (fun H locs hP hD hS => ?_)
    refine lv_goto (tgt := 132) C.1.1 C.1.2.1 dX6_step_43 (by decide) ?_
    exact hJ132_7 oT_18 hf H locs hP hD hS ls (lv_sub hl [0] rfl)
def fX6_open (NN : Nat) (oT : Rc) (p1 : Int32) : Option (Rc) :=
  zLet (if (oT 1 0) < p1 then (oT 1 0) else p1) fun x1 =>
  zLet (if (0 : Int32) < x1 then x1 else (0 : Int32)) fun x2 =>
  zLet (rs oT 2 (fun _ => x2)) fun oT_3 =>
  zLet (rs oT_3 3 (fun _ => (0 : Int32))) fun oT_4 =>
  zB1 (fX6_step NN oT_4) fun oT_5 =>
  some oT_5
abbrev rX6_open : Room := { frames := 3, cells := 0, slots := 0, locals := 61 }
set_option maxHeartbeats 4000000 in
set_option maxRecDepth 100000 in
theorem mtX6_open (l : Launch) (dC : Nat → ClassId) (dI : Nat → Nat → Nat) (cI cB : ClassId) (aT : Nat → Nat) (sz : Nat) (NN : Nat) (oT : Rc) (p1 : Int32) {oT' : Rc} (hf : fX6_open NN oT p1 = some oT') : zMv l yX6_open (Cond.code yX6_open cX6_open 2 none :: lw_g) rX6_open (dC, dI) [(cI, .int), (cB, .byte)] [.ref (aT 0), .int p1] sz (kX6 cI cB aT oT) (kX6 cI cB aT oT') := by
  refine zSt (cc := cX6_open) (maxL := 2) (ret := none) (own := RX6) (fun A => zQv (dC, dI) [(cI, .int), (cB, .byte)] A (kX6 cI cB aT oT')) (by decide) rfl rfl (Nat.le_of_ble_eq_true rfl) ?_
  intro p e s m below meth c ls A H locs C hK hA hP hD hS hl
  generalize hQ : MQ below (zQv (dC, dI) [(cI, .int), (cB, .byte)] A (kX6 cI cB aT oT')) _ s 0 0 A = QQ
  generalize ([.ref (aT 0), .int p1] : List Value).toArray = args at C hQ ⊢
  have hl : lv_has ls 2 [(0, .ref (aT 0)), (1, .int p1)] := hl
  unfold fX6_open at hf
  refine lv_aload_n C.1.1 C.1.2.1 dX6_open_0 rfl (lv_at hl 0 rfl) ?_
  refine lv_iconst (v := 0) C.1.1 C.1.2.1 dX6_open_1 (by decide) ?_
  refine lv_iload_n C.1.1 C.1.2.1 dX6_open_2 rfl (lv_at hl 1 rfl) ?_
  refine lv_aload_n C.1.1 C.1.2.1 dX6_open_3 rfl (lv_at hl 0 rfl) ?_
  refine zGet (.int (oT 1 0)) C.1 wuX6 hK hP 0 rfl rfl 1 (by decide) wfX6_15 rfl rfl dX6_open_4 ?_
  refine va_mmin C.1.1 C.1.2.1 (C.1.2.2.1.trans hl.1.symm) C.1.2.2.2.1 (C.1.2.2.2.2 _ wlX6_44) (C.1.2.2.2.2 _ wtJ9_min_7cf53) (C.1.2.2.2.2 _ wnJ9) (C.1.2.2.2.2 _ wkJ9_min_7cf53) (Nat.le_of_ble_eq_true rfl) (Nat.le_of_ble_eq_true rfl) (Nat.zero_le _) (Nat.zero_le _) dX6_open_7 ?_
  refine lv_topi (fun x1 ex1 => ?_)
  replace hf := zLet_at hf ex1
  refine va_mmax C.1.1 C.1.2.1 (C.1.2.2.1.trans hl.1.symm) C.1.2.2.2.1 (C.1.2.2.2.2 _ wlX6_50) (C.1.2.2.2.2 _ wtJ9_max_7cf53) (C.1.2.2.2.2 _ wnJ9) (C.1.2.2.2.2 _ wkJ9_max_7cf53) (Nat.le_of_ble_eq_true rfl) (Nat.le_of_ble_eq_true rfl) (Nat.zero_le _) (Nat.zero_le _) dX6_open_10 ?_
  refine lv_topi (fun x2 ex2 => ?_)
  replace hf := zLet_at hf ex2
  obtain ⟨oT_3, eoT_3, hf⟩ := zLet_el hf
  refine zPut (ty := .int) (kX6 cI cB aT oT_3) C.1 wuX6 tyX6 tyX6_ok nmX6 hK hP hD hS 0 rfl rfl 2 (by decide) wfX6_19 rfl rfl (by decide +kernel) rfl rfl (Nat.le_of_ble_eq_true rfl) dX6_open_13 (by rw [eoT_3]; rfl) (fun H locs hP hD hS => ?_)
  refine lv_aload_n C.1.1 C.1.2.1 dX6_open_16 rfl (lv_at hl 0 rfl) ?_
  refine lv_iconst (v := 0) C.1.1 C.1.2.1 dX6_open_17 (by decide) ?_
  obtain ⟨oT_4, eoT_4, hf⟩ := zLet_el hf
  refine zPut (ty := .int) (kX6 cI cB aT oT_4) C.1 wuX6 tyX6 tyX6_ok nmX6 hK hP hD hS 0 rfl rfl 3 (by decide) wfX6_22 rfl rfl (by decide +kernel) rfl rfl (Nat.le_of_ble_eq_true rfl) dX6_open_18 (by rw [eoT_4]; rfl) (fun H locs hP hD hS => ?_)
  refine lv_aload_n C.1.1 C.1.2.1 dX6_open_21 rfl (lv_at hl 0 rfl) ?_
  obtain ⟨oT_5, hg, hf⟩ := zB1_el hf
  refine zCVv (As := []) (rest := []) (wr := ([] : va_W)) (wn := (kX6 cI cB aT oT_5)) C.1 hK hA hP hD hS [0, 1] [] [0, 1] 0 (mtX6_step l dC dI cI cB aT H.size NN oT_4 hg) (zCwV 0 C.1 wlX6_53 wiX6_step ws_X6_step wnX6 wkX6_step rfl rfl (by decide +kernel) ⟨Nat.le_of_ble_eq_true rfl, Nat.le_of_ble_eq_true rfl⟩) rfl rfl (by decide +kernel) rfl rfl rfl rfl hl.1 (Nat.le_of_ble_eq_true rfl) dX6_open_22 ⟨Nat.zero_le _, Nat.zero_le _⟩ rfl (fun H locs hP hD hS => ?_)
  cases hf
  rw [← hQ]
  exact zRv C hK hP hD hS dX6_open_25
def fX6_letter (oT : Rc) (p1 : Int32) : Option (Int32) :=
  if p1 < 0 then (
    some (-1 : Int32)
  ) else (
    if (oT 6 0) ≤ p1 then (
      some (-1 : Int32)
    ) else (
      zGd (inb ((oT 5 0) + p1) 600) <|
      some (oT 0 ((oT 5 0) + p1).toNatClampNeg)
    )
  )
abbrev rX6_letter : Room := { frames := 0, cells := 0, slots := 0, locals := 0 }
set_option maxHeartbeats 4000000 in
set_option maxRecDepth 100000 in
theorem mtX6_letter (l : Launch) (dC : Nat → ClassId) (dI : Nat → Nat → Nat) (cI cB : ClassId) (aT : Nat → Nat) (sz : Nat) (oT : Rc) (p1 : Int32) {ov : Int32} (hf : fX6_letter oT p1 = some ov) : zMi l yX6_letter (Cond.code yX6_letter cX6_letter 2 (some .int) :: lw_g) rX6_letter (dC, dI) [(cI, .int), (cB, .byte)] [.ref (aT 0), .int p1] sz (kX6 cI cB aT oT) ov (kX6 cI cB aT oT) := by
  refine zSt (cc := cX6_letter) (maxL := 2) (ret := (some .int)) (own := RX6) (fun A => zQi (dC, dI) [(cI, .int), (cB, .byte)] A ov (kX6 cI cB aT oT)) (by decide) rfl rfl (Nat.le_of_ble_eq_true rfl) ?_
  intro p e s m below meth c ls A H locs C hK hA hP hD hS hl
  generalize hQ : MQ below (zQi (dC, dI) [(cI, .int), (cB, .byte)] A ov (kX6 cI cB aT oT)) _ s 0 0 A = QQ
  generalize ([.ref (aT 0), .int p1] : List Value).toArray = args at C hQ ⊢
  have hl : lv_has ls 2 [(0, .ref (aT 0)), (1, .int p1)] := hl
  unfold fX6_letter at hf
  refine lv_iload_n C.1.1 C.1.2.1 dX6_letter_0 rfl (lv_at hl 1 rfl) ?_
  refine lv_if_lt (tgt := 26) C.1.1 C.1.2.1 dX6_letter_1 (by decide) (fun hc => ?_) (fun hc => ?_)
  · replace hf := zIf_t hf hc
    refine lv_iconst (v := (-1)) C.1.1 C.1.2.1 dX6_letter_26 (by decide) ?_
    cases hf
    rw [← hQ]
    exact zRi C hK hP hD hS dX6_letter_27
  · replace hf := zIf_f hf hc
    refine lv_iload_n C.1.1 C.1.2.1 dX6_letter_4 rfl (lv_at hl 1 rfl) ?_
    refine lv_aload_n C.1.1 C.1.2.1 dX6_letter_5 rfl (lv_at hl 0 rfl) ?_
    refine zGet (.int (oT 6 0)) C.1 wuX6 hK hP 0 rfl rfl 6 (by decide) wfX6_31 rfl rfl dX6_letter_6 ?_
    refine lv_icmp_ge (tgt := 26) C.1.1 C.1.2.1 dX6_letter_9 (by decide) (fun hc => ?_) (fun hc => ?_)
    · replace hf := zIf_t hf hc
      refine lv_iconst (v := (-1)) C.1.1 C.1.2.1 dX6_letter_26 (by decide) ?_
      cases hf
      rw [← hQ]
      exact zRi C hK hP hD hS dX6_letter_27
    · replace hf := zIf_f hf hc
      refine lv_aload_n C.1.1 C.1.2.1 dX6_letter_12 rfl (lv_at hl 0 rfl) ?_
      refine zGet (.ref (aT 1)) C.1 wuX6 hK hP 0 rfl rfl 0 (by decide) wfX6_9 rfl rfl dX6_letter_13 ?_
      refine lv_aload_n C.1.1 C.1.2.1 dX6_letter_16 rfl (lv_at hl 0 rfl) ?_
      refine zGet (.int (oT 5 0)) C.1 wuX6 hK hP 0 rfl rfl 5 (by decide) wfX6_28 rfl rfl dX6_letter_17 ?_
      refine lv_iload_n C.1.1 C.1.2.1 dX6_letter_20 rfl (lv_at hl 1 rfl) ?_
      refine lv_iadd C.1.1 C.1.2.1 dX6_letter_21 ?_
      obtain ⟨hib, hf⟩ := zGd_el hf
      refine va_iald C.1.1 C.1.2.1 hK.1 hP 1 0 rfl rfl hib dX6_letter_22 ?_
      refine lv_goto (tgt := 27) C.1.1 C.1.2.1 dX6_letter_23 (by decide) ?_
      cases hf
      rw [← hQ]
      exact zRi C hK hP hD hS dX6_letter_27
def fX6_isSign (oT : Rc) : Option (Int32) :=
  zB1 (fX6_isSignByte (oT 4 0)) fun v1 =>
  zGd (zbit v1) <|
  some v1
abbrev rX6_isSign : Room := { frames := 1, cells := 0, slots := 0, locals := 20 }
set_option maxHeartbeats 4000000 in
set_option maxRecDepth 100000 in
theorem mtX6_isSign (l : Launch) (dC : Nat → ClassId) (dI : Nat → Nat → Nat) (cI cB : ClassId) (aT : Nat → Nat) (sz : Nat) (oT : Rc) {ov : Int32} (hf : fX6_isSign oT = some ov) : zMi l yX6_isSign (Cond.code yX6_isSign cX6_isSign 1 (some .boolean) :: lw_g) rX6_isSign (dC, dI) [(cI, .int), (cB, .byte)] [.ref (aT 0)] sz (kX6 cI cB aT oT) ov (kX6 cI cB aT oT) := by
  refine zSt (cc := cX6_isSign) (maxL := 1) (ret := (some .boolean)) (own := RX6) (fun A => zQi (dC, dI) [(cI, .int), (cB, .byte)] A ov (kX6 cI cB aT oT)) (by decide) rfl rfl (Nat.le_of_ble_eq_true rfl) ?_
  intro p e s m below meth c ls A H locs C hK hA hP hD hS hl
  generalize hQ : MQ below (zQi (dC, dI) [(cI, .int), (cB, .byte)] A ov (kX6 cI cB aT oT)) _ s 0 0 A = QQ
  generalize ([.ref (aT 0)] : List Value).toArray = args at C hQ ⊢
  have hl : lv_has ls 1 [(0, .ref (aT 0))] := hl
  unfold fX6_isSign at hf
  refine lv_aload_n C.1.1 C.1.2.1 dX6_isSign_0 rfl (lv_at hl 0 rfl) ?_
  refine zGet (.int (oT 4 0)) C.1 wuX6 hK hP 0 rfl rfl 4 (by decide) wfX6_25 rfl rfl dX6_isSign_1 ?_
  obtain ⟨v1, hg, hf⟩ := zB1_el hf
  refine zCSi (As := [.int (oT 4 0)]) (rest := []) (wr := (kX6 cI cB aT oT)) (wn := (kX6 cI cB aT oT)) C.1 hK hA hP hD hS [] [0, 1] [0, 1] (mtX6_isSignByte l dC dI cI cB H.size (oT 4 0) hg) (zCwS 1 C.1 wlX6_75 wtX6_isSignByte wnX6 wkX6_isSignByte rfl rfl (by decide +kernel) ⟨Nat.le_of_ble_eq_true rfl, Nat.le_of_ble_eq_true rfl⟩) rfl rfl (by decide +kernel) rfl rfl hl.1 (Nat.le_of_ble_eq_true rfl) dX6_isSign_4 ⟨Nat.zero_le _, Nat.zero_le _⟩ rfl (fun H locs hP hD hS => ?_)
  obtain ⟨hz, hf⟩ := zGd_el hf
  cases hf
  rw [← hQ]
  exact zRz C (zbit_n hz).1 hK hP hD hS dX6_isSign_7
