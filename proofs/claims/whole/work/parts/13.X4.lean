theorem dX4_init_0 : decode cX4_init 0 = .ok (.aload_n 0, 1) := by decide +kernel
theorem dX4_init_1 : decode cX4_init 1 = .ok (.invokespecial 3, 3) := by decide +kernel
theorem dX4_init_4 : decode cX4_init 4 = .ok (.aload_n 0, 1) := by decide +kernel
theorem dX4_init_5 : decode cX4_init 5 = .ok (.iconst 0, 1) := by decide +kernel
theorem dX4_init_6 : decode cX4_init 6 = .ok (.putfield 9, 3) := by decide +kernel
theorem dX4_init_9 : decode cX4_init 9 = .ok (.aload_n 0, 1) := by decide +kernel
theorem dX4_init_10 : decode cX4_init 10 = .ok (.iconst 0, 1) := by decide +kernel
theorem dX4_init_11 : decode cX4_init 11 = .ok (.putfield 15, 3) := by decide +kernel
theorem dX4_init_14 : decode cX4_init 14 = .ok (.aload_n 0, 1) := by decide +kernel
theorem dX4_init_15 : decode cX4_init 15 = .ok (.iconst 0, 1) := by decide +kernel
theorem dX4_init_16 : decode cX4_init 16 = .ok (.putfield 18, 3) := by decide +kernel
theorem dX4_init_19 : decode cX4_init 19 = .ok (.aload_n 0, 1) := by decide +kernel
theorem dX4_init_20 : decode cX4_init 20 = .ok (.iconst 0, 1) := by decide +kernel
theorem dX4_init_21 : decode cX4_init 21 = .ok (.putfield 21, 3) := by decide +kernel
theorem dX4_init_24 : decode cX4_init 24 = .ok (.aload_n 0, 1) := by decide +kernel
theorem dX4_init_25 : decode cX4_init 25 = .ok (.bipush 96, 2) := by decide +kernel
theorem dX4_init_27 : decode cX4_init 27 = .ok (.newarray .int, 2) := by decide +kernel
theorem dX4_init_29 : decode cX4_init 29 = .ok (.putfield 24, 3) := by decide +kernel
theorem dX4_init_32 : decode cX4_init 32 = .ok (.aload_n 0, 1) := by decide +kernel
theorem dX4_init_33 : decode cX4_init 33 = .ok (.bipush 12, 2) := by decide +kernel
theorem dX4_init_35 : decode cX4_init 35 = .ok (.newarray .int, 2) := by decide +kernel
theorem dX4_init_37 : decode cX4_init 37 = .ok (.putfield 28, 3) := by decide +kernel
theorem dX4_init_40 : decode cX4_init 40 = .ok (.aload_n 0, 1) := by decide +kernel
theorem dX4_init_41 : decode cX4_init 41 = .ok (.bipush 12, 2) := by decide +kernel
theorem dX4_init_43 : decode cX4_init 43 = .ok (.newarray .int, 2) := by decide +kernel
theorem dX4_init_45 : decode cX4_init 45 = .ok (.putfield 31, 3) := by decide +kernel
theorem dX4_init_48 : decode cX4_init 48 = .ok (.aload_n 0, 1) := by decide +kernel
theorem dX4_init_49 : decode cX4_init 49 = .ok (.bipush 13, 2) := by decide +kernel
theorem dX4_init_51 : decode cX4_init 51 = .ok (.newarray .int, 2) := by decide +kernel
theorem dX4_init_53 : decode cX4_init 53 = .ok (.putfield 34, 3) := by decide +kernel
theorem dX4_init_56 : decode cX4_init 56 = .ok (.aload_n 0, 1) := by decide +kernel
theorem dX4_init_57 : decode cX4_init 57 = .ok (.bipush 96, 2) := by decide +kernel
theorem dX4_init_59 : decode cX4_init 59 = .ok (.newarray .int, 2) := by decide +kernel
theorem dX4_init_61 : decode cX4_init 61 = .ok (.putfield 37, 3) := by decide +kernel
theorem dX4_init_64 : decode cX4_init 64 = .ok (.aload_n 0, 1) := by decide +kernel
theorem dX4_init_65 : decode cX4_init 65 = .ok (.bipush 96, 2) := by decide +kernel
theorem dX4_init_67 : decode cX4_init 67 = .ok (.newarray .int, 2) := by decide +kernel
theorem dX4_init_69 : decode cX4_init 69 = .ok (.putfield 40, 3) := by decide +kernel
theorem dX4_init_72 : decode cX4_init 72 = .ok (.aload_n 0, 1) := by decide +kernel
theorem dX4_init_73 : decode cX4_init 73 = .ok (.bipush 97, 2) := by decide +kernel
theorem dX4_init_75 : decode cX4_init 75 = .ok (.newarray .int, 2) := by decide +kernel
theorem dX4_init_77 : decode cX4_init 77 = .ok (.putfield 43, 3) := by decide +kernel
theorem dX4_init_80 : decode cX4_init 80 = .ok (.aload_n 0, 1) := by decide +kernel
theorem dX4_init_81 : decode cX4_init 81 = .ok (.sipush 600, 3) := by decide +kernel
theorem dX4_init_84 : decode cX4_init 84 = .ok (.newarray .int, 2) := by decide +kernel
theorem dX4_init_86 : decode cX4_init 86 = .ok (.putfield 46, 3) := by decide +kernel
theorem dX4_init_89 : decode cX4_init 89 = .ok (.aload_n 0, 1) := by decide +kernel
theorem dX4_init_90 : decode cX4_init 90 = .ok (.sipush 600, 3) := by decide +kernel
theorem dX4_init_93 : decode cX4_init 93 = .ok (.newarray .int, 2) := by decide +kernel
theorem dX4_init_95 : decode cX4_init 95 = .ok (.putfield 49, 3) := by decide +kernel
theorem dX4_init_98 : decode cX4_init 98 = .ok (.return_, 1) := by decide +kernel
theorem dX4_forget_0 : decode cX4_forget 0 = .ok (.aload_n 0, 1) := by decide +kernel
theorem dX4_forget_1 : decode cX4_forget 1 = .ok (.iconst 0, 1) := by decide +kernel
theorem dX4_forget_2 : decode cX4_forget 2 = .ok (.putfield 9, 3) := by decide +kernel
theorem dX4_forget_5 : decode cX4_forget 5 = .ok (.aload_n 0, 1) := by decide +kernel
theorem dX4_forget_6 : decode cX4_forget 6 = .ok (.iconst 0, 1) := by decide +kernel
theorem dX4_forget_7 : decode cX4_forget 7 = .ok (.putfield 15, 3) := by decide +kernel
theorem dX4_forget_10 : decode cX4_forget 10 = .ok (.aload_n 0, 1) := by decide +kernel
theorem dX4_forget_11 : decode cX4_forget 11 = .ok (.iconst 0, 1) := by decide +kernel
theorem dX4_forget_12 : decode cX4_forget 12 = .ok (.putfield 18, 3) := by decide +kernel
theorem dX4_forget_15 : decode cX4_forget 15 = .ok (.aload_n 0, 1) := by decide +kernel
theorem dX4_forget_16 : decode cX4_forget 16 = .ok (.iconst 0, 1) := by decide +kernel
theorem dX4_forget_17 : decode cX4_forget 17 = .ok (.putfield 21, 3) := by decide +kernel
theorem dX4_forget_20 : decode cX4_forget 20 = .ok (.return_, 1) := by decide +kernel
theorem dX4_linesIn_0 : decode cX4_linesIn 0 = .ok (.aload_n 0, 1) := by decide +kernel
theorem dX4_linesIn_1 : decode cX4_linesIn 1 = .ok (.getfield 34, 3) := by decide +kernel
theorem dX4_linesIn_4 : decode cX4_linesIn 4 = .ok (.iload_n 1, 1) := by decide +kernel
theorem dX4_linesIn_5 : decode cX4_linesIn 5 = .ok (.iconst 1, 1) := by decide +kernel
theorem dX4_linesIn_6 : decode cX4_linesIn 6 = .ok (.iadd, 1) := by decide +kernel
theorem dX4_linesIn_7 : decode cX4_linesIn 7 = .ok (.iaload, 1) := by decide +kernel
theorem dX4_linesIn_8 : decode cX4_linesIn 8 = .ok (.aload_n 0, 1) := by decide +kernel
theorem dX4_linesIn_9 : decode cX4_linesIn 9 = .ok (.getfield 34, 3) := by decide +kernel
theorem dX4_linesIn_12 : decode cX4_linesIn 12 = .ok (.iload_n 1, 1) := by decide +kernel
theorem dX4_linesIn_13 : decode cX4_linesIn 13 = .ok (.iaload, 1) := by decide +kernel
theorem dX4_linesIn_14 : decode cX4_linesIn 14 = .ok (.isub, 1) := by decide +kernel
theorem dX4_linesIn_15 : decode cX4_linesIn 15 = .ok (.ireturn, 1) := by decide +kernel
theorem dX4_hasBlockNamed_0 : decode cX4_hasBlockNamed 0 = .ok (.iconst 0, 1) := by decide +kernel
theorem dX4_hasBlockNamed_1 : decode cX4_hasBlockNamed 1 = .ok (.istore_n 2, 1) := by decide +kernel
theorem dX4_hasBlockNamed_2 : decode cX4_hasBlockNamed 2 = .ok (.iload_n 2, 1) := by decide +kernel
theorem dX4_hasBlockNamed_3 : decode cX4_hasBlockNamed 3 = .ok (.aload_n 0, 1) := by decide +kernel
theorem dX4_hasBlockNamed_4 : decode cX4_hasBlockNamed 4 = .ok (.getfield 9, 3) := by decide +kernel
theorem dX4_hasBlockNamed_7 : decode cX4_hasBlockNamed 7 = .ok (.if_icmp .ge 20, 3) := by decide +kernel
theorem dX4_hasBlockNamed_10 : decode cX4_hasBlockNamed 10 = .ok (.aload_n 0, 1) := by decide +kernel
theorem dX4_hasBlockNamed_11 : decode cX4_hasBlockNamed 11 = .ok (.iload_n 2, 1) := by decide +kernel
theorem dX4_hasBlockNamed_12 : decode cX4_hasBlockNamed 12 = .ok (.aload_n 1, 1) := by decide +kernel
theorem dX4_hasBlockNamed_13 : decode cX4_hasBlockNamed 13 = .ok (.invokevirtual 52, 3) := by decide +kernel
theorem dX4_hasBlockNamed_16 : decode cX4_hasBlockNamed 16 = .ok (.ifCond .eq 5, 3) := by decide +kernel
theorem dX4_hasBlockNamed_19 : decode cX4_hasBlockNamed 19 = .ok (.iconst 1, 1) := by decide +kernel
theorem dX4_hasBlockNamed_20 : decode cX4_hasBlockNamed 20 = .ok (.ireturn, 1) := by decide +kernel
theorem dX4_hasBlockNamed_21 : decode cX4_hasBlockNamed 21 = .ok (.iinc 2 1, 3) := by decide +kernel
theorem dX4_hasBlockNamed_24 : decode cX4_hasBlockNamed 24 = .ok (.goto (-22), 3) := by decide +kernel
theorem dX4_hasBlockNamed_27 : decode cX4_hasBlockNamed 27 = .ok (.iconst 0, 1) := by decide +kernel
theorem dX4_hasBlockNamed_28 : decode cX4_hasBlockNamed 28 = .ok (.ireturn, 1) := by decide +kernel
theorem dX4_isNamed_0 : decode cX4_isNamed 0 = .ok (.aload_n 0, 1) := by decide +kernel
theorem dX4_isNamed_1 : decode cX4_isNamed 1 = .ok (.getfield 28, 3) := by decide +kernel
theorem dX4_isNamed_4 : decode cX4_isNamed 4 = .ok (.iload_n 1, 1) := by decide +kernel
theorem dX4_isNamed_5 : decode cX4_isNamed 5 = .ok (.iaload, 1) := by decide +kernel
theorem dX4_isNamed_6 : decode cX4_isNamed 6 = .ok (.aload_n 2, 1) := by decide +kernel
theorem dX4_isNamed_7 : decode cX4_isNamed 7 = .ok (.getfield 56, 3) := by decide +kernel
theorem dX4_isNamed_10 : decode cX4_isNamed 10 = .ok (.if_icmp .eq 5, 3) := by decide +kernel
theorem dX4_isNamed_13 : decode cX4_isNamed 13 = .ok (.iconst 0, 1) := by decide +kernel
theorem dX4_isNamed_14 : decode cX4_isNamed 14 = .ok (.ireturn, 1) := by decide +kernel
theorem dX4_isNamed_15 : decode cX4_isNamed 15 = .ok (.iconst 0, 1) := by decide +kernel
theorem dX4_isNamed_16 : decode cX4_isNamed 16 = .ok (.istore_n 3, 1) := by decide +kernel
theorem dX4_isNamed_17 : decode cX4_isNamed 17 = .ok (.iload_n 3, 1) := by decide +kernel
theorem dX4_isNamed_18 : decode cX4_isNamed 18 = .ok (.aload_n 0, 1) := by decide +kernel
theorem dX4_isNamed_19 : decode cX4_isNamed 19 = .ok (.getfield 28, 3) := by decide +kernel
theorem dX4_isNamed_22 : decode cX4_isNamed 22 = .ok (.iload_n 1, 1) := by decide +kernel
theorem dX4_isNamed_23 : decode cX4_isNamed 23 = .ok (.iaload, 1) := by decide +kernel
theorem dX4_isNamed_24 : decode cX4_isNamed 24 = .ok (.if_icmp .ge 30, 3) := by decide +kernel
theorem dX4_isNamed_27 : decode cX4_isNamed 27 = .ok (.aload_n 0, 1) := by decide +kernel
theorem dX4_isNamed_28 : decode cX4_isNamed 28 = .ok (.getfield 24, 3) := by decide +kernel
theorem dX4_isNamed_31 : decode cX4_isNamed 31 = .ok (.iload_n 1, 1) := by decide +kernel
theorem dX4_isNamed_32 : decode cX4_isNamed 32 = .ok (.bipush 8, 2) := by decide +kernel
theorem dX4_isNamed_34 : decode cX4_isNamed 34 = .ok (.imul, 1) := by decide +kernel
theorem dX4_isNamed_35 : decode cX4_isNamed 35 = .ok (.iload_n 3, 1) := by decide +kernel
theorem dX4_isNamed_36 : decode cX4_isNamed 36 = .ok (.iadd, 1) := by decide +kernel
theorem dX4_isNamed_37 : decode cX4_isNamed 37 = .ok (.iaload, 1) := by decide +kernel
theorem dX4_isNamed_38 : decode cX4_isNamed 38 = .ok (.aload_n 2, 1) := by decide +kernel
theorem dX4_isNamed_39 : decode cX4_isNamed 39 = .ok (.iload_n 3, 1) := by decide +kernel
theorem dX4_isNamed_40 : decode cX4_isNamed 40 = .ok (.invokevirtual 61, 3) := by decide +kernel
theorem dX4_isNamed_43 : decode cX4_isNamed 43 = .ok (.if_icmp .eq 5, 3) := by decide +kernel
theorem dX4_isNamed_46 : decode cX4_isNamed 46 = .ok (.iconst 0, 1) := by decide +kernel
theorem dX4_isNamed_47 : decode cX4_isNamed 47 = .ok (.ireturn, 1) := by decide +kernel
theorem dX4_isNamed_48 : decode cX4_isNamed 48 = .ok (.iinc 3 1, 3) := by decide +kernel
theorem dX4_isNamed_51 : decode cX4_isNamed 51 = .ok (.goto (-34), 3) := by decide +kernel
theorem dX4_isNamed_54 : decode cX4_isNamed 54 = .ok (.iconst 1, 1) := by decide +kernel
theorem dX4_isNamed_55 : decode cX4_isNamed 55 = .ok (.ireturn, 1) := by decide +kernel
theorem dX4_addBlock_0 : decode cX4_addBlock 0 = .ok (.aload_n 0, 1) := by decide +kernel
theorem dX4_addBlock_1 : decode cX4_addBlock 1 = .ok (.getfield 9, 3) := by decide +kernel
theorem dX4_addBlock_4 : decode cX4_addBlock 4 = .ok (.bipush 12, 2) := by decide +kernel
theorem dX4_addBlock_6 : decode cX4_addBlock 6 = .ok (.if_icmp .lt 4, 3) := by decide +kernel
theorem dX4_addBlock_9 : decode cX4_addBlock 9 = .ok (.return_, 1) := by decide +kernel
theorem dX4_addBlock_10 : decode cX4_addBlock 10 = .ok (.aload_n 0, 1) := by decide +kernel
theorem dX4_addBlock_11 : decode cX4_addBlock 11 = .ok (.getfield 28, 3) := by decide +kernel
theorem dX4_addBlock_14 : decode cX4_addBlock 14 = .ok (.aload_n 0, 1) := by decide +kernel
theorem dX4_addBlock_15 : decode cX4_addBlock 15 = .ok (.getfield 9, 3) := by decide +kernel
theorem dX4_addBlock_18 : decode cX4_addBlock 18 = .ok (.aload_n 1, 1) := by decide +kernel
theorem dX4_addBlock_19 : decode cX4_addBlock 19 = .ok (.getfield 56, 3) := by decide +kernel
theorem dX4_addBlock_22 : decode cX4_addBlock 22 = .ok (.bipush 8, 2) := by decide +kernel
theorem dX4_addBlock_24 : decode cX4_addBlock 24 = .ok (.invokestatic 65, 3) := by decide +kernel
theorem dX4_addBlock_27 : decode cX4_addBlock 27 = .ok (.iastore, 1) := by decide +kernel
theorem dX4_addBlock_28 : decode cX4_addBlock 28 = .ok (.iconst 0, 1) := by decide +kernel
theorem dX4_addBlock_29 : decode cX4_addBlock 29 = .ok (.istore_n 2, 1) := by decide +kernel
theorem dX4_addBlock_30 : decode cX4_addBlock 30 = .ok (.iload_n 2, 1) := by decide +kernel
theorem dX4_addBlock_31 : decode cX4_addBlock 31 = .ok (.aload_n 0, 1) := by decide +kernel
theorem dX4_addBlock_32 : decode cX4_addBlock 32 = .ok (.getfield 28, 3) := by decide +kernel
theorem dX4_addBlock_35 : decode cX4_addBlock 35 = .ok (.aload_n 0, 1) := by decide +kernel
theorem dX4_addBlock_36 : decode cX4_addBlock 36 = .ok (.getfield 9, 3) := by decide +kernel
theorem dX4_addBlock_39 : decode cX4_addBlock 39 = .ok (.iaload, 1) := by decide +kernel
theorem dX4_addBlock_40 : decode cX4_addBlock 40 = .ok (.if_icmp .ge 28, 3) := by decide +kernel
theorem dX4_addBlock_43 : decode cX4_addBlock 43 = .ok (.aload_n 0, 1) := by decide +kernel
theorem dX4_addBlock_44 : decode cX4_addBlock 44 = .ok (.getfield 24, 3) := by decide +kernel
theorem dX4_addBlock_47 : decode cX4_addBlock 47 = .ok (.aload_n 0, 1) := by decide +kernel
theorem dX4_addBlock_48 : decode cX4_addBlock 48 = .ok (.getfield 9, 3) := by decide +kernel
theorem dX4_addBlock_51 : decode cX4_addBlock 51 = .ok (.bipush 8, 2) := by decide +kernel
theorem dX4_addBlock_53 : decode cX4_addBlock 53 = .ok (.imul, 1) := by decide +kernel
theorem dX4_addBlock_54 : decode cX4_addBlock 54 = .ok (.iload_n 2, 1) := by decide +kernel
theorem dX4_addBlock_55 : decode cX4_addBlock 55 = .ok (.iadd, 1) := by decide +kernel
theorem dX4_addBlock_56 : decode cX4_addBlock 56 = .ok (.aload_n 1, 1) := by decide +kernel
theorem dX4_addBlock_57 : decode cX4_addBlock 57 = .ok (.iload_n 2, 1) := by decide +kernel
theorem dX4_addBlock_58 : decode cX4_addBlock 58 = .ok (.invokevirtual 61, 3) := by decide +kernel
theorem dX4_addBlock_61 : decode cX4_addBlock 61 = .ok (.iastore, 1) := by decide +kernel
theorem dX4_addBlock_62 : decode cX4_addBlock 62 = .ok (.iinc 2 1, 3) := by decide +kernel
theorem dX4_addBlock_65 : decode cX4_addBlock 65 = .ok (.goto (-35), 3) := by decide +kernel
theorem dX4_addBlock_68 : decode cX4_addBlock 68 = .ok (.aload_n 0, 1) := by decide +kernel
theorem dX4_addBlock_69 : decode cX4_addBlock 69 = .ok (.getfield 34, 3) := by decide +kernel
theorem dX4_addBlock_72 : decode cX4_addBlock 72 = .ok (.aload_n 0, 1) := by decide +kernel
theorem dX4_addBlock_73 : decode cX4_addBlock 73 = .ok (.getfield 9, 3) := by decide +kernel
theorem dX4_addBlock_76 : decode cX4_addBlock 76 = .ok (.aload_n 0, 1) := by decide +kernel
theorem dX4_addBlock_77 : decode cX4_addBlock 77 = .ok (.getfield 15, 3) := by decide +kernel
theorem dX4_addBlock_80 : decode cX4_addBlock 80 = .ok (.iastore, 1) := by decide +kernel
theorem dX4_addBlock_81 : decode cX4_addBlock 81 = .ok (.aload_n 0, 1) := by decide +kernel
theorem dX4_addBlock_82 : decode cX4_addBlock 82 = .ok (.dup, 1) := by decide +kernel
theorem dX4_addBlock_83 : decode cX4_addBlock 83 = .ok (.getfield 9, 3) := by decide +kernel
theorem dX4_addBlock_86 : decode cX4_addBlock 86 = .ok (.iconst 1, 1) := by decide +kernel
theorem dX4_addBlock_87 : decode cX4_addBlock 87 = .ok (.iadd, 1) := by decide +kernel
theorem dX4_addBlock_88 : decode cX4_addBlock 88 = .ok (.putfield 9, 3) := by decide +kernel
theorem dX4_addBlock_91 : decode cX4_addBlock 91 = .ok (.aload_n 0, 1) := by decide +kernel
theorem dX4_addBlock_92 : decode cX4_addBlock 92 = .ok (.getfield 34, 3) := by decide +kernel
theorem dX4_addBlock_95 : decode cX4_addBlock 95 = .ok (.aload_n 0, 1) := by decide +kernel
theorem dX4_addBlock_96 : decode cX4_addBlock 96 = .ok (.getfield 9, 3) := by decide +kernel
theorem dX4_addBlock_99 : decode cX4_addBlock 99 = .ok (.aload_n 0, 1) := by decide +kernel
theorem dX4_addBlock_100 : decode cX4_addBlock 100 = .ok (.getfield 15, 3) := by decide +kernel
theorem dX4_addBlock_103 : decode cX4_addBlock 103 = .ok (.iastore, 1) := by decide +kernel
theorem dX4_addBlock_104 : decode cX4_addBlock 104 = .ok (.return_, 1) := by decide +kernel
theorem dX4_repeatLatestBlock_0 : decode cX4_repeatLatestBlock 0 = .ok (.aload_n 0, 1) := by decide +kernel
theorem dX4_repeatLatestBlock_1 : decode cX4_repeatLatestBlock 1 = .ok (.getfield 9, 3) := by decide +kernel
theorem dX4_repeatLatestBlock_4 : decode cX4_repeatLatestBlock 4 = .ok (.ifCond .le 15, 3) := by decide +kernel
theorem dX4_repeatLatestBlock_7 : decode cX4_repeatLatestBlock 7 = .ok (.aload_n 0, 1) := by decide +kernel
theorem dX4_repeatLatestBlock_8 : decode cX4_repeatLatestBlock 8 = .ok (.getfield 31, 3) := by decide +kernel
theorem dX4_repeatLatestBlock_11 : decode cX4_repeatLatestBlock 11 = .ok (.aload_n 0, 1) := by decide +kernel
theorem dX4_repeatLatestBlock_12 : decode cX4_repeatLatestBlock 12 = .ok (.getfield 9, 3) := by decide +kernel
theorem dX4_repeatLatestBlock_15 : decode cX4_repeatLatestBlock 15 = .ok (.iconst 1, 1) := by decide +kernel
theorem dX4_repeatLatestBlock_16 : decode cX4_repeatLatestBlock 16 = .ok (.isub, 1) := by decide +kernel
theorem dX4_repeatLatestBlock_17 : decode cX4_repeatLatestBlock 17 = .ok (.iload_n 1, 1) := by decide +kernel
theorem dX4_repeatLatestBlock_18 : decode cX4_repeatLatestBlock 18 = .ok (.iastore, 1) := by decide +kernel
theorem dX4_repeatLatestBlock_19 : decode cX4_repeatLatestBlock 19 = .ok (.return_, 1) := by decide +kernel
theorem dX4_latestBlockIsFull_0 : decode cX4_latestBlockIsFull 0 = .ok (.aload_n 0, 1) := by decide +kernel
theorem dX4_latestBlockIsFull_1 : decode cX4_latestBlockIsFull 1 = .ok (.getfield 9, 3) := by decide +kernel
theorem dX4_latestBlockIsFull_4 : decode cX4_latestBlockIsFull 4 = .ok (.ifCond .le 22, 3) := by decide +kernel
theorem dX4_latestBlockIsFull_7 : decode cX4_latestBlockIsFull 7 = .ok (.aload_n 0, 1) := by decide +kernel
theorem dX4_latestBlockIsFull_8 : decode cX4_latestBlockIsFull 8 = .ok (.aload_n 0, 1) := by decide +kernel
theorem dX4_latestBlockIsFull_9 : decode cX4_latestBlockIsFull 9 = .ok (.getfield 9, 3) := by decide +kernel
theorem dX4_latestBlockIsFull_12 : decode cX4_latestBlockIsFull 12 = .ok (.iconst 1, 1) := by decide +kernel
theorem dX4_latestBlockIsFull_13 : decode cX4_latestBlockIsFull 13 = .ok (.isub, 1) := by decide +kernel
theorem dX4_latestBlockIsFull_14 : decode cX4_latestBlockIsFull 14 = .ok (.invokevirtual 71, 3) := by decide +kernel
theorem dX4_latestBlockIsFull_17 : decode cX4_latestBlockIsFull 17 = .ok (.bipush 8, 2) := by decide +kernel
theorem dX4_latestBlockIsFull_19 : decode cX4_latestBlockIsFull 19 = .ok (.if_icmp .lt 7, 3) := by decide +kernel
theorem dX4_latestBlockIsFull_22 : decode cX4_latestBlockIsFull 22 = .ok (.iconst 1, 1) := by decide +kernel
theorem dX4_latestBlockIsFull_23 : decode cX4_latestBlockIsFull 23 = .ok (.goto 4, 3) := by decide +kernel
theorem dX4_latestBlockIsFull_26 : decode cX4_latestBlockIsFull 26 = .ok (.iconst 0, 1) := by decide +kernel
theorem dX4_latestBlockIsFull_27 : decode cX4_latestBlockIsFull 27 = .ok (.ireturn, 1) := by decide +kernel
theorem dX4_addLine_0 : decode cX4_addLine 0 = .ok (.aload_n 0, 1) := by decide +kernel
theorem dX4_addLine_1 : decode cX4_addLine 1 = .ok (.getfield 15, 3) := by decide +kernel
theorem dX4_addLine_4 : decode cX4_addLine 4 = .ok (.aload_n 0, 1) := by decide +kernel
theorem dX4_addLine_5 : decode cX4_addLine 5 = .ok (.getfield 37, 3) := by decide +kernel
theorem dX4_addLine_8 : decode cX4_addLine 8 = .ok (.arraylength, 1) := by decide +kernel
theorem dX4_addLine_9 : decode cX4_addLine 9 = .ok (.if_icmp .lt 4, 3) := by decide +kernel
theorem dX4_addLine_12 : decode cX4_addLine 12 = .ok (.return_, 1) := by decide +kernel
theorem dX4_addLine_13 : decode cX4_addLine 13 = .ok (.aload_n 0, 1) := by decide +kernel
theorem dX4_addLine_14 : decode cX4_addLine 14 = .ok (.getfield 40, 3) := by decide +kernel
theorem dX4_addLine_17 : decode cX4_addLine 17 = .ok (.aload_n 0, 1) := by decide +kernel
theorem dX4_addLine_18 : decode cX4_addLine 18 = .ok (.getfield 15, 3) := by decide +kernel
theorem dX4_addLine_21 : decode cX4_addLine 21 = .ok (.iload_n 1, 1) := by decide +kernel
theorem dX4_addLine_22 : decode cX4_addLine 22 = .ok (.iastore, 1) := by decide +kernel
theorem dX4_addLine_23 : decode cX4_addLine 23 = .ok (.aload_n 0, 1) := by decide +kernel
theorem dX4_addLine_24 : decode cX4_addLine 24 = .ok (.getfield 37, 3) := by decide +kernel
theorem dX4_addLine_27 : decode cX4_addLine 27 = .ok (.aload_n 0, 1) := by decide +kernel
theorem dX4_addLine_28 : decode cX4_addLine 28 = .ok (.getfield 15, 3) := by decide +kernel
theorem dX4_addLine_31 : decode cX4_addLine 31 = .ok (.iload_n 2, 1) := by decide +kernel
theorem dX4_addLine_32 : decode cX4_addLine 32 = .ok (.iastore, 1) := by decide +kernel
theorem dX4_addLine_33 : decode cX4_addLine 33 = .ok (.aload_n 0, 1) := by decide +kernel
theorem dX4_addLine_34 : decode cX4_addLine 34 = .ok (.dup, 1) := by decide +kernel
theorem dX4_addLine_35 : decode cX4_addLine 35 = .ok (.getfield 15, 3) := by decide +kernel
theorem dX4_addLine_38 : decode cX4_addLine 38 = .ok (.iconst 1, 1) := by decide +kernel
theorem dX4_addLine_39 : decode cX4_addLine 39 = .ok (.iadd, 1) := by decide +kernel
theorem dX4_addLine_40 : decode cX4_addLine 40 = .ok (.putfield 15, 3) := by decide +kernel
theorem dX4_addLine_43 : decode cX4_addLine 43 = .ok (.aload_n 0, 1) := by decide +kernel
theorem dX4_addLine_44 : decode cX4_addLine 44 = .ok (.getfield 43, 3) := by decide +kernel
theorem dX4_addLine_47 : decode cX4_addLine 47 = .ok (.aload_n 0, 1) := by decide +kernel
theorem dX4_addLine_48 : decode cX4_addLine 48 = .ok (.getfield 15, 3) := by decide +kernel
theorem dX4_addLine_51 : decode cX4_addLine 51 = .ok (.aload_n 0, 1) := by decide +kernel
theorem dX4_addLine_52 : decode cX4_addLine 52 = .ok (.getfield 18, 3) := by decide +kernel
theorem dX4_addLine_55 : decode cX4_addLine 55 = .ok (.iastore, 1) := by decide +kernel
theorem dX4_addLine_56 : decode cX4_addLine 56 = .ok (.aload_n 0, 1) := by decide +kernel
theorem dX4_addLine_57 : decode cX4_addLine 57 = .ok (.getfield 34, 3) := by decide +kernel
theorem dX4_addLine_60 : decode cX4_addLine 60 = .ok (.aload_n 0, 1) := by decide +kernel
theorem dX4_addLine_61 : decode cX4_addLine 61 = .ok (.getfield 9, 3) := by decide +kernel
theorem dX4_addLine_64 : decode cX4_addLine 64 = .ok (.aload_n 0, 1) := by decide +kernel
theorem dX4_addLine_65 : decode cX4_addLine 65 = .ok (.getfield 15, 3) := by decide +kernel
theorem dX4_addLine_68 : decode cX4_addLine 68 = .ok (.iastore, 1) := by decide +kernel
theorem dX4_addLine_69 : decode cX4_addLine 69 = .ok (.return_, 1) := by decide +kernel
theorem dX4_addStep_0 : decode cX4_addStep 0 = .ok (.aload_n 0, 1) := by decide +kernel
theorem dX4_addStep_1 : decode cX4_addStep 1 = .ok (.getfield 18, 3) := by decide +kernel
theorem dX4_addStep_4 : decode cX4_addStep 4 = .ok (.aload_n 0, 1) := by decide +kernel
theorem dX4_addStep_5 : decode cX4_addStep 5 = .ok (.getfield 46, 3) := by decide +kernel
theorem dX4_addStep_8 : decode cX4_addStep 8 = .ok (.arraylength, 1) := by decide +kernel
theorem dX4_addStep_9 : decode cX4_addStep 9 = .ok (.if_icmp .lt 4, 3) := by decide +kernel
theorem dX4_addStep_12 : decode cX4_addStep 12 = .ok (.return_, 1) := by decide +kernel
theorem dX4_addStep_13 : decode cX4_addStep 13 = .ok (.aload_n 0, 1) := by decide +kernel
theorem dX4_addStep_14 : decode cX4_addStep 14 = .ok (.getfield 46, 3) := by decide +kernel
theorem dX4_addStep_17 : decode cX4_addStep 17 = .ok (.aload_n 0, 1) := by decide +kernel
theorem dX4_addStep_18 : decode cX4_addStep 18 = .ok (.getfield 18, 3) := by decide +kernel
theorem dX4_addStep_21 : decode cX4_addStep 21 = .ok (.iload_n 1, 1) := by decide +kernel
theorem dX4_addStep_22 : decode cX4_addStep 22 = .ok (.iastore, 1) := by decide +kernel
theorem dX4_addStep_23 : decode cX4_addStep 23 = .ok (.aload_n 0, 1) := by decide +kernel
theorem dX4_addStep_24 : decode cX4_addStep 24 = .ok (.getfield 49, 3) := by decide +kernel
theorem dX4_addStep_27 : decode cX4_addStep 27 = .ok (.aload_n 0, 1) := by decide +kernel
theorem dX4_addStep_28 : decode cX4_addStep 28 = .ok (.getfield 18, 3) := by decide +kernel
theorem dX4_addStep_31 : decode cX4_addStep 31 = .ok (.iload_n 2, 1) := by decide +kernel
theorem dX4_addStep_32 : decode cX4_addStep 32 = .ok (.iastore, 1) := by decide +kernel
theorem dX4_addStep_33 : decode cX4_addStep 33 = .ok (.aload_n 0, 1) := by decide +kernel
theorem dX4_addStep_34 : decode cX4_addStep 34 = .ok (.dup, 1) := by decide +kernel
theorem dX4_addStep_35 : decode cX4_addStep 35 = .ok (.getfield 18, 3) := by decide +kernel
theorem dX4_addStep_38 : decode cX4_addStep 38 = .ok (.iconst 1, 1) := by decide +kernel
theorem dX4_addStep_39 : decode cX4_addStep 39 = .ok (.iadd, 1) := by decide +kernel
theorem dX4_addStep_40 : decode cX4_addStep 40 = .ok (.putfield 18, 3) := by decide +kernel
theorem dX4_addStep_43 : decode cX4_addStep 43 = .ok (.return_, 1) := by decide +kernel
def fX4_forget (oS : Rc) : Option (Rc) :=
  zLet (rs oS 0 (fun _ => (0 : Int32))) fun oS_1 =>
  zLet (rs oS_1 1 (fun _ => (0 : Int32))) fun oS_2 =>
  zLet (rs oS_2 2 (fun _ => (0 : Int32))) fun oS_3 =>
  zLet (rs oS_3 3 (fun _ => (0 : Int32))) fun oS_4 =>
  some oS_4
abbrev rX4_forget : Room := { frames := 0, cells := 0, slots := 0, locals := 0 }
set_option maxHeartbeats 4000000 in
set_option maxRecDepth 100000 in
theorem mtX4_forget (l : Launch) (dC : Nat → ClassId) (dI : Nat → Nat → Nat) (cI cB : ClassId) (aS : Nat → Nat) (sz : Nat) (oS : Rc) {oS' : Rc} (hf : fX4_forget oS = some oS') : zMv l yX4_forget (Cond.code yX4_forget cX4_forget 1 none :: lw_g) rX4_forget (dC, dI) [(cI, .int), (cB, .byte)] [.ref (aS 0)] sz (kX4 cI cB aS oS) (kX4 cI cB aS oS') := by
  refine zSt (cc := cX4_forget) (maxL := 1) (ret := none) (own := RX4) (fun A => zQv (dC, dI) [(cI, .int), (cB, .byte)] A (kX4 cI cB aS oS')) (by decide) rfl rfl (Nat.le_of_ble_eq_true rfl) ?_
  intro p e s m below meth c ls A H locs C hK hA hP hD hS hl
  generalize hQ : MQ below (zQv (dC, dI) [(cI, .int), (cB, .byte)] A (kX4 cI cB aS oS')) _ s 0 0 A = QQ
  generalize ([.ref (aS 0)] : List Value).toArray = args at C hQ ⊢
  have hl : lv_has ls 1 [(0, .ref (aS 0))] := hl
  unfold fX4_forget at hf
  refine lv_aload_n C.1.1 C.1.2.1 dX4_forget_0 rfl (lv_at hl 0 rfl) ?_
  refine lv_iconst (v := 0) C.1.1 C.1.2.1 dX4_forget_1 (by decide) ?_
  obtain ⟨oS_1, eoS_1, hf⟩ := zLet_el hf
  refine zPut (ty := .int) (kX4 cI cB aS oS_1) C.1 wuX4 tyX4 tyX4_ok nmX4 hK hP hD hS 0 rfl rfl 0 (by decide) wfX4_9 rfl rfl (by decide +kernel) rfl rfl (Nat.le_of_ble_eq_true rfl) dX4_forget_2 (by rw [eoS_1]; rfl) (fun H locs hP hD hS => ?_)
  refine lv_aload_n C.1.1 C.1.2.1 dX4_forget_5 rfl (lv_at hl 0 rfl) ?_
  refine lv_iconst (v := 0) C.1.1 C.1.2.1 dX4_forget_6 (by decide) ?_
  obtain ⟨oS_2, eoS_2, hf⟩ := zLet_el hf
  refine zPut (ty := .int) (kX4 cI cB aS oS_2) C.1 wuX4 tyX4 tyX4_ok nmX4 hK hP hD hS 0 rfl rfl 1 (by decide) wfX4_15 rfl rfl (by decide +kernel) rfl rfl (Nat.le_of_ble_eq_true rfl) dX4_forget_7 (by rw [eoS_2]; rfl) (fun H locs hP hD hS => ?_)
  refine lv_aload_n C.1.1 C.1.2.1 dX4_forget_10 rfl (lv_at hl 0 rfl) ?_
  refine lv_iconst (v := 0) C.1.1 C.1.2.1 dX4_forget_11 (by decide) ?_
  obtain ⟨oS_3, eoS_3, hf⟩ := zLet_el hf
  refine zPut (ty := .int) (kX4 cI cB aS oS_3) C.1 wuX4 tyX4 tyX4_ok nmX4 hK hP hD hS 0 rfl rfl 2 (by decide) wfX4_18 rfl rfl (by decide +kernel) rfl rfl (Nat.le_of_ble_eq_true rfl) dX4_forget_12 (by rw [eoS_3]; rfl) (fun H locs hP hD hS => ?_)
  refine lv_aload_n C.1.1 C.1.2.1 dX4_forget_15 rfl (lv_at hl 0 rfl) ?_
  refine lv_iconst (v := 0) C.1.1 C.1.2.1 dX4_forget_16 (by decide) ?_
  obtain ⟨oS_4, eoS_4, hf⟩ := zLet_el hf
  refine zPut (ty := .int) (kX4 cI cB aS oS_4) C.1 wuX4 tyX4 tyX4_ok nmX4 hK hP hD hS 0 rfl rfl 3 (by decide) wfX4_21 rfl rfl (by decide +kernel) rfl rfl (Nat.le_of_ble_eq_true rfl) dX4_forget_17 (by rw [eoS_4]; rfl) (fun H locs hP hD hS => ?_)
  cases hf
  rw [← hQ]
  exact zRv C hK hP hD hS dX4_forget_20
def fX4_linesIn (oS : Rc) (p1 : Int32) : Option (Int32) :=
  zGd (inb (p1 + (1 : Int32)) 13) <|
  zGd (inb p1 13) <|
  some ((oS 7 (p1 + (1 : Int32)).toNatClampNeg) - (oS 7 p1.toNatClampNeg))
abbrev rX4_linesIn : Room := { frames := 0, cells := 0, slots := 0, locals := 0 }
set_option maxHeartbeats 4000000 in
set_option maxRecDepth 100000 in
theorem mtX4_linesIn (l : Launch) (dC : Nat → ClassId) (dI : Nat → Nat → Nat) (cI cB : ClassId) (aS : Nat → Nat) (sz : Nat) (oS : Rc) (p1 : Int32) {ov : Int32} (hf : fX4_linesIn oS p1 = some ov) : zMi l yX4_linesIn (Cond.code yX4_linesIn cX4_linesIn 2 (some .int) :: lw_g) rX4_linesIn (dC, dI) [(cI, .int), (cB, .byte)] [.ref (aS 0), .int p1] sz (kX4 cI cB aS oS) ov (kX4 cI cB aS oS) := by
  refine zSt (cc := cX4_linesIn) (maxL := 2) (ret := (some .int)) (own := RX4) (fun A => zQi (dC, dI) [(cI, .int), (cB, .byte)] A ov (kX4 cI cB aS oS)) (by decide) rfl rfl (Nat.le_of_ble_eq_true rfl) ?_
  intro p e s m below meth c ls A H locs C hK hA hP hD hS hl
  generalize hQ : MQ below (zQi (dC, dI) [(cI, .int), (cB, .byte)] A ov (kX4 cI cB aS oS)) _ s 0 0 A = QQ
  generalize ([.ref (aS 0), .int p1] : List Value).toArray = args at C hQ ⊢
  have hl : lv_has ls 2 [(0, .ref (aS 0)), (1, .int p1)] := hl
  unfold fX4_linesIn at hf
  refine lv_aload_n C.1.1 C.1.2.1 dX4_linesIn_0 rfl (lv_at hl 0 rfl) ?_
  refine zGet (.ref (aS 4)) C.1 wuX4 hK hP 0 rfl rfl 7 (by decide) wfX4_34 rfl rfl dX4_linesIn_1 ?_
  refine lv_iload_n C.1.1 C.1.2.1 dX4_linesIn_4 rfl (lv_at hl 1 rfl) ?_
  refine lv_iconst (v := 1) C.1.1 C.1.2.1 dX4_linesIn_5 (by decide) ?_
  refine lv_iadd C.1.1 C.1.2.1 dX4_linesIn_6 ?_
  obtain ⟨hib, hf⟩ := zGd_el hf
  refine va_iald C.1.1 C.1.2.1 hK.1 hP 4 0 rfl rfl hib dX4_linesIn_7 ?_
  refine lv_aload_n C.1.1 C.1.2.1 dX4_linesIn_8 rfl (lv_at hl 0 rfl) ?_
  refine zGet (.ref (aS 4)) C.1 wuX4 hK hP 0 rfl rfl 7 (by decide) wfX4_34 rfl rfl dX4_linesIn_9 ?_
  refine lv_iload_n C.1.1 C.1.2.1 dX4_linesIn_12 rfl (lv_at hl 1 rfl) ?_
  obtain ⟨hib, hf⟩ := zGd_el hf
  refine va_iald C.1.1 C.1.2.1 hK.1 hP 4 0 rfl rfl hib dX4_linesIn_13 ?_
  refine lv_isub C.1.1 C.1.2.1 dX4_linesIn_14 ?_
  cases hf
  rw [← hQ]
  exact zRi C hK hP hD hS dX4_linesIn_15
def fX4_isNamed_L17 (oT : Rc) (oS : Rc) (p1 : Int32) (J54_1 : Unit → Option (Int32)) (n : Nat) (x2 : Int32) : Option (Int32) := zLp1 (fun (go3 : Int32 → Option (Int32)) (x2 : Int32) =>
    zGd (inb p1 12) <|
    if (oS 5 p1.toNatClampNeg) ≤ x2 then (
      J54_1 ()
    ) else (
      zGd (inb ((p1 * (8 : Int32)) + x2) 96) <|
      zB1 (fX6_letter oT x2) fun v4 =>
      if (oS 4 ((p1 * (8 : Int32)) + x2).toNatClampNeg) = v4 then (
        zLet (x2 + 1) fun x5 =>
        go3 x5
      ) else (
        some (0 : Int32)
      )
    )
  ) n x2
def fX4_isNamed (NN : Nat) (oT : Rc) (oS : Rc) (p1 : Int32) : Option (Int32) :=
  zGd (inb p1 12) <|
  if (oS 5 p1.toNatClampNeg) = (oT 6 0) then (
    zJn (fun (_ : Unit) =>
        some (1 : Int32)
      ) fun J54_1 =>
    fX4_isNamed_L17 oT oS p1 J54_1 NN (0 : Int32)
  ) else (
    some (0 : Int32)
  )
abbrev rX4_isNamed : Room := { frames := 1, cells := 0, slots := 0, locals := 21 }
set_option maxHeartbeats 4000000 in
set_option maxRecDepth 100000 in
theorem mtX4_isNamed (l : Launch) (dC : Nat → ClassId) (dI : Nat → Nat → Nat) (cI cB : ClassId) (aT aS : Nat → Nat) (sz : Nat) (NN : Nat) (oT : Rc) (oS : Rc) (p1 : Int32) {ov : Int32} (hf : fX4_isNamed NN oT oS p1 = some ov) : zMi l yX4_isNamed (Cond.code yX4_isNamed cX4_isNamed 4 (some .boolean) :: lw_g) rX4_isNamed (dC, dI) [(cI, .int), (cB, .byte)] [.ref (aS 0), .int p1, .ref (aT 0)] sz (kX6 cI cB aT oT ++ kX4 cI cB aS oS) ov (kX6 cI cB aT oT ++ kX4 cI cB aS oS) := by
  refine zSt (cc := cX4_isNamed) (maxL := 4) (ret := (some .boolean)) (own := RX4) (fun A => zQi (dC, dI) [(cI, .int), (cB, .byte)] A ov (kX6 cI cB aT oT ++ kX4 cI cB aS oS)) (by decide) rfl rfl (Nat.le_of_ble_eq_true rfl) ?_
  intro p e s m below meth c ls A H locs C hK hA hP hD hS hl
  generalize hQ : MQ below (zQi (dC, dI) [(cI, .int), (cB, .byte)] A ov (kX6 cI cB aT oT ++ kX4 cI cB aS oS)) _ s 0 0 A = QQ
  generalize ([.ref (aS 0), .int p1, .ref (aT 0)] : List Value).toArray = args at C hQ ⊢
  have hl : lv_has ls 4 [(0, .ref (aS 0)), (1, .int p1), (2, .ref (aT 0))] := hl
  unfold fX4_isNamed at hf
  refine lv_aload_n C.1.1 C.1.2.1 dX4_isNamed_0 rfl (lv_at hl 0 rfl) ?_
  refine zGet (.ref (aS 2)) C.1 wuX4 hK hP 2 rfl rfl 5 (by decide) wfX4_28 rfl rfl dX4_isNamed_1 ?_
  refine lv_iload_n C.1.1 C.1.2.1 dX4_isNamed_4 rfl (lv_at hl 1 rfl) ?_
  obtain ⟨hib, hf⟩ := zGd_el hf
  refine va_iald C.1.1 C.1.2.1 hK.1 hP 4 0 rfl rfl hib dX4_isNamed_5 ?_
  refine lv_aload_n C.1.1 C.1.2.1 dX4_isNamed_6 rfl (lv_at hl 2 rfl) ?_
  refine zGet (.int (oT 6 0)) C.1 wuX6 hK hP 0 rfl rfl 6 (by decide) wfX4_56 rfl rfl dX4_isNamed_7 ?_
  refine lv_icmp_eq (tgt := 15) C.1.1 C.1.2.1 dX4_isNamed_10 (by decide) (fun hc => ?_) (fun hc => ?_)
  · replace hf := zIf_t hf hc
    refine lv_iconst (v := 0) C.1.1 C.1.2.1 dX4_isNamed_15 (by decide) ?_
    refine lv_istore_n (lv' := [(3, .int (0 : Int32)), (0, .ref (aS 0)), (1, .int p1), (2, .ref (aT 0))]) C.1.1 C.1.2.1 dX4_isNamed_16 rfl hl (by decide) rfl (fun ls hl => ?_)
    obtain ⟨J54_1, eJ54_1, hf⟩ := zJn_el hf
    have hJ54_1 : ∀ (u : Unit), J54_1 u = some ov → ∀ (H : Heap) (locs : List Loc), va_P (dC, dI) vwCl (kX6 cI cB aT oT ++ kX4 cI cB aS oS) H → va_D A (kX6 cI cB aT oT ++ kX4 cI cB aS oS) → va_S A s.heap H locs → ∀ (ls : Array Slot), lv_has ls 4 [] → W p l e rX4_isNamed s m args below meth c H locs 0 0 QQ (F0 m 54 ls []) := by
      intro u hf H locs hP hD hS ls hl
      rw [eJ54_1] at hf
      refine lv_iconst (v := 1) C.1.1 C.1.2.1 dX4_isNamed_54 (by decide) ?_
      cases hf
      rw [← hQ]
      exact zRz C (by decide +kernel) hK hP hD hS dX4_isNamed_55
    refine zLp1_ind (o := ov) (P := fun (x2 : Int32) => ∀ (H : Heap) (locs : List Loc), va_P (dC, dI) vwCl (kX6 cI cB aT oT ++ kX4 cI cB aS oS) H → va_D A (kX6 cI cB aT oT ++ kX4 cI cB aS oS) → va_S A s.heap H locs → ∀ (ls : Array Slot), lv_has ls 4 [(0, .ref (aS 0)), (1, .int p1), (2, .ref (aT 0)), (3, .int x2)] → W p l e rX4_isNamed s m args below meth c H locs 0 0 QQ (F0 m 17 ls [])) (fun go3 ihgo3 x2 hf H locs hP hD hS ls hl => ?_) _ (0 : Int32) hf H locs hP hD hS ls (lv_sub hl [1, 2, 3, 0] rfl)
    refine lv_iload_n C.1.1 C.1.2.1 dX4_isNamed_17 rfl (lv_at hl 3 rfl) ?_
    refine lv_aload_n C.1.1 C.1.2.1 dX4_isNamed_18 rfl (lv_at hl 0 rfl) ?_
    refine zGet (.ref (aS 2)) C.1 wuX4 hK hP 2 rfl rfl 5 (by decide) wfX4_28 rfl rfl dX4_isNamed_19 ?_
    refine lv_iload_n C.1.1 C.1.2.1 dX4_isNamed_22 rfl (lv_at hl 1 rfl) ?_
    obtain ⟨hib, hf⟩ := zGd_el hf
    refine va_iald C.1.1 C.1.2.1 hK.1 hP 4 0 rfl rfl hib dX4_isNamed_23 ?_
    refine lv_icmp_ge (tgt := 54) C.1.1 C.1.2.1 dX4_isNamed_24 (by decide) (fun hc => ?_) (fun hc => ?_)
    · replace hf := zIf_t hf hc
      exact hJ54_1 () hf H locs hP hD hS ls (lv_sub hl [] rfl)
    · replace hf := zIf_f hf hc
      refine lv_aload_n C.1.1 C.1.2.1 dX4_isNamed_27 rfl (lv_at hl 0 rfl) ?_
      refine zGet (.ref (aS 1)) C.1 wuX4 hK hP 2 rfl rfl 4 (by decide) wfX4_24 rfl rfl dX4_isNamed_28 ?_
      refine lv_iload_n C.1.1 C.1.2.1 dX4_isNamed_31 rfl (lv_at hl 1 rfl) ?_
      refine lv_bipush (v := 8) C.1.1 C.1.2.1 dX4_isNamed_32 (by decide) ?_
      refine lv_imul C.1.1 C.1.2.1 dX4_isNamed_34 ?_
      refine lv_iload_n C.1.1 C.1.2.1 dX4_isNamed_35 rfl (lv_at hl 3 rfl) ?_
      refine lv_iadd C.1.1 C.1.2.1 dX4_isNamed_36 ?_
      obtain ⟨hib, hf⟩ := zGd_el hf
      refine va_iald C.1.1 C.1.2.1 hK.1 hP 3 0 rfl rfl hib dX4_isNamed_37 ?_
      refine lv_aload_n C.1.1 C.1.2.1 dX4_isNamed_38 rfl (lv_at hl 2 rfl) ?_
      refine lv_iload_n C.1.1 C.1.2.1 dX4_isNamed_39 rfl (lv_at hl 3 rfl) ?_
      obtain ⟨v4, hg, hf⟩ := zB1_el hf
      refine zCVi (As := [.int x2]) (rest := [.int (oS 4 ((p1 * (8 : Int32)) + x2).toNatClampNeg)]) (wr := (kX4 cI cB aS oS)) (wn := (kX6 cI cB aT oT ++ kX4 cI cB aS oS)) C.1 hK hA hP hD hS [0, 1] [2, 3, 4, 5, 6, 7, 8, 9, 10, 11] [10, 11, 0, 1, 2, 3, 4, 5, 6, 7, 8, 9] 0 (mtX6_letter l dC dI cI cB aT H.size oT x2 hg) (zCwV 1 C.1 wlX4_61 wiX6_letter ws_X6_letter wnX6 wkX6_letter rfl rfl (by decide +kernel) ⟨Nat.le_of_ble_eq_true rfl, Nat.le_of_ble_eq_true rfl⟩) rfl rfl (by decide +kernel) rfl rfl rfl rfl hl.1 (Nat.le_of_ble_eq_true rfl) dX4_isNamed_40 ⟨Nat.zero_le _, Nat.zero_le _⟩ rfl (fun H locs hP hD hS => ?_)
      refine lv_icmp_eq (tgt := 48) C.1.1 C.1.2.1 dX4_isNamed_43 (by decide) (fun hc => ?_) (fun hc => ?_)
      · replace hf := zIf_t hf hc
        obtain ⟨x5, ex5, hf⟩ := zLet_el hf
        refine lv_iinc (v := x5) (lv' := [(3, .int x5), (0, .ref (aS 0)), (1, .int p1), (2, .ref (aT 0))]) C.1.1 C.1.2.1 dX4_isNamed_48 hl (k := 3) rfl (by rw [ex5]; rfl) (by decide) rfl (fun ls hl => ?_)
        refine lv_goto (tgt := 17) C.1.1 C.1.2.1 dX4_isNamed_51 (by decide) ?_
        exact ihgo3 x5 hf H locs hP hD hS ls (lv_sub hl [1, 2, 3, 0] rfl)
      · replace hf := zIf_f hf hc
        refine lv_iconst (v := 0) C.1.1 C.1.2.1 dX4_isNamed_46 (by decide) ?_
        cases hf
        rw [← hQ]
        exact zRz C (by decide +kernel) hK hP hD hS dX4_isNamed_47
  · replace hf := zIf_f hf hc
    refine lv_iconst (v := 0) C.1.1 C.1.2.1 dX4_isNamed_13 (by decide) ?_
    cases hf
    rw [← hQ]
    exact zRz C (by decide +kernel) hK hP hD hS dX4_isNamed_14
def fX4_hasBlockNamed_L2 (oT : Rc) (oS : Rc) (NN : Nat) (J27_1 : Unit → Option (Int32)) (n : Nat) (x2 : Int32) : Option (Int32) := zLp1 (fun (go3 : Int32 → Option (Int32)) (x2 : Int32) =>
    if (oS 0 0) ≤ x2 then (
      J27_1 ()
    ) else (
      zB1 (fX4_isNamed NN oT oS x2) fun v4 =>
      if v4 = 0 then (
        zLet (x2 + 1) fun x5 =>
        go3 x5
      ) else (
        some (1 : Int32)
      )
    )
  ) n x2
def fX4_hasBlockNamed (NN : Nat) (oT : Rc) (oS : Rc) : Option (Int32) :=
  zJn (fun (_ : Unit) =>
      some (0 : Int32)
    ) fun J27_1 =>
  fX4_hasBlockNamed_L2 oT oS NN J27_1 NN (0 : Int32)
abbrev rX4_hasBlockNamed : Room := { frames := 2, cells := 0, slots := 0, locals := 44 }
set_option maxHeartbeats 4000000 in
set_option maxRecDepth 100000 in
theorem mtX4_hasBlockNamed (l : Launch) (dC : Nat → ClassId) (dI : Nat → Nat → Nat) (cI cB : ClassId) (aT aS : Nat → Nat) (sz : Nat) (NN : Nat) (oT : Rc) (oS : Rc) {ov : Int32} (hf : fX4_hasBlockNamed NN oT oS = some ov) : zMi l yX4_hasBlockNamed (Cond.code yX4_hasBlockNamed cX4_hasBlockNamed 3 (some .boolean) :: lw_g) rX4_hasBlockNamed (dC, dI) [(cI, .int), (cB, .byte)] [.ref (aS 0), .ref (aT 0)] sz (kX6 cI cB aT oT ++ kX4 cI cB aS oS) ov (kX6 cI cB aT oT ++ kX4 cI cB aS oS) := by
  refine zSt (cc := cX4_hasBlockNamed) (maxL := 3) (ret := (some .boolean)) (own := RX4) (fun A => zQi (dC, dI) [(cI, .int), (cB, .byte)] A ov (kX6 cI cB aT oT ++ kX4 cI cB aS oS)) (by decide) rfl rfl (Nat.le_of_ble_eq_true rfl) ?_
  intro p e s m below meth c ls A H locs C hK hA hP hD hS hl
  generalize hQ : MQ below (zQi (dC, dI) [(cI, .int), (cB, .byte)] A ov (kX6 cI cB aT oT ++ kX4 cI cB aS oS)) _ s 0 0 A = QQ
  generalize ([.ref (aS 0), .ref (aT 0)] : List Value).toArray = args at C hQ ⊢
  have hl : lv_has ls 3 [(0, .ref (aS 0)), (1, .ref (aT 0))] := hl
  unfold fX4_hasBlockNamed at hf
  refine lv_iconst (v := 0) C.1.1 C.1.2.1 dX4_hasBlockNamed_0 (by decide) ?_
  refine lv_istore_n (lv' := [(2, .int (0 : Int32)), (0, .ref (aS 0)), (1, .ref (aT 0))]) C.1.1 C.1.2.1 dX4_hasBlockNamed_1 rfl hl (by decide) rfl (fun ls hl => ?_)
  obtain ⟨J27_1, eJ27_1, hf⟩ := zJn_el hf
  have hJ27_1 : ∀ (u : Unit), J27_1 u = some ov → ∀ (H : Heap) (locs : List Loc), va_P (dC, dI) vwCl (kX6 cI cB aT oT ++ kX4 cI cB aS oS) H → va_D A (kX6 cI cB aT oT ++ kX4 cI cB aS oS) → va_S A s.heap H locs → ∀ (ls : Array Slot), lv_has ls 3 [] → W p l e rX4_hasBlockNamed s m args below meth c H locs 0 0 QQ (F0 m 27 ls []) := by
    intro u hf H locs hP hD hS ls hl
    rw [eJ27_1] at hf
    refine lv_iconst (v := 0) C.1.1 C.1.2.1 dX4_hasBlockNamed_27 (by decide) ?_
    cases hf
    rw [← hQ]
    exact zRz C (by decide +kernel) hK hP hD hS dX4_hasBlockNamed_28
  refine zLp1_ind (o := ov) (P := fun (x2 : Int32) => ∀ (H : Heap) (locs : List Loc), va_P (dC, dI) vwCl (kX6 cI cB aT oT ++ kX4 cI cB aS oS) H → va_D A (kX6 cI cB aT oT ++ kX4 cI cB aS oS) → va_S A s.heap H locs → ∀ (ls : Array Slot), lv_has ls 3 [(0, .ref (aS 0)), (1, .ref (aT 0)), (2, .int x2)] → W p l e rX4_hasBlockNamed s m args below meth c H locs 0 0 QQ (F0 m 2 ls [])) (fun go3 ihgo3 x2 hf H locs hP hD hS ls hl => ?_) _ (0 : Int32) hf H locs hP hD hS ls (lv_sub hl [1, 2, 0] rfl)
  refine lv_iload_n C.1.1 C.1.2.1 dX4_hasBlockNamed_2 rfl (lv_at hl 2 rfl) ?_
  refine lv_aload_n C.1.1 C.1.2.1 dX4_hasBlockNamed_3 rfl (lv_at hl 0 rfl) ?_
  refine zGet (.int (oS 0 0)) C.1 wuX4 hK hP 2 rfl rfl 0 (by decide) wfX4_9 rfl rfl dX4_hasBlockNamed_4 ?_
  refine lv_icmp_ge (tgt := 27) C.1.1 C.1.2.1 dX4_hasBlockNamed_7 (by decide) (fun hc => ?_) (fun hc => ?_)
  · replace hf := zIf_t hf hc
    exact hJ27_1 () hf H locs hP hD hS ls (lv_sub hl [] rfl)
  · replace hf := zIf_f hf hc
    refine lv_aload_n C.1.1 C.1.2.1 dX4_hasBlockNamed_10 rfl (lv_at hl 0 rfl) ?_
    refine lv_iload_n C.1.1 C.1.2.1 dX4_hasBlockNamed_11 rfl (lv_at hl 2 rfl) ?_
    refine lv_aload_n C.1.1 C.1.2.1 dX4_hasBlockNamed_12 rfl (lv_at hl 1 rfl) ?_
    obtain ⟨v4, hg, hf⟩ := zB1_el hf
    refine zCVi (As := [.int x2, .ref (aT 0)]) (rest := []) (wr := ([] : va_W)) (wn := (kX6 cI cB aT oT ++ kX4 cI cB aS oS)) C.1 hK hA hP hD hS [0, 1, 2, 3, 4, 5, 6, 7, 8, 9, 10, 11] [] [0, 1, 2, 3, 4, 5, 6, 7, 8, 9, 10, 11] 2 (mtX4_isNamed l dC dI cI cB aT aS H.size NN oT oS x2 hg) (zCwV 2 C.1 wlX4_52 wiX4_isNamed ws_X4_isNamed wnX4 wkX4_isNamed rfl rfl (by decide +kernel) ⟨Nat.le_of_ble_eq_true rfl, Nat.le_of_ble_eq_true rfl⟩) rfl rfl (by decide +kernel) rfl rfl rfl rfl hl.1 (Nat.le_of_ble_eq_true rfl) dX4_hasBlockNamed_13 ⟨Nat.zero_le _, Nat.zero_le _⟩ rfl (fun H locs hP hD hS => ?_)
    refine lv_if_eq (tgt := 21) C.1.1 C.1.2.1 dX4_hasBlockNamed_16 (by decide) (fun hc => ?_) (fun hc => ?_)
    · replace hf := zIf_t hf hc
      obtain ⟨x5, ex5, hf⟩ := zLet_el hf
      refine lv_iinc (v := x5) (lv' := [(2, .int x5), (0, .ref (aS 0)), (1, .ref (aT 0))]) C.1.1 C.1.2.1 dX4_hasBlockNamed_21 hl (k := 2) rfl (by rw [ex5]; rfl) (by decide) rfl (fun ls hl => ?_)
      refine lv_goto (tgt := 2) C.1.1 C.1.2.1 dX4_hasBlockNamed_24 (by decide) ?_
      exact ihgo3 x5 hf H locs hP hD hS ls (lv_sub hl [1, 2, 0] rfl)
    · replace hf := zIf_f hf hc
      refine lv_iconst (v := 1) C.1.1 C.1.2.1 dX4_hasBlockNamed_19 (by decide) ?_
      cases hf
      rw [← hQ]
      exact zRz C (by decide +kernel) hK hP hD hS dX4_hasBlockNamed_20
def fX4_addBlock_L30 (oT : Rc) (J68_4 : Rc → Option (Rc)) (n : Nat) (x8 : Int32) (oS_9 : Rc) : Option (Rc) := zLp2 (fun (go10 : Int32 → Rc → Option (Rc)) (x8 : Int32) (oS_9 : Rc) =>
    zGd (inb (oS_9 0 0) 12) <|
    if (oS_9 5 (oS_9 0 0).toNatClampNeg) ≤ x8 then (
      J68_4 oS_9
    ) else (
      zB1 (fX6_letter oT x8) fun v11 =>
      zGd (inb (((oS_9 0 0) * (8 : Int32)) + x8) 96) <|
      zLet (rs oS_9 4 (upd (oS_9 4) (((oS_9 0 0) * (8 : Int32)) + x8).toNatClampNeg v11)) fun oS_12 =>
      zLet (x8 + 1) fun x13 =>
      go10 x13 oS_12
    )
  ) n x8 oS_9
def fX4_addBlock (NN : Nat) (oT : Rc) (oS : Rc) : Option (Rc) :=
  if (oS 0 0) < (12 : Int32) then (
    zLet (if (8 : Int32) < (oT 6 0) then (8 : Int32) else (oT 6 0)) fun x1 =>
    zGd (inb (oS 0 0) 12) <|
    zLet (rs oS 5 (upd (oS 5) (oS 0 0).toNatClampNeg x1)) fun oS_2 =>
    zJn (fun (oS_3 : Rc) =>
        zGd (inb (oS_3 0 0) 13) <|
        zLet (rs oS_3 7 (upd (oS_3 7) (oS_3 0 0).toNatClampNeg (oS_3 1 0))) fun oS_5 =>
        zLet (rs oS_5 0 (fun _ => ((oS_5 0 0) + (1 : Int32)))) fun oS_6 =>
        zGd (inb (oS_6 0 0) 13) <|
        zLet (rs oS_6 7 (upd (oS_6 7) (oS_6 0 0).toNatClampNeg (oS_6 1 0))) fun oS_7 =>
        some oS_7
      ) fun J68_4 =>
    fX4_addBlock_L30 oT J68_4 NN (0 : Int32) oS_2
  ) else (
    some oS
  )
abbrev rX4_addBlock : Room := { frames := 1, cells := 0, slots := 0, locals := 30 }
set_option maxHeartbeats 4000000 in
set_option maxRecDepth 100000 in
theorem mtX4_addBlock (l : Launch) (dC : Nat → ClassId) (dI : Nat → Nat → Nat) (cI cB : ClassId) (aT aS : Nat → Nat) (sz : Nat) (NN : Nat) (oT : Rc) (oS : Rc) {oS' : Rc} (hf : fX4_addBlock NN oT oS = some oS') : zMv l yX4_addBlock (Cond.code yX4_addBlock cX4_addBlock 3 none :: lw_g) rX4_addBlock (dC, dI) [(cI, .int), (cB, .byte)] [.ref (aS 0), .ref (aT 0)] sz (kX6 cI cB aT oT ++ kX4 cI cB aS oS) (kX6 cI cB aT oT ++ kX4 cI cB aS oS') := by
  refine zSt (cc := cX4_addBlock) (maxL := 3) (ret := none) (own := RX4) (fun A => zQv (dC, dI) [(cI, .int), (cB, .byte)] A (kX6 cI cB aT oT ++ kX4 cI cB aS oS')) (by decide) rfl rfl (Nat.le_of_ble_eq_true rfl) ?_
  intro p e s m below meth c ls A H locs C hK hA hP hD hS hl
  generalize hQ : MQ below (zQv (dC, dI) [(cI, .int), (cB, .byte)] A (kX6 cI cB aT oT ++ kX4 cI cB aS oS')) _ s 0 0 A = QQ
  generalize ([.ref (aS 0), .ref (aT 0)] : List Value).toArray = args at C hQ ⊢
  have hl : lv_has ls 3 [(0, .ref (aS 0)), (1, .ref (aT 0))] := hl
  unfold fX4_addBlock at hf
  refine lv_aload_n C.1.1 C.1.2.1 dX4_addBlock_0 rfl (lv_at hl 0 rfl) ?_
  refine zGet (.int (oS 0 0)) C.1 wuX4 hK hP 2 rfl rfl 0 (by decide) wfX4_9 rfl rfl dX4_addBlock_1 ?_
  refine lv_bipush (v := 12) C.1.1 C.1.2.1 dX4_addBlock_4 (by decide) ?_
  refine lv_icmp_lt (tgt := 10) C.1.1 C.1.2.1 dX4_addBlock_6 (by decide) (fun hc => ?_) (fun hc => ?_)
  · replace hf := zIf_t hf hc
    refine lv_aload_n C.1.1 C.1.2.1 dX4_addBlock_10 rfl (lv_at hl 0 rfl) ?_
    refine zGet (.ref (aS 2)) C.1 wuX4 hK hP 2 rfl rfl 5 (by decide) wfX4_28 rfl rfl dX4_addBlock_11 ?_
    refine lv_aload_n C.1.1 C.1.2.1 dX4_addBlock_14 rfl (lv_at hl 0 rfl) ?_
    refine zGet (.int (oS 0 0)) C.1 wuX4 hK hP 2 rfl rfl 0 (by decide) wfX4_9 rfl rfl dX4_addBlock_15 ?_
    refine lv_aload_n C.1.1 C.1.2.1 dX4_addBlock_18 rfl (lv_at hl 1 rfl) ?_
    refine zGet (.int (oT 6 0)) C.1 wuX6 hK hP 0 rfl rfl 6 (by decide) wfX4_56 rfl rfl dX4_addBlock_19 ?_
    refine lv_bipush (v := 8) C.1.1 C.1.2.1 dX4_addBlock_22 (by decide) ?_
    refine va_mmin C.1.1 C.1.2.1 (C.1.2.2.1.trans hl.1.symm) C.1.2.2.2.1 (C.1.2.2.2.2 _ wlX4_65) (C.1.2.2.2.2 _ wtJ9_min_7cf53) (C.1.2.2.2.2 _ wnJ9) (C.1.2.2.2.2 _ wkJ9_min_7cf53) (Nat.le_of_ble_eq_true rfl) (Nat.le_of_ble_eq_true rfl) (Nat.zero_le _) (Nat.zero_le _) dX4_addBlock_24 ?_
    refine lv_topi (fun x1 ex1 => ?_)
    replace hf := zLet_at hf ex1
    obtain ⟨hib, hf⟩ := zGd_el hf
    obtain ⟨oS_2, eoS_2, hf⟩ := zLet_el hf
    refine zIast (kX6 cI cB aT oT ++ kX4 cI cB aS oS_2) C.1 hK hP hD hS 4 0 rfl rfl hib dX4_addBlock_27 (by rw [eoS_2]; rfl) (fun H locs hP hD hS => ?_)
    refine lv_iconst (v := 0) C.1.1 C.1.2.1 dX4_addBlock_28 (by decide) ?_
    refine lv_istore_n (lv' := [(2, .int (0 : Int32)), (0, .ref (aS 0)), (1, .ref (aT 0))]) C.1.1 C.1.2.1 dX4_addBlock_29 rfl hl (by decide) rfl (fun ls hl => ?_)
    obtain ⟨J68_4, eJ68_4, hf⟩ := zJn_el hf
    have hJ68_4 : ∀ (oS_3 : Rc), J68_4 oS_3 = some oS' → ∀ (H : Heap) (locs : List Loc), va_P (dC, dI) vwCl (kX6 cI cB aT oT ++ kX4 cI cB aS oS_3) H → va_D A (kX6 cI cB aT oT ++ kX4 cI cB aS oS_3) → va_S A s.heap H locs → ∀ (ls : Array Slot), lv_has ls 3 [(0, .ref (aS 0))] → W p l e rX4_addBlock s m args below meth c H locs 0 0 QQ (F0 m 68 ls []) := by
      intro oS_3 hf H locs hP hD hS ls hl
      rw [eJ68_4] at hf
      refine lv_aload_n C.1.1 C.1.2.1 dX4_addBlock_68 rfl (lv_at hl 0 rfl) ?_
      refine zGet (.ref (aS 4)) C.1 wuX4 hK hP 2 rfl rfl 7 (by decide) wfX4_34 rfl rfl dX4_addBlock_69 ?_
      refine lv_aload_n C.1.1 C.1.2.1 dX4_addBlock_72 rfl (lv_at hl 0 rfl) ?_
      refine zGet (.int (oS_3 0 0)) C.1 wuX4 hK hP 2 rfl rfl 0 (by decide) wfX4_9 rfl rfl dX4_addBlock_73 ?_
      refine lv_aload_n C.1.1 C.1.2.1 dX4_addBlock_76 rfl (lv_at hl 0 rfl) ?_
      refine zGet (.int (oS_3 1 0)) C.1 wuX4 hK hP 2 rfl rfl 1 (by decide) wfX4_15 rfl rfl dX4_addBlock_77 ?_
      obtain ⟨hib, hf⟩ := zGd_el hf
      obtain ⟨oS_5, eoS_5, hf⟩ := zLet_el hf
      refine zIast (kX6 cI cB aT oT ++ kX4 cI cB aS oS_5) C.1 hK hP hD hS 6 0 rfl rfl hib dX4_addBlock_80 (by rw [eoS_5]; rfl) (fun H locs hP hD hS => ?_)
      refine lv_aload_n C.1.1 C.1.2.1 dX4_addBlock_81 rfl (lv_at hl 0 rfl) ?_
      refine lv_dup C.1.1 C.1.2.1 dX4_addBlock_82 rfl ?_
      refine zGet (.int (oS_5 0 0)) C.1 wuX4 hK hP 2 rfl rfl 0 (by decide) wfX4_9 rfl rfl dX4_addBlock_83 ?_
      refine lv_iconst (v := 1) C.1.1 C.1.2.1 dX4_addBlock_86 (by decide) ?_
      refine lv_iadd C.1.1 C.1.2.1 dX4_addBlock_87 ?_
      obtain ⟨oS_6, eoS_6, hf⟩ := zLet_el hf
      refine zPut (ty := .int) (kX6 cI cB aT oT ++ kX4 cI cB aS oS_6) C.1 wuX4 tyX4 tyX4_ok nmX4 hK hP hD hS 2 rfl rfl 0 (by decide) wfX4_9 rfl rfl (by decide +kernel) rfl rfl (Nat.le_of_ble_eq_true rfl) dX4_addBlock_88 (by rw [eoS_6]; rfl) (fun H locs hP hD hS => ?_)
      refine lv_aload_n C.1.1 C.1.2.1 dX4_addBlock_91 rfl (lv_at hl 0 rfl) ?_
      refine zGet (.ref (aS 4)) C.1 wuX4 hK hP 2 rfl rfl 7 (by decide) wfX4_34 rfl rfl dX4_addBlock_92 ?_
      refine lv_aload_n C.1.1 C.1.2.1 dX4_addBlock_95 rfl (lv_at hl 0 rfl) ?_
      refine zGet (.int (oS_6 0 0)) C.1 wuX4 hK hP 2 rfl rfl 0 (by decide) wfX4_9 rfl rfl dX4_addBlock_96 ?_
      refine lv_aload_n C.1.1 C.1.2.1 dX4_addBlock_99 rfl (lv_at hl 0 rfl) ?_
      refine zGet (.int (oS_6 1 0)) C.1 wuX4 hK hP 2 rfl rfl 1 (by decide) wfX4_15 rfl rfl dX4_addBlock_100 ?_
      obtain ⟨hib, hf⟩ := zGd_el hf
      obtain ⟨oS_7, eoS_7, hf⟩ := zLet_el hf
      refine zIast (kX6 cI cB aT oT ++ kX4 cI cB aS oS_7) C.1 hK hP hD hS 6 0 rfl rfl hib dX4_addBlock_103 (by rw [eoS_7]; rfl) (fun H locs hP hD hS => ?_)
      cases hf
      rw [← hQ]
      exact zRv C hK hP hD hS dX4_addBlock_104
    refine zLp2_ind (o := oS') (P := fun (x8 : Int32) (oS_9 : Rc) => ∀ (H : Heap) (locs : List Loc), va_P (dC, dI) vwCl (kX6 cI cB aT oT ++ kX4 cI cB aS oS_9) H → va_D A (kX6 cI cB aT oT ++ kX4 cI cB aS oS_9) → va_S A s.heap H locs → ∀ (ls : Array Slot), lv_has ls 3 [(0, .ref (aS 0)), (1, .ref (aT 0)), (2, .int x8)] → W p l e rX4_addBlock s m args below meth c H locs 0 0 QQ (F0 m 30 ls [])) (fun go10 ihgo10 x8 oS_9 hf H locs hP hD hS ls hl => ?_) _ (0 : Int32) oS_2 hf H locs hP hD hS ls (lv_sub hl [1, 2, 0] rfl)
    refine lv_iload_n C.1.1 C.1.2.1 dX4_addBlock_30 rfl (lv_at hl 2 rfl) ?_
    refine lv_aload_n C.1.1 C.1.2.1 dX4_addBlock_31 rfl (lv_at hl 0 rfl) ?_
    refine zGet (.ref (aS 2)) C.1 wuX4 hK hP 2 rfl rfl 5 (by decide) wfX4_28 rfl rfl dX4_addBlock_32 ?_
    refine lv_aload_n C.1.1 C.1.2.1 dX4_addBlock_35 rfl (lv_at hl 0 rfl) ?_
    refine zGet (.int (oS_9 0 0)) C.1 wuX4 hK hP 2 rfl rfl 0 (by decide) wfX4_9 rfl rfl dX4_addBlock_36 ?_
    obtain ⟨hib, hf⟩ := zGd_el hf
    refine va_iald C.1.1 C.1.2.1 hK.1 hP 4 0 rfl rfl hib dX4_addBlock_39 ?_
    refine lv_icmp_ge (tgt := 68) C.1.1 C.1.2.1 dX4_addBlock_40 (by decide) (fun hc => ?_) (fun hc => ?_)
    · replace hf := zIf_t hf hc
      exact hJ68_4 oS_9 hf H locs hP hD hS ls (lv_sub hl [0] rfl)
    · replace hf := zIf_f hf hc
      refine lv_aload_n C.1.1 C.1.2.1 dX4_addBlock_43 rfl (lv_at hl 0 rfl) ?_
      refine zGet (.ref (aS 1)) C.1 wuX4 hK hP 2 rfl rfl 4 (by decide) wfX4_24 rfl rfl dX4_addBlock_44 ?_
      refine lv_aload_n C.1.1 C.1.2.1 dX4_addBlock_47 rfl (lv_at hl 0 rfl) ?_
      refine zGet (.int (oS_9 0 0)) C.1 wuX4 hK hP 2 rfl rfl 0 (by decide) wfX4_9 rfl rfl dX4_addBlock_48 ?_
      refine lv_bipush (v := 8) C.1.1 C.1.2.1 dX4_addBlock_51 (by decide) ?_
      refine lv_imul C.1.1 C.1.2.1 dX4_addBlock_53 ?_
      refine lv_iload_n C.1.1 C.1.2.1 dX4_addBlock_54 rfl (lv_at hl 2 rfl) ?_
      refine lv_iadd C.1.1 C.1.2.1 dX4_addBlock_55 ?_
      refine lv_aload_n C.1.1 C.1.2.1 dX4_addBlock_56 rfl (lv_at hl 1 rfl) ?_
      refine lv_iload_n C.1.1 C.1.2.1 dX4_addBlock_57 rfl (lv_at hl 2 rfl) ?_
      obtain ⟨v11, hg, hf⟩ := zB1_el hf
      refine zCVi (As := [.int x8]) (rest := [.int (((oS_9 0 0) * (8 : Int32)) + x8), .ref (aS 1)]) (wr := (kX4 cI cB aS oS_9)) (wn := (kX6 cI cB aT oT ++ kX4 cI cB aS oS_9)) C.1 hK hA hP hD hS [0, 1] [2, 3, 4, 5, 6, 7, 8, 9, 10, 11] [10, 11, 0, 1, 2, 3, 4, 5, 6, 7, 8, 9] 0 (mtX6_letter l dC dI cI cB aT H.size oT x8 hg) (zCwV 1 C.1 wlX4_61 wiX6_letter ws_X6_letter wnX6 wkX6_letter rfl rfl (by decide +kernel) ⟨Nat.le_of_ble_eq_true rfl, Nat.le_of_ble_eq_true rfl⟩) rfl rfl (by decide +kernel) rfl rfl rfl rfl hl.1 (Nat.le_of_ble_eq_true rfl) dX4_addBlock_58 ⟨Nat.zero_le _, Nat.zero_le _⟩ rfl (fun H locs hP hD hS => ?_)
      obtain ⟨hib, hf⟩ := zGd_el hf
      obtain ⟨oS_12, eoS_12, hf⟩ := zLet_el hf
      refine zIast (kX6 cI cB aT oT ++ kX4 cI cB aS oS_12) C.1 hK hP hD hS 3 0 rfl rfl hib dX4_addBlock_61 (by rw [eoS_12]; rfl) (fun H locs hP hD hS => ?_)
      obtain ⟨x13, ex13, hf⟩ := zLet_el hf
      refine lv_iinc (v := x13) (lv' := [(2, .int x13), (0, .ref (aS 0)), (1, .ref (aT 0))]) C.1.1 C.1.2.1 dX4_addBlock_62 hl (k := 2) rfl (by rw [ex13]; rfl) (by decide) rfl (fun ls hl => ?_)
      refine lv_goto (tgt := 30) C.1.1 C.1.2.1 dX4_addBlock_65 (by decide) ?_
      exact ihgo10 x13 oS_12 hf H locs hP hD hS ls (lv_sub hl [1, 2, 0] rfl)
  · replace hf := zIf_f hf hc
    cases hf
    rw [← hQ]
    exact zRv C hK hP hD hS dX4_addBlock_9
def fX4_repeatLatestBlock (oS : Rc) (p1 : Int32) : Option (Rc) :=
  if (oS 0 0) ≤ 0 then (
    some oS
  ) else (
    zGd (inb ((oS 0 0) - (1 : Int32)) 12) <|
    zLet (rs oS 6 (upd (oS 6) ((oS 0 0) - (1 : Int32)).toNatClampNeg p1)) fun oS_1 =>
    some oS_1
  )
abbrev rX4_repeatLatestBlock : Room := { frames := 0, cells := 0, slots := 0, locals := 0 }
set_option maxHeartbeats 4000000 in
set_option maxRecDepth 100000 in
theorem mtX4_repeatLatestBlock (l : Launch) (dC : Nat → ClassId) (dI : Nat → Nat → Nat) (cI cB : ClassId) (aS : Nat → Nat) (sz : Nat) (oS : Rc) (p1 : Int32) {oS' : Rc} (hf : fX4_repeatLatestBlock oS p1 = some oS') : zMv l yX4_repeatLatestBlock (Cond.code yX4_repeatLatestBlock cX4_repeatLatestBlock 2 none :: lw_g) rX4_repeatLatestBlock (dC, dI) [(cI, .int), (cB, .byte)] [.ref (aS 0), .int p1] sz (kX4 cI cB aS oS) (kX4 cI cB aS oS') := by
  refine zSt (cc := cX4_repeatLatestBlock) (maxL := 2) (ret := none) (own := RX4) (fun A => zQv (dC, dI) [(cI, .int), (cB, .byte)] A (kX4 cI cB aS oS')) (by decide) rfl rfl (Nat.le_of_ble_eq_true rfl) ?_
  intro p e s m below meth c ls A H locs C hK hA hP hD hS hl
  generalize hQ : MQ below (zQv (dC, dI) [(cI, .int), (cB, .byte)] A (kX4 cI cB aS oS')) _ s 0 0 A = QQ
  generalize ([.ref (aS 0), .int p1] : List Value).toArray = args at C hQ ⊢
  have hl : lv_has ls 2 [(0, .ref (aS 0)), (1, .int p1)] := hl
  unfold fX4_repeatLatestBlock at hf
  refine lv_aload_n C.1.1 C.1.2.1 dX4_repeatLatestBlock_0 rfl (lv_at hl 0 rfl) ?_
  refine zGet (.int (oS 0 0)) C.1 wuX4 hK hP 0 rfl rfl 0 (by decide) wfX4_9 rfl rfl dX4_repeatLatestBlock_1 ?_
  refine lv_if_le (tgt := 19) C.1.1 C.1.2.1 dX4_repeatLatestBlock_4 (by decide) (fun hc => ?_) (fun hc => ?_)
  · replace hf := zIf_t hf hc
    cases hf
    rw [← hQ]
    exact zRv C hK hP hD hS dX4_repeatLatestBlock_19
  · replace hf := zIf_f hf hc
    refine lv_aload_n C.1.1 C.1.2.1 dX4_repeatLatestBlock_7 rfl (lv_at hl 0 rfl) ?_
    refine zGet (.ref (aS 3)) C.1 wuX4 hK hP 0 rfl rfl 6 (by decide) wfX4_31 rfl rfl dX4_repeatLatestBlock_8 ?_
    refine lv_aload_n C.1.1 C.1.2.1 dX4_repeatLatestBlock_11 rfl (lv_at hl 0 rfl) ?_
    refine zGet (.int (oS 0 0)) C.1 wuX4 hK hP 0 rfl rfl 0 (by decide) wfX4_9 rfl rfl dX4_repeatLatestBlock_12 ?_
    refine lv_iconst (v := 1) C.1.1 C.1.2.1 dX4_repeatLatestBlock_15 (by decide) ?_
    refine lv_isub C.1.1 C.1.2.1 dX4_repeatLatestBlock_16 ?_
    refine lv_iload_n C.1.1 C.1.2.1 dX4_repeatLatestBlock_17 rfl (lv_at hl 1 rfl) ?_
    obtain ⟨hib, hf⟩ := zGd_el hf
    obtain ⟨oS_1, eoS_1, hf⟩ := zLet_el hf
    refine zIast (kX4 cI cB aS oS_1) C.1 hK hP hD hS 3 0 rfl rfl hib dX4_repeatLatestBlock_18 (by rw [eoS_1]; rfl) (fun H locs hP hD hS => ?_)
    cases hf
    rw [← hQ]
    exact zRv C hK hP hD hS dX4_repeatLatestBlock_19
def fX4_latestBlockIsFull (oS : Rc) : Option (Int32) :=
  if (oS 0 0) ≤ 0 then (
    some (0 : Int32)
  ) else (
    zB1 (fX4_linesIn oS ((oS 0 0) - (1 : Int32))) fun v1 =>
    if v1 < (8 : Int32) then (
      some (0 : Int32)
    ) else (
      some (1 : Int32)
    )
  )
abbrev rX4_latestBlockIsFull : Room := { frames := 1, cells := 0, slots := 0, locals := 21 }
set_option maxHeartbeats 4000000 in
set_option maxRecDepth 100000 in
theorem mtX4_latestBlockIsFull (l : Launch) (dC : Nat → ClassId) (dI : Nat → Nat → Nat) (cI cB : ClassId) (aS : Nat → Nat) (sz : Nat) (oS : Rc) {ov : Int32} (hf : fX4_latestBlockIsFull oS = some ov) : zMi l yX4_latestBlockIsFull (Cond.code yX4_latestBlockIsFull cX4_latestBlockIsFull 1 (some .boolean) :: lw_g) rX4_latestBlockIsFull (dC, dI) [(cI, .int), (cB, .byte)] [.ref (aS 0)] sz (kX4 cI cB aS oS) ov (kX4 cI cB aS oS) := by
  refine zSt (cc := cX4_latestBlockIsFull) (maxL := 1) (ret := (some .boolean)) (own := RX4) (fun A => zQi (dC, dI) [(cI, .int), (cB, .byte)] A ov (kX4 cI cB aS oS)) (by decide) rfl rfl (Nat.le_of_ble_eq_true rfl) ?_
  intro p e s m below meth c ls A H locs C hK hA hP hD hS hl
  generalize hQ : MQ below (zQi (dC, dI) [(cI, .int), (cB, .byte)] A ov (kX4 cI cB aS oS)) _ s 0 0 A = QQ
  generalize ([.ref (aS 0)] : List Value).toArray = args at C hQ ⊢
  have hl : lv_has ls 1 [(0, .ref (aS 0))] := hl
  unfold fX4_latestBlockIsFull at hf
  refine lv_aload_n C.1.1 C.1.2.1 dX4_latestBlockIsFull_0 rfl (lv_at hl 0 rfl) ?_
  refine zGet (.int (oS 0 0)) C.1 wuX4 hK hP 0 rfl rfl 0 (by decide) wfX4_9 rfl rfl dX4_latestBlockIsFull_1 ?_
  refine lv_if_le (tgt := 26) C.1.1 C.1.2.1 dX4_latestBlockIsFull_4 (by decide) (fun hc => ?_) (fun hc => ?_)
  · replace hf := zIf_t hf hc
    refine lv_iconst (v := 0) C.1.1 C.1.2.1 dX4_latestBlockIsFull_26 (by decide) ?_
    cases hf
    rw [← hQ]
    exact zRz C (by decide +kernel) hK hP hD hS dX4_latestBlockIsFull_27
  · replace hf := zIf_f hf hc
    refine lv_aload_n C.1.1 C.1.2.1 dX4_latestBlockIsFull_7 rfl (lv_at hl 0 rfl) ?_
    refine lv_aload_n C.1.1 C.1.2.1 dX4_latestBlockIsFull_8 rfl (lv_at hl 0 rfl) ?_
    refine zGet (.int (oS 0 0)) C.1 wuX4 hK hP 0 rfl rfl 0 (by decide) wfX4_9 rfl rfl dX4_latestBlockIsFull_9 ?_
    refine lv_iconst (v := 1) C.1.1 C.1.2.1 dX4_latestBlockIsFull_12 (by decide) ?_
    refine lv_isub C.1.1 C.1.2.1 dX4_latestBlockIsFull_13 ?_
    obtain ⟨v1, hg, hf⟩ := zB1_el hf
    refine zCVi (As := [.int ((oS 0 0) - (1 : Int32))]) (rest := []) (wr := ([] : va_W)) (wn := (kX4 cI cB aS oS)) C.1 hK hA hP hD hS [0, 1, 2, 3, 4, 5, 6, 7, 8, 9] [] [0, 1, 2, 3, 4, 5, 6, 7, 8, 9] 0 (mtX4_linesIn l dC dI cI cB aS H.size oS ((oS 0 0) - (1 : Int32)) hg) (zCwV 1 C.1 wlX4_71 wiX4_linesIn ws_X4_linesIn wnX4 wkX4_linesIn rfl rfl (by decide +kernel) ⟨Nat.le_of_ble_eq_true rfl, Nat.le_of_ble_eq_true rfl⟩) rfl rfl (by decide +kernel) rfl rfl rfl rfl hl.1 (Nat.le_of_ble_eq_true rfl) dX4_latestBlockIsFull_14 ⟨Nat.zero_le _, Nat.zero_le _⟩ rfl (fun H locs hP hD hS => ?_)
    refine lv_bipush (v := 8) C.1.1 C.1.2.1 dX4_latestBlockIsFull_17 (by decide) ?_
    refine lv_icmp_lt (tgt := 26) C.1.1 C.1.2.1 dX4_latestBlockIsFull_19 (by decide) (fun hc => ?_) (fun hc => ?_)
    · replace hf := zIf_t hf hc
      refine lv_iconst (v := 0) C.1.1 C.1.2.1 dX4_latestBlockIsFull_26 (by decide) ?_
      cases hf
      rw [← hQ]
      exact zRz C (by decide +kernel) hK hP hD hS dX4_latestBlockIsFull_27
    · replace hf := zIf_f hf hc
      refine lv_iconst (v := 1) C.1.1 C.1.2.1 dX4_latestBlockIsFull_22 (by decide) ?_
      refine lv_goto (tgt := 27) C.1.1 C.1.2.1 dX4_latestBlockIsFull_23 (by decide) ?_
      cases hf
      rw [← hQ]
      exact zRz C (by decide +kernel) hK hP hD hS dX4_latestBlockIsFull_27
def fX4_addLine (oS : Rc) (p1 : Int32) (p2 : Int32) : Option (Rc) :=
  if (oS 1 0) < (96 : Int32) then (
    zGd (inb (oS 1 0) 96) <|
    zLet (rs oS 9 (upd (oS 9) (oS 1 0).toNatClampNeg p1)) fun oS_1 =>
    zGd (inb (oS_1 1 0) 96) <|
    zLet (rs oS_1 8 (upd (oS_1 8) (oS_1 1 0).toNatClampNeg p2)) fun oS_2 =>
    zLet (rs oS_2 1 (fun _ => ((oS_2 1 0) + (1 : Int32)))) fun oS_3 =>
    zGd (inb (oS_3 1 0) 97) <|
    zLet (rs oS_3 10 (upd (oS_3 10) (oS_3 1 0).toNatClampNeg (oS_3 2 0))) fun oS_4 =>
    zGd (inb (oS_4 0 0) 13) <|
    zLet (rs oS_4 7 (upd (oS_4 7) (oS_4 0 0).toNatClampNeg (oS_4 1 0))) fun oS_5 =>
    some oS_5
  ) else (
    some oS
  )
abbrev rX4_addLine : Room := { frames := 0, cells := 0, slots := 0, locals := 0 }
set_option maxHeartbeats 4000000 in
set_option maxRecDepth 100000 in
theorem mtX4_addLine (l : Launch) (dC : Nat → ClassId) (dI : Nat → Nat → Nat) (cI cB : ClassId) (aS : Nat → Nat) (sz : Nat) (oS : Rc) (p1 : Int32) (p2 : Int32) {oS' : Rc} (hf : fX4_addLine oS p1 p2 = some oS') : zMv l yX4_addLine (Cond.code yX4_addLine cX4_addLine 3 none :: lw_g) rX4_addLine (dC, dI) [(cI, .int), (cB, .byte)] [.ref (aS 0), .int p1, .int p2] sz (kX4 cI cB aS oS) (kX4 cI cB aS oS') := by
  refine zSt (cc := cX4_addLine) (maxL := 3) (ret := none) (own := RX4) (fun A => zQv (dC, dI) [(cI, .int), (cB, .byte)] A (kX4 cI cB aS oS')) (by decide) rfl rfl (Nat.le_of_ble_eq_true rfl) ?_
  intro p e s m below meth c ls A H locs C hK hA hP hD hS hl
  generalize hQ : MQ below (zQv (dC, dI) [(cI, .int), (cB, .byte)] A (kX4 cI cB aS oS')) _ s 0 0 A = QQ
  generalize ([.ref (aS 0), .int p1, .int p2] : List Value).toArray = args at C hQ ⊢
  have hl : lv_has ls 3 [(0, .ref (aS 0)), (1, .int p1), (2, .int p2)] := hl
  unfold fX4_addLine at hf
  refine lv_aload_n C.1.1 C.1.2.1 dX4_addLine_0 rfl (lv_at hl 0 rfl) ?_
  refine zGet (.int (oS 1 0)) C.1 wuX4 hK hP 0 rfl rfl 1 (by decide) wfX4_15 rfl rfl dX4_addLine_1 ?_
  refine lv_aload_n C.1.1 C.1.2.1 dX4_addLine_4 rfl (lv_at hl 0 rfl) ?_
  refine zGet (.ref (aS 5)) C.1 wuX4 hK hP 0 rfl rfl 8 (by decide) wfX4_37 rfl rfl dX4_addLine_5 ?_
  refine va_alen (v := 96) C.1.1 C.1.2.1 hK.1 hP 5 0 rfl rfl rfl dX4_addLine_8 ?_
  refine lv_icmp_lt (tgt := 13) C.1.1 C.1.2.1 dX4_addLine_9 (by decide) (fun hc => ?_) (fun hc => ?_)
  · replace hf := zIf_t hf hc
    refine lv_aload_n C.1.1 C.1.2.1 dX4_addLine_13 rfl (lv_at hl 0 rfl) ?_
    refine zGet (.ref (aS 6)) C.1 wuX4 hK hP 0 rfl rfl 9 (by decide) wfX4_40 rfl rfl dX4_addLine_14 ?_
    refine lv_aload_n C.1.1 C.1.2.1 dX4_addLine_17 rfl (lv_at hl 0 rfl) ?_
    refine zGet (.int (oS 1 0)) C.1 wuX4 hK hP 0 rfl rfl 1 (by decide) wfX4_15 rfl rfl dX4_addLine_18 ?_
    refine lv_iload_n C.1.1 C.1.2.1 dX4_addLine_21 rfl (lv_at hl 1 rfl) ?_
    obtain ⟨hib, hf⟩ := zGd_el hf
    obtain ⟨oS_1, eoS_1, hf⟩ := zLet_el hf
    refine zIast (kX4 cI cB aS oS_1) C.1 hK hP hD hS 6 0 rfl rfl hib dX4_addLine_22 (by rw [eoS_1]; rfl) (fun H locs hP hD hS => ?_)
    refine lv_aload_n C.1.1 C.1.2.1 dX4_addLine_23 rfl (lv_at hl 0 rfl) ?_
    refine zGet (.ref (aS 5)) C.1 wuX4 hK hP 0 rfl rfl 8 (by decide) wfX4_37 rfl rfl dX4_addLine_24 ?_
    refine lv_aload_n C.1.1 C.1.2.1 dX4_addLine_27 rfl (lv_at hl 0 rfl) ?_
    refine zGet (.int (oS_1 1 0)) C.1 wuX4 hK hP 0 rfl rfl 1 (by decide) wfX4_15 rfl rfl dX4_addLine_28 ?_
    refine lv_iload_n C.1.1 C.1.2.1 dX4_addLine_31 rfl (lv_at hl 2 rfl) ?_
    obtain ⟨hib, hf⟩ := zGd_el hf
    obtain ⟨oS_2, eoS_2, hf⟩ := zLet_el hf
    refine zIast (kX4 cI cB aS oS_2) C.1 hK hP hD hS 5 0 rfl rfl hib dX4_addLine_32 (by rw [eoS_2]; rfl) (fun H locs hP hD hS => ?_)
    refine lv_aload_n C.1.1 C.1.2.1 dX4_addLine_33 rfl (lv_at hl 0 rfl) ?_
    refine lv_dup C.1.1 C.1.2.1 dX4_addLine_34 rfl ?_
    refine zGet (.int (oS_2 1 0)) C.1 wuX4 hK hP 0 rfl rfl 1 (by decide) wfX4_15 rfl rfl dX4_addLine_35 ?_
    refine lv_iconst (v := 1) C.1.1 C.1.2.1 dX4_addLine_38 (by decide) ?_
    refine lv_iadd C.1.1 C.1.2.1 dX4_addLine_39 ?_
    obtain ⟨oS_3, eoS_3, hf⟩ := zLet_el hf
    refine zPut (ty := .int) (kX4 cI cB aS oS_3) C.1 wuX4 tyX4 tyX4_ok nmX4 hK hP hD hS 0 rfl rfl 1 (by decide) wfX4_15 rfl rfl (by decide +kernel) rfl rfl (Nat.le_of_ble_eq_true rfl) dX4_addLine_40 (by rw [eoS_3]; rfl) (fun H locs hP hD hS => ?_)
    refine lv_aload_n C.1.1 C.1.2.1 dX4_addLine_43 rfl (lv_at hl 0 rfl) ?_
    refine zGet (.ref (aS 7)) C.1 wuX4 hK hP 0 rfl rfl 10 (by decide) wfX4_43 rfl rfl dX4_addLine_44 ?_
    refine lv_aload_n C.1.1 C.1.2.1 dX4_addLine_47 rfl (lv_at hl 0 rfl) ?_
    refine zGet (.int (oS_3 1 0)) C.1 wuX4 hK hP 0 rfl rfl 1 (by decide) wfX4_15 rfl rfl dX4_addLine_48 ?_
    refine lv_aload_n C.1.1 C.1.2.1 dX4_addLine_51 rfl (lv_at hl 0 rfl) ?_
    refine zGet (.int (oS_3 2 0)) C.1 wuX4 hK hP 0 rfl rfl 2 (by decide) wfX4_18 rfl rfl dX4_addLine_52 ?_
    obtain ⟨hib, hf⟩ := zGd_el hf
    obtain ⟨oS_4, eoS_4, hf⟩ := zLet_el hf
    refine zIast (kX4 cI cB aS oS_4) C.1 hK hP hD hS 7 0 rfl rfl hib dX4_addLine_55 (by rw [eoS_4]; rfl) (fun H locs hP hD hS => ?_)
    refine lv_aload_n C.1.1 C.1.2.1 dX4_addLine_56 rfl (lv_at hl 0 rfl) ?_
    refine zGet (.ref (aS 4)) C.1 wuX4 hK hP 0 rfl rfl 7 (by decide) wfX4_34 rfl rfl dX4_addLine_57 ?_
    refine lv_aload_n C.1.1 C.1.2.1 dX4_addLine_60 rfl (lv_at hl 0 rfl) ?_
    refine zGet (.int (oS_4 0 0)) C.1 wuX4 hK hP 0 rfl rfl 0 (by decide) wfX4_9 rfl rfl dX4_addLine_61 ?_
    refine lv_aload_n C.1.1 C.1.2.1 dX4_addLine_64 rfl (lv_at hl 0 rfl) ?_
    refine zGet (.int (oS_4 1 0)) C.1 wuX4 hK hP 0 rfl rfl 1 (by decide) wfX4_15 rfl rfl dX4_addLine_65 ?_
    obtain ⟨hib, hf⟩ := zGd_el hf
    obtain ⟨oS_5, eoS_5, hf⟩ := zLet_el hf
    refine zIast (kX4 cI cB aS oS_5) C.1 hK hP hD hS 4 0 rfl rfl hib dX4_addLine_68 (by rw [eoS_5]; rfl) (fun H locs hP hD hS => ?_)
    cases hf
    rw [← hQ]
    exact zRv C hK hP hD hS dX4_addLine_69
  · replace hf := zIf_f hf hc
    cases hf
    rw [← hQ]
    exact zRv C hK hP hD hS dX4_addLine_12
def fX4_addStep (oS : Rc) (p1 : Int32) (p2 : Int32) : Option (Rc) :=
  if (oS 2 0) < (600 : Int32) then (
    zGd (inb (oS 2 0) 600) <|
    zLet (rs oS 11 (upd (oS 11) (oS 2 0).toNatClampNeg p1)) fun oS_1 =>
    zGd (inb (oS_1 2 0) 600) <|
    zLet (rs oS_1 12 (upd (oS_1 12) (oS_1 2 0).toNatClampNeg p2)) fun oS_2 =>
    zLet (rs oS_2 2 (fun _ => ((oS_2 2 0) + (1 : Int32)))) fun oS_3 =>
    some oS_3
  ) else (
    some oS
  )
abbrev rX4_addStep : Room := { frames := 0, cells := 0, slots := 0, locals := 0 }
set_option maxHeartbeats 4000000 in
set_option maxRecDepth 100000 in
theorem mtX4_addStep (l : Launch) (dC : Nat → ClassId) (dI : Nat → Nat → Nat) (cI cB : ClassId) (aS : Nat → Nat) (sz : Nat) (oS : Rc) (p1 : Int32) (p2 : Int32) {oS' : Rc} (hf : fX4_addStep oS p1 p2 = some oS') : zMv l yX4_addStep (Cond.code yX4_addStep cX4_addStep 3 none :: lw_g) rX4_addStep (dC, dI) [(cI, .int), (cB, .byte)] [.ref (aS 0), .int p1, .int p2] sz (kX4 cI cB aS oS) (kX4 cI cB aS oS') := by
  refine zSt (cc := cX4_addStep) (maxL := 3) (ret := none) (own := RX4) (fun A => zQv (dC, dI) [(cI, .int), (cB, .byte)] A (kX4 cI cB aS oS')) (by decide) rfl rfl (Nat.le_of_ble_eq_true rfl) ?_
  intro p e s m below meth c ls A H locs C hK hA hP hD hS hl
  generalize hQ : MQ below (zQv (dC, dI) [(cI, .int), (cB, .byte)] A (kX4 cI cB aS oS')) _ s 0 0 A = QQ
  generalize ([.ref (aS 0), .int p1, .int p2] : List Value).toArray = args at C hQ ⊢
  have hl : lv_has ls 3 [(0, .ref (aS 0)), (1, .int p1), (2, .int p2)] := hl
  unfold fX4_addStep at hf
  refine lv_aload_n C.1.1 C.1.2.1 dX4_addStep_0 rfl (lv_at hl 0 rfl) ?_
  refine zGet (.int (oS 2 0)) C.1 wuX4 hK hP 0 rfl rfl 2 (by decide) wfX4_18 rfl rfl dX4_addStep_1 ?_
  refine lv_aload_n C.1.1 C.1.2.1 dX4_addStep_4 rfl (lv_at hl 0 rfl) ?_
  refine zGet (.ref (aS 8)) C.1 wuX4 hK hP 0 rfl rfl 11 (by decide) wfX4_46 rfl rfl dX4_addStep_5 ?_
  refine va_alen (v := 600) C.1.1 C.1.2.1 hK.1 hP 8 0 rfl rfl rfl dX4_addStep_8 ?_
  refine lv_icmp_lt (tgt := 13) C.1.1 C.1.2.1 dX4_addStep_9 (by decide) (fun hc => ?_) (fun hc => ?_)
  · replace hf := zIf_t hf hc
    refine lv_aload_n C.1.1 C.1.2.1 dX4_addStep_13 rfl (lv_at hl 0 rfl) ?_
    refine zGet (.ref (aS 8)) C.1 wuX4 hK hP 0 rfl rfl 11 (by decide) wfX4_46 rfl rfl dX4_addStep_14 ?_
    refine lv_aload_n C.1.1 C.1.2.1 dX4_addStep_17 rfl (lv_at hl 0 rfl) ?_
    refine zGet (.int (oS 2 0)) C.1 wuX4 hK hP 0 rfl rfl 2 (by decide) wfX4_18 rfl rfl dX4_addStep_18 ?_
    refine lv_iload_n C.1.1 C.1.2.1 dX4_addStep_21 rfl (lv_at hl 1 rfl) ?_
    obtain ⟨hib, hf⟩ := zGd_el hf
    obtain ⟨oS_1, eoS_1, hf⟩ := zLet_el hf
    refine zIast (kX4 cI cB aS oS_1) C.1 hK hP hD hS 8 0 rfl rfl hib dX4_addStep_22 (by rw [eoS_1]; rfl) (fun H locs hP hD hS => ?_)
    refine lv_aload_n C.1.1 C.1.2.1 dX4_addStep_23 rfl (lv_at hl 0 rfl) ?_
    refine zGet (.ref (aS 9)) C.1 wuX4 hK hP 0 rfl rfl 12 (by decide) wfX4_49 rfl rfl dX4_addStep_24 ?_
    refine lv_aload_n C.1.1 C.1.2.1 dX4_addStep_27 rfl (lv_at hl 0 rfl) ?_
    refine zGet (.int (oS_1 2 0)) C.1 wuX4 hK hP 0 rfl rfl 2 (by decide) wfX4_18 rfl rfl dX4_addStep_28 ?_
    refine lv_iload_n C.1.1 C.1.2.1 dX4_addStep_31 rfl (lv_at hl 2 rfl) ?_
    obtain ⟨hib, hf⟩ := zGd_el hf
    obtain ⟨oS_2, eoS_2, hf⟩ := zLet_el hf
    refine zIast (kX4 cI cB aS oS_2) C.1 hK hP hD hS 9 0 rfl rfl hib dX4_addStep_32 (by rw [eoS_2]; rfl) (fun H locs hP hD hS => ?_)
    refine lv_aload_n C.1.1 C.1.2.1 dX4_addStep_33 rfl (lv_at hl 0 rfl) ?_
    refine lv_dup C.1.1 C.1.2.1 dX4_addStep_34 rfl ?_
    refine zGet (.int (oS_2 2 0)) C.1 wuX4 hK hP 0 rfl rfl 2 (by decide) wfX4_18 rfl rfl dX4_addStep_35 ?_
    refine lv_iconst (v := 1) C.1.1 C.1.2.1 dX4_addStep_38 (by decide) ?_
    refine lv_iadd C.1.1 C.1.2.1 dX4_addStep_39 ?_
    obtain ⟨oS_3, eoS_3, hf⟩ := zLet_el hf
    refine zPut (ty := .int) (kX4 cI cB aS oS_3) C.1 wuX4 tyX4 tyX4_ok nmX4 hK hP hD hS 0 rfl rfl 2 (by decide) wfX4_18 rfl rfl (by decide +kernel) rfl rfl (Nat.le_of_ble_eq_true rfl) dX4_addStep_40 (by rw [eoS_3]; rfl) (fun H locs hP hD hS => ?_)
    cases hf
    rw [← hQ]
    exact zRv C hK hP hD hS dX4_addStep_43
  · replace hf := zIf_f hf hc
    cases hf
    rw [← hQ]
    exact zRv C hK hP hD hS dX4_addStep_12
