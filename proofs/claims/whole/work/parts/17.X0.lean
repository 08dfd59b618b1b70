theorem dX0_init_0 : decode cX0_init 0 = .ok (.aload_n 0, 1) := by decide +kernel
theorem dX0_init_1 : decode cX0_init 1 = .ok (.invokespecial 5, 3) := by decide +kernel
theorem dX0_init_4 : decode cX0_init 4 = .ok (.aload_n 0, 1) := by decide +kernel
theorem dX0_init_5 : decode cX0_init 5 = .ok (.bipush 13, 2) := by decide +kernel
theorem dX0_init_7 : decode cX0_init 7 = .ok (.newarray .int, 2) := by decide +kernel
theorem dX0_init_9 : decode cX0_init 9 = .ok (.putfield 11, 3) := by decide +kernel
theorem dX0_init_12 : decode cX0_init 12 = .ok (.aload_n 0, 1) := by decide +kernel
theorem dX0_init_13 : decode cX0_init 13 = .ok (.iconst 0, 1) := by decide +kernel
theorem dX0_init_14 : decode cX0_init 14 = .ok (.putfield 15, 3) := by decide +kernel
theorem dX0_init_17 : decode cX0_init 17 = .ok (.aload_n 0, 1) := by decide +kernel
theorem dX0_init_18 : decode cX0_init 18 = .ok (.iconst 0, 1) := by decide +kernel
theorem dX0_init_19 : decode cX0_init 19 = .ok (.putfield 19, 3) := by decide +kernel
theorem dX0_init_22 : decode cX0_init 22 = .ok (.aload_n 0, 1) := by decide +kernel
theorem dX0_init_23 : decode cX0_init 23 = .ok (.iconst 0, 1) := by decide +kernel
theorem dX0_init_24 : decode cX0_init 24 = .ok (.putfield 22, 3) := by decide +kernel
theorem dX0_init_27 : decode cX0_init 27 = .ok (.aload_n 0, 1) := by decide +kernel
theorem dX0_init_28 : decode cX0_init 28 = .ok (.iconst 0, 1) := by decide +kernel
theorem dX0_init_29 : decode cX0_init 29 = .ok (.putfield 25, 3) := by decide +kernel
theorem dX0_init_32 : decode cX0_init 32 = .ok (.aload_n 0, 1) := by decide +kernel
theorem dX0_init_33 : decode cX0_init 33 = .ok (.iconst 0, 1) := by decide +kernel
theorem dX0_init_34 : decode cX0_init 34 = .ok (.putfield 28, 3) := by decide +kernel
theorem dX0_init_37 : decode cX0_init 37 = .ok (.aload_n 0, 1) := by decide +kernel
theorem dX0_init_38 : decode cX0_init 38 = .ok (.sipush 4096, 3) := by decide +kernel
theorem dX0_init_41 : decode cX0_init 41 = .ok (.newarray .int, 2) := by decide +kernel
theorem dX0_init_43 : decode cX0_init 43 = .ok (.putfield 32, 3) := by decide +kernel
theorem dX0_init_46 : decode cX0_init 46 = .ok (.aload_n 0, 1) := by decide +kernel
theorem dX0_init_47 : decode cX0_init 47 = .ok (.iconst 0, 1) := by decide +kernel
theorem dX0_init_48 : decode cX0_init 48 = .ok (.putfield 35, 3) := by decide +kernel
theorem dX0_init_51 : decode cX0_init 51 = .ok (.aload_n 0, 1) := by decide +kernel
theorem dX0_init_52 : decode cX0_init 52 = .ok (.sipush 4096, 3) := by decide +kernel
theorem dX0_init_55 : decode cX0_init 55 = .ok (.newarray .int, 2) := by decide +kernel
theorem dX0_init_57 : decode cX0_init 57 = .ok (.putfield 38, 3) := by decide +kernel
theorem dX0_init_60 : decode cX0_init 60 = .ok (.aload_n 0, 1) := by decide +kernel
theorem dX0_init_61 : decode cX0_init 61 = .ok (.sipush 4096, 3) := by decide +kernel
theorem dX0_init_64 : decode cX0_init 64 = .ok (.newarray .int, 2) := by decide +kernel
theorem dX0_init_66 : decode cX0_init 66 = .ok (.putfield 41, 3) := by decide +kernel
theorem dX0_init_69 : decode cX0_init 69 = .ok (.aload_n 0, 1) := by decide +kernel
theorem dX0_init_70 : decode cX0_init 70 = .ok (.sipush 4096, 3) := by decide +kernel
theorem dX0_init_73 : decode cX0_init 73 = .ok (.newarray .int, 2) := by decide +kernel
theorem dX0_init_75 : decode cX0_init 75 = .ok (.putfield 44, 3) := by decide +kernel
theorem dX0_init_78 : decode cX0_init 78 = .ok (.return_, 1) := by decide +kernel
theorem dX0_follow_0 : decode cX0_follow 0 = .ok (.aload_n 0, 1) := by decide +kernel
theorem dX0_follow_1 : decode cX0_follow 1 = .ok (.iconst 0, 1) := by decide +kernel
theorem dX0_follow_2 : decode cX0_follow 2 = .ok (.putfield 15, 3) := by decide +kernel
theorem dX0_follow_5 : decode cX0_follow 5 = .ok (.aload_n 0, 1) := by decide +kernel
theorem dX0_follow_6 : decode cX0_follow 6 = .ok (.iconst 0, 1) := by decide +kernel
theorem dX0_follow_7 : decode cX0_follow 7 = .ok (.putfield 19, 3) := by decide +kernel
theorem dX0_follow_10 : decode cX0_follow 10 = .ok (.aload_n 0, 1) := by decide +kernel
theorem dX0_follow_11 : decode cX0_follow 11 = .ok (.iconst 0, 1) := by decide +kernel
theorem dX0_follow_12 : decode cX0_follow 12 = .ok (.putfield 22, 3) := by decide +kernel
theorem dX0_follow_15 : decode cX0_follow 15 = .ok (.aload_n 0, 1) := by decide +kernel
theorem dX0_follow_16 : decode cX0_follow 16 = .ok (.iconst 0, 1) := by decide +kernel
theorem dX0_follow_17 : decode cX0_follow 17 = .ok (.putfield 25, 3) := by decide +kernel
theorem dX0_follow_20 : decode cX0_follow 20 = .ok (.ldc 47, 2) := by decide +kernel
theorem dX0_follow_22 : decode cX0_follow 22 = .ok (.istore 4, 2) := by decide +kernel
theorem dX0_follow_24 : decode cX0_follow 24 = .ok (.iconst 0, 1) := by decide +kernel
theorem dX0_follow_25 : decode cX0_follow 25 = .ok (.istore 5, 2) := by decide +kernel
theorem dX0_follow_27 : decode cX0_follow 27 = .ok (.iload 5, 2) := by decide +kernel
theorem dX0_follow_29 : decode cX0_follow 29 = .ok (.iload_n 2, 1) := by decide +kernel
theorem dX0_follow_30 : decode cX0_follow 30 = .ok (.if_icmp .ge 83, 3) := by decide +kernel
theorem dX0_follow_33 : decode cX0_follow 33 = .ok (.iload_n 3, 1) := by decide +kernel
theorem dX0_follow_34 : decode cX0_follow 34 = .ok (.iload 5, 2) := by decide +kernel
theorem dX0_follow_36 : decode cX0_follow 36 = .ok (.ishr, 1) := by decide +kernel
theorem dX0_follow_37 : decode cX0_follow 37 = .ok (.iconst 1, 1) := by decide +kernel
theorem dX0_follow_38 : decode cX0_follow 38 = .ok (.iand, 1) := by decide +kernel
theorem dX0_follow_39 : decode cX0_follow 39 = .ok (.istore 6, 2) := by decide +kernel
theorem dX0_follow_41 : decode cX0_follow 41 = .ok (.aload_n 0, 1) := by decide +kernel
theorem dX0_follow_42 : decode cX0_follow 42 = .ok (.iload 5, 2) := by decide +kernel
theorem dX0_follow_44 : decode cX0_follow 44 = .ok (.iload 4, 2) := by decide +kernel
theorem dX0_follow_46 : decode cX0_follow 46 = .ok (.aload_n 1, 1) := by decide +kernel
theorem dX0_follow_47 : decode cX0_follow 47 = .ok (.getfield 48, 3) := by decide +kernel
theorem dX0_follow_50 : decode cX0_follow 50 = .ok (.iload 5, 2) := by decide +kernel
theorem dX0_follow_52 : decode cX0_follow 52 = .ok (.iaload, 1) := by decide +kernel
theorem dX0_follow_53 : decode cX0_follow 53 = .ok (.iload 6, 2) := by decide +kernel
theorem dX0_follow_55 : decode cX0_follow 55 = .ok (.invokestatic 53, 3) := by decide +kernel
theorem dX0_follow_58 : decode cX0_follow 58 = .ok (.invokevirtual 57, 3) := by decide +kernel
theorem dX0_follow_61 : decode cX0_follow 61 = .ok (.iload 4, 2) := by decide +kernel
theorem dX0_follow_63 : decode cX0_follow 63 = .ok (.aload_n 1, 1) := by decide +kernel
theorem dX0_follow_64 : decode cX0_follow 64 = .ok (.iload 5, 2) := by decide +kernel
theorem dX0_follow_66 : decode cX0_follow 66 = .ok (.iload 6, 2) := by decide +kernel
theorem dX0_follow_68 : decode cX0_follow 68 = .ok (.invokestatic 61, 3) := by decide +kernel
theorem dX0_follow_71 : decode cX0_follow 71 = .ok (.istore 4, 2) := by decide +kernel
theorem dX0_follow_73 : decode cX0_follow 73 = .ok (.aload_n 0, 1) := by decide +kernel
theorem dX0_follow_74 : decode cX0_follow 74 = .ok (.dup, 1) := by decide +kernel
theorem dX0_follow_75 : decode cX0_follow 75 = .ok (.getfield 15, 3) := by decide +kernel
theorem dX0_follow_78 : decode cX0_follow 78 = .ok (.aload_n 1, 1) := by decide +kernel
theorem dX0_follow_79 : decode cX0_follow 79 = .ok (.iload 5, 2) := by decide +kernel
theorem dX0_follow_81 : decode cX0_follow 81 = .ok (.iload 6, 2) := by decide +kernel
theorem dX0_follow_83 : decode cX0_follow 83 = .ok (.invokestatic 65, 3) := by decide +kernel
theorem dX0_follow_86 : decode cX0_follow 86 = .ok (.iadd, 1) := by decide +kernel
theorem dX0_follow_87 : decode cX0_follow 87 = .ok (.putfield 15, 3) := by decide +kernel
theorem dX0_follow_90 : decode cX0_follow 90 = .ok (.aload_n 0, 1) := by decide +kernel
theorem dX0_follow_91 : decode cX0_follow 91 = .ok (.dup, 1) := by decide +kernel
theorem dX0_follow_92 : decode cX0_follow 92 = .ok (.getfield 19, 3) := by decide +kernel
theorem dX0_follow_95 : decode cX0_follow 95 = .ok (.aload_n 1, 1) := by decide +kernel
theorem dX0_follow_96 : decode cX0_follow 96 = .ok (.iload 5, 2) := by decide +kernel
theorem dX0_follow_98 : decode cX0_follow 98 = .ok (.iload 6, 2) := by decide +kernel
theorem dX0_follow_100 : decode cX0_follow 100 = .ok (.invokestatic 69, 3) := by decide +kernel
theorem dX0_follow_103 : decode cX0_follow 103 = .ok (.iadd, 1) := by decide +kernel
theorem dX0_follow_104 : decode cX0_follow 104 = .ok (.putfield 19, 3) := by decide +kernel
theorem dX0_follow_107 : decode cX0_follow 107 = .ok (.iinc 5 1, 3) := by decide +kernel
theorem dX0_follow_110 : decode cX0_follow 110 = .ok (.goto (-83), 3) := by decide +kernel
theorem dX0_follow_113 : decode cX0_follow 113 = .ok (.aload_n 0, 1) := by decide +kernel
theorem dX0_follow_114 : decode cX0_follow 114 = .ok (.iload_n 2, 1) := by decide +kernel
theorem dX0_follow_115 : decode cX0_follow 115 = .ok (.iload 4, 2) := by decide +kernel
theorem dX0_follow_117 : decode cX0_follow 117 = .ok (.sipush 255, 3) := by decide +kernel
theorem dX0_follow_120 : decode cX0_follow 120 = .ok (.iconst 0, 1) := by decide +kernel
theorem dX0_follow_121 : decode cX0_follow 121 = .ok (.invokestatic 53, 3) := by decide +kernel
theorem dX0_follow_124 : decode cX0_follow 124 = .ok (.invokevirtual 57, 3) := by decide +kernel
theorem dX0_follow_127 : decode cX0_follow 127 = .ok (.return_, 1) := by decide +kernel
theorem dX0_note_0 : decode cX0_note 0 = .ok (.aload_n 0, 1) := by decide +kernel
theorem dX0_note_1 : decode cX0_note 1 = .ok (.getfield 11, 3) := by decide +kernel
theorem dX0_note_4 : decode cX0_note 4 = .ok (.iload_n 1, 1) := by decide +kernel
theorem dX0_note_5 : decode cX0_note 5 = .ok (.iload_n 2, 1) := by decide +kernel
theorem dX0_note_6 : decode cX0_note 6 = .ok (.iastore, 1) := by decide +kernel
theorem dX0_note_7 : decode cX0_note 7 = .ok (.aload_n 0, 1) := by decide +kernel
theorem dX0_note_8 : decode cX0_note 8 = .ok (.dup, 1) := by decide +kernel
theorem dX0_note_9 : decode cX0_note 9 = .ok (.getfield 22, 3) := by decide +kernel
theorem dX0_note_12 : decode cX0_note 12 = .ok (.iload_n 2, 1) := by decide +kernel
theorem dX0_note_13 : decode cX0_note 13 = .ok (.invokestatic 72, 3) := by decide +kernel
theorem dX0_note_16 : decode cX0_note 16 = .ok (.iadd, 1) := by decide +kernel
theorem dX0_note_17 : decode cX0_note 17 = .ok (.putfield 22, 3) := by decide +kernel
theorem dX0_note_20 : decode cX0_note 20 = .ok (.aload_n 0, 1) := by decide +kernel
theorem dX0_note_21 : decode cX0_note 21 = .ok (.aload_n 0, 1) := by decide +kernel
theorem dX0_note_22 : decode cX0_note 22 = .ok (.getfield 25, 3) := by decide +kernel
theorem dX0_note_25 : decode cX0_note 25 = .ok (.iload_n 2, 1) := by decide +kernel
theorem dX0_note_26 : decode cX0_note 26 = .ok (.invokestatic 72, 3) := by decide +kernel
theorem dX0_note_29 : decode cX0_note 29 = .ok (.invokestatic 78, 3) := by decide +kernel
theorem dX0_note_32 : decode cX0_note 32 = .ok (.putfield 25, 3) := by decide +kernel
theorem dX0_note_35 : decode cX0_note 35 = .ok (.return_, 1) := by decide +kernel
theorem dX0_lacking_0 : decode cX0_lacking 0 = .ok (.iload_n 1, 1) := by decide +kernel
theorem dX0_lacking_1 : decode cX0_lacking 1 = .ok (.iload_n 0, 1) := by decide +kernel
theorem dX0_lacking_2 : decode cX0_lacking 2 = .ok (.iload_n 2, 1) := by decide +kernel
theorem dX0_lacking_3 : decode cX0_lacking 3 = .ok (.bipush 8, 2) := by decide +kernel
theorem dX0_lacking_5 : decode cX0_lacking 5 = .ok (.imul, 1) := by decide +kernel
theorem dX0_lacking_6 : decode cX0_lacking 6 = .ok (.ishr, 1) := by decide +kernel
theorem dX0_lacking_7 : decode cX0_lacking 7 = .ok (.iconst (-1), 1) := by decide +kernel
theorem dX0_lacking_8 : decode cX0_lacking 8 = .ok (.ixor, 1) := by decide +kernel
theorem dX0_lacking_9 : decode cX0_lacking 9 = .ok (.iand, 1) := by decide +kernel
theorem dX0_lacking_10 : decode cX0_lacking 10 = .ok (.sipush 255, 3) := by decide +kernel
theorem dX0_lacking_13 : decode cX0_lacking 13 = .ok (.iand, 1) := by decide +kernel
theorem dX0_lacking_14 : decode cX0_lacking 14 = .ok (.ireturn, 1) := by decide +kernel
theorem dX0_freshBehind_0 : decode cX0_freshBehind 0 = .ok (.iload_n 0, 1) := by decide +kernel
theorem dX0_freshBehind_1 : decode cX0_freshBehind 1 = .ok (.iload_n 0, 1) := by decide +kernel
theorem dX0_freshBehind_2 : decode cX0_freshBehind 2 = .ok (.aload_n 1, 1) := by decide +kernel
theorem dX0_freshBehind_3 : decode cX0_freshBehind 3 = .ok (.getfield 48, 3) := by decide +kernel
theorem dX0_freshBehind_6 : decode cX0_freshBehind 6 = .ok (.iload_n 2, 1) := by decide +kernel
theorem dX0_freshBehind_7 : decode cX0_freshBehind 7 = .ok (.iaload, 1) := by decide +kernel
theorem dX0_freshBehind_8 : decode cX0_freshBehind 8 = .ok (.iload_n 3, 1) := by decide +kernel
theorem dX0_freshBehind_9 : decode cX0_freshBehind 9 = .ok (.invokestatic 53, 3) := by decide +kernel
theorem dX0_freshBehind_12 : decode cX0_freshBehind 12 = .ok (.sipush 257, 3) := by decide +kernel
theorem dX0_freshBehind_15 : decode cX0_freshBehind 15 = .ok (.imul, 1) := by decide +kernel
theorem dX0_freshBehind_16 : decode cX0_freshBehind 16 = .ok (.ior, 1) := by decide +kernel
theorem dX0_freshBehind_17 : decode cX0_freshBehind 17 = .ok (.istore 4, 2) := by decide +kernel
theorem dX0_freshBehind_19 : decode cX0_freshBehind 19 = .ok (.iload 4, 2) := by decide +kernel
theorem dX0_freshBehind_21 : decode cX0_freshBehind 21 = .ok (.aload_n 1, 1) := by decide +kernel
theorem dX0_freshBehind_22 : decode cX0_freshBehind 22 = .ok (.getfield 84, 3) := by decide +kernel
theorem dX0_freshBehind_25 : decode cX0_freshBehind 25 = .ok (.iload_n 2, 1) := by decide +kernel
theorem dX0_freshBehind_26 : decode cX0_freshBehind 26 = .ok (.iaload, 1) := by decide +kernel
theorem dX0_freshBehind_27 : decode cX0_freshBehind 27 = .ok (.sipush 257, 3) := by decide +kernel
theorem dX0_freshBehind_30 : decode cX0_freshBehind 30 = .ok (.imul, 1) := by decide +kernel
theorem dX0_freshBehind_31 : decode cX0_freshBehind 31 = .ok (.iconst (-1), 1) := by decide +kernel
theorem dX0_freshBehind_32 : decode cX0_freshBehind 32 = .ok (.ixor, 1) := by decide +kernel
theorem dX0_freshBehind_33 : decode cX0_freshBehind 33 = .ok (.iand, 1) := by decide +kernel
theorem dX0_freshBehind_34 : decode cX0_freshBehind 34 = .ok (.aload_n 1, 1) := by decide +kernel
theorem dX0_freshBehind_35 : decode cX0_freshBehind 35 = .ok (.getfield 84, 3) := by decide +kernel
theorem dX0_freshBehind_38 : decode cX0_freshBehind 38 = .ok (.iload_n 2, 1) := by decide +kernel
theorem dX0_freshBehind_39 : decode cX0_freshBehind 39 = .ok (.iaload, 1) := by decide +kernel
theorem dX0_freshBehind_40 : decode cX0_freshBehind 40 = .ok (.iload_n 3, 1) := by decide +kernel
theorem dX0_freshBehind_41 : decode cX0_freshBehind 41 = .ok (.bipush 8, 2) := by decide +kernel
theorem dX0_freshBehind_43 : decode cX0_freshBehind 43 = .ok (.imul, 1) := by decide +kernel
theorem dX0_freshBehind_44 : decode cX0_freshBehind 44 = .ok (.ishl, 1) := by decide +kernel
theorem dX0_freshBehind_45 : decode cX0_freshBehind 45 = .ok (.ior, 1) := by decide +kernel
theorem dX0_freshBehind_46 : decode cX0_freshBehind 46 = .ok (.ireturn, 1) := by decide +kernel
theorem dX0_ticksOn_0 : decode cX0_ticksOn 0 = .ok (.iload_n 2, 1) := by decide +kernel
theorem dX0_ticksOn_1 : decode cX0_ticksOn 1 = .ok (.iconst 1, 1) := by decide +kernel
theorem dX0_ticksOn_2 : decode cX0_ticksOn 2 = .ok (.if_icmp .ne 12, 3) := by decide +kernel
theorem dX0_ticksOn_5 : decode cX0_ticksOn 5 = .ok (.aload_n 0, 1) := by decide +kernel
theorem dX0_ticksOn_6 : decode cX0_ticksOn 6 = .ok (.getfield 87, 3) := by decide +kernel
theorem dX0_ticksOn_9 : decode cX0_ticksOn 9 = .ok (.iload_n 1, 1) := by decide +kernel
theorem dX0_ticksOn_10 : decode cX0_ticksOn 10 = .ok (.iaload, 1) := by decide +kernel
theorem dX0_ticksOn_11 : decode cX0_ticksOn 11 = .ok (.goto 9, 3) := by decide +kernel
theorem dX0_ticksOn_14 : decode cX0_ticksOn 14 = .ok (.aload_n 0, 1) := by decide +kernel
theorem dX0_ticksOn_15 : decode cX0_ticksOn 15 = .ok (.getfield 90, 3) := by decide +kernel
theorem dX0_ticksOn_18 : decode cX0_ticksOn 18 = .ok (.iload_n 1, 1) := by decide +kernel
theorem dX0_ticksOn_19 : decode cX0_ticksOn 19 = .ok (.iaload, 1) := by decide +kernel
theorem dX0_ticksOn_20 : decode cX0_ticksOn 20 = .ok (.ireturn, 1) := by decide +kernel
theorem dX0_gatesOn_0 : decode cX0_gatesOn 0 = .ok (.iload_n 2, 1) := by decide +kernel
theorem dX0_gatesOn_1 : decode cX0_gatesOn 1 = .ok (.iconst 1, 1) := by decide +kernel
theorem dX0_gatesOn_2 : decode cX0_gatesOn 2 = .ok (.if_icmp .ne 12, 3) := by decide +kernel
theorem dX0_gatesOn_5 : decode cX0_gatesOn 5 = .ok (.aload_n 0, 1) := by decide +kernel
theorem dX0_gatesOn_6 : decode cX0_gatesOn 6 = .ok (.getfield 93, 3) := by decide +kernel
theorem dX0_gatesOn_9 : decode cX0_gatesOn 9 = .ok (.iload_n 1, 1) := by decide +kernel
theorem dX0_gatesOn_10 : decode cX0_gatesOn 10 = .ok (.iaload, 1) := by decide +kernel
theorem dX0_gatesOn_11 : decode cX0_gatesOn 11 = .ok (.goto 4, 3) := by decide +kernel
theorem dX0_gatesOn_14 : decode cX0_gatesOn 14 = .ok (.iconst 0, 1) := by decide +kernel
theorem dX0_gatesOn_15 : decode cX0_gatesOn 15 = .ok (.ireturn, 1) := by decide +kernel
theorem dX0_prepare_0 : decode cX0_prepare 0 = .ok (.aload_n 0, 1) := by decide +kernel
theorem dX0_prepare_1 : decode cX0_prepare 1 = .ok (.getfield 28, 3) := by decide +kernel
theorem dX0_prepare_4 : decode cX0_prepare 4 = .ok (.ifCond .eq 4, 3) := by decide +kernel
theorem dX0_prepare_7 : decode cX0_prepare 7 = .ok (.return_, 1) := by decide +kernel
theorem dX0_prepare_8 : decode cX0_prepare 8 = .ok (.aload_n 0, 1) := by decide +kernel
theorem dX0_prepare_9 : decode cX0_prepare 9 = .ok (.aload_n 1, 1) := by decide +kernel
theorem dX0_prepare_10 : decode cX0_prepare 10 = .ok (.iload_n 2, 1) := by decide +kernel
theorem dX0_prepare_11 : decode cX0_prepare 11 = .ok (.iload_n 3, 1) := by decide +kernel
theorem dX0_prepare_12 : decode cX0_prepare 12 = .ok (.invokevirtual 95, 3) := by decide +kernel
theorem dX0_prepare_15 : decode cX0_prepare 15 = .ok (.aload_n 0, 1) := by decide +kernel
theorem dX0_prepare_16 : decode cX0_prepare 16 = .ok (.iconst 0, 1) := by decide +kernel
theorem dX0_prepare_17 : decode cX0_prepare 17 = .ok (.putfield 35, 3) := by decide +kernel
theorem dX0_prepare_20 : decode cX0_prepare 20 = .ok (.iconst 0, 1) := by decide +kernel
theorem dX0_prepare_21 : decode cX0_prepare 21 = .ok (.istore 4, 2) := by decide +kernel
theorem dX0_prepare_23 : decode cX0_prepare 23 = .ok (.iload 4, 2) := by decide +kernel
theorem dX0_prepare_25 : decode cX0_prepare 25 = .ok (.iconst 1, 1) := by decide +kernel
theorem dX0_prepare_26 : decode cX0_prepare 26 = .ok (.iload_n 2, 1) := by decide +kernel
theorem dX0_prepare_27 : decode cX0_prepare 27 = .ok (.ishl, 1) := by decide +kernel
theorem dX0_prepare_28 : decode cX0_prepare 28 = .ok (.if_icmp .ge 15, 3) := by decide +kernel
theorem dX0_prepare_31 : decode cX0_prepare 31 = .ok (.aload_n 0, 1) := by decide +kernel
theorem dX0_prepare_32 : decode cX0_prepare 32 = .ok (.iload 4, 2) := by decide +kernel
theorem dX0_prepare_34 : decode cX0_prepare 34 = .ok (.invokevirtual 99, 3) := by decide +kernel
theorem dX0_prepare_37 : decode cX0_prepare 37 = .ok (.iinc 4 1, 3) := by decide +kernel
theorem dX0_prepare_40 : decode cX0_prepare 40 = .ok (.goto (-17), 3) := by decide +kernel
theorem dX0_prepare_43 : decode cX0_prepare 43 = .ok (.aload_n 0, 1) := by decide +kernel
theorem dX0_prepare_44 : decode cX0_prepare 44 = .ok (.iconst 1, 1) := by decide +kernel
theorem dX0_prepare_45 : decode cX0_prepare 45 = .ok (.putfield 28, 3) := by decide +kernel
theorem dX0_prepare_48 : decode cX0_prepare 48 = .ok (.return_, 1) := by decide +kernel
theorem dX0_reckonAll_0 : decode cX0_reckonAll 0 = .ok (.aload_n 0, 1) := by decide +kernel
theorem dX0_reckonAll_1 : decode cX0_reckonAll 1 = .ok (.getfield 38, 3) := by decide +kernel
theorem dX0_reckonAll_4 : decode cX0_reckonAll 4 = .ok (.iconst 0, 1) := by decide +kernel
theorem dX0_reckonAll_5 : decode cX0_reckonAll 5 = .ok (.ldc 47, 2) := by decide +kernel
theorem dX0_reckonAll_7 : decode cX0_reckonAll 7 = .ok (.iastore, 1) := by decide +kernel
theorem dX0_reckonAll_8 : decode cX0_reckonAll 8 = .ok (.aload_n 0, 1) := by decide +kernel
theorem dX0_reckonAll_9 : decode cX0_reckonAll 9 = .ok (.getfield 41, 3) := by decide +kernel
theorem dX0_reckonAll_12 : decode cX0_reckonAll 12 = .ok (.iconst 0, 1) := by decide +kernel
theorem dX0_reckonAll_13 : decode cX0_reckonAll 13 = .ok (.iconst 0, 1) := by decide +kernel
theorem dX0_reckonAll_14 : decode cX0_reckonAll 14 = .ok (.iastore, 1) := by decide +kernel
theorem dX0_reckonAll_15 : decode cX0_reckonAll 15 = .ok (.aload_n 0, 1) := by decide +kernel
theorem dX0_reckonAll_16 : decode cX0_reckonAll 16 = .ok (.getfield 44, 3) := by decide +kernel
theorem dX0_reckonAll_19 : decode cX0_reckonAll 19 = .ok (.iconst 0, 1) := by decide +kernel
theorem dX0_reckonAll_20 : decode cX0_reckonAll 20 = .ok (.iconst 0, 1) := by decide +kernel
theorem dX0_reckonAll_21 : decode cX0_reckonAll 21 = .ok (.iastore, 1) := by decide +kernel
theorem dX0_reckonAll_22 : decode cX0_reckonAll 22 = .ok (.iconst 0, 1) := by decide +kernel
theorem dX0_reckonAll_23 : decode cX0_reckonAll 23 = .ok (.istore 4, 2) := by decide +kernel
theorem dX0_reckonAll_25 : decode cX0_reckonAll 25 = .ok (.iload 4, 2) := by decide +kernel
theorem dX0_reckonAll_27 : decode cX0_reckonAll 27 = .ok (.iload_n 2, 1) := by decide +kernel
theorem dX0_reckonAll_28 : decode cX0_reckonAll 28 = .ok (.if_icmp .ge 49, 3) := by decide +kernel
theorem dX0_reckonAll_31 : decode cX0_reckonAll 31 = .ok (.iconst 0, 1) := by decide +kernel
theorem dX0_reckonAll_32 : decode cX0_reckonAll 32 = .ok (.istore 5, 2) := by decide +kernel
theorem dX0_reckonAll_34 : decode cX0_reckonAll 34 = .ok (.iload 5, 2) := by decide +kernel
theorem dX0_reckonAll_36 : decode cX0_reckonAll 36 = .ok (.iconst 1, 1) := by decide +kernel
theorem dX0_reckonAll_37 : decode cX0_reckonAll 37 = .ok (.iload 4, 2) := by decide +kernel
theorem dX0_reckonAll_39 : decode cX0_reckonAll 39 = .ok (.ishl, 1) := by decide +kernel
theorem dX0_reckonAll_40 : decode cX0_reckonAll 40 = .ok (.if_icmp .ge 31, 3) := by decide +kernel
theorem dX0_reckonAll_43 : decode cX0_reckonAll 43 = .ok (.aload_n 0, 1) := by decide +kernel
theorem dX0_reckonAll_44 : decode cX0_reckonAll 44 = .ok (.aload_n 1, 1) := by decide +kernel
theorem dX0_reckonAll_45 : decode cX0_reckonAll 45 = .ok (.iload 4, 2) := by decide +kernel
theorem dX0_reckonAll_47 : decode cX0_reckonAll 47 = .ok (.iload 5, 2) := by decide +kernel
theorem dX0_reckonAll_49 : decode cX0_reckonAll 49 = .ok (.iconst 1, 1) := by decide +kernel
theorem dX0_reckonAll_50 : decode cX0_reckonAll 50 = .ok (.iload_n 3, 1) := by decide +kernel
theorem dX0_reckonAll_51 : decode cX0_reckonAll 51 = .ok (.invokevirtual 103, 3) := by decide +kernel
theorem dX0_reckonAll_54 : decode cX0_reckonAll 54 = .ok (.aload_n 0, 1) := by decide +kernel
theorem dX0_reckonAll_55 : decode cX0_reckonAll 55 = .ok (.aload_n 1, 1) := by decide +kernel
theorem dX0_reckonAll_56 : decode cX0_reckonAll 56 = .ok (.iload 4, 2) := by decide +kernel
theorem dX0_reckonAll_58 : decode cX0_reckonAll 58 = .ok (.iload 5, 2) := by decide +kernel
theorem dX0_reckonAll_60 : decode cX0_reckonAll 60 = .ok (.iconst 0, 1) := by decide +kernel
theorem dX0_reckonAll_61 : decode cX0_reckonAll 61 = .ok (.iload_n 3, 1) := by decide +kernel
theorem dX0_reckonAll_62 : decode cX0_reckonAll 62 = .ok (.invokevirtual 103, 3) := by decide +kernel
theorem dX0_reckonAll_65 : decode cX0_reckonAll 65 = .ok (.iinc 5 1, 3) := by decide +kernel
theorem dX0_reckonAll_68 : decode cX0_reckonAll 68 = .ok (.goto (-34), 3) := by decide +kernel
theorem dX0_reckonAll_71 : decode cX0_reckonAll 71 = .ok (.iinc 4 1, 3) := by decide +kernel
theorem dX0_reckonAll_74 : decode cX0_reckonAll 74 = .ok (.goto (-49), 3) := by decide +kernel
theorem dX0_reckonAll_77 : decode cX0_reckonAll 77 = .ok (.iconst 0, 1) := by decide +kernel
theorem dX0_reckonAll_78 : decode cX0_reckonAll 78 = .ok (.istore 4, 2) := by decide +kernel
theorem dX0_reckonAll_80 : decode cX0_reckonAll 80 = .ok (.iload 4, 2) := by decide +kernel
theorem dX0_reckonAll_82 : decode cX0_reckonAll 82 = .ok (.iconst 1, 1) := by decide +kernel
theorem dX0_reckonAll_83 : decode cX0_reckonAll 83 = .ok (.iload_n 2, 1) := by decide +kernel
theorem dX0_reckonAll_84 : decode cX0_reckonAll 84 = .ok (.ishl, 1) := by decide +kernel
theorem dX0_reckonAll_85 : decode cX0_reckonAll 85 = .ok (.if_icmp .ge 38, 3) := by decide +kernel
theorem dX0_reckonAll_88 : decode cX0_reckonAll 88 = .ok (.aload_n 0, 1) := by decide +kernel
theorem dX0_reckonAll_89 : decode cX0_reckonAll 89 = .ok (.getfield 41, 3) := by decide +kernel
theorem dX0_reckonAll_92 : decode cX0_reckonAll 92 = .ok (.iload 4, 2) := by decide +kernel
theorem dX0_reckonAll_94 : decode cX0_reckonAll 94 = .ok (.dup2, 1) := by decide +kernel
theorem dX0_reckonAll_95 : decode cX0_reckonAll 95 = .ok (.iaload, 1) := by decide +kernel
theorem dX0_reckonAll_96 : decode cX0_reckonAll 96 = .ok (.iload_n 3, 1) := by decide +kernel
theorem dX0_reckonAll_97 : decode cX0_reckonAll 97 = .ok (.aload_n 0, 1) := by decide +kernel
theorem dX0_reckonAll_98 : decode cX0_reckonAll 98 = .ok (.getfield 38, 3) := by decide +kernel
theorem dX0_reckonAll_101 : decode cX0_reckonAll 101 = .ok (.iload 4, 2) := by decide +kernel
theorem dX0_reckonAll_103 : decode cX0_reckonAll 103 = .ok (.iaload, 1) := by decide +kernel
theorem dX0_reckonAll_104 : decode cX0_reckonAll 104 = .ok (.sipush 255, 3) := by decide +kernel
theorem dX0_reckonAll_107 : decode cX0_reckonAll 107 = .ok (.iconst 0, 1) := by decide +kernel
theorem dX0_reckonAll_108 : decode cX0_reckonAll 108 = .ok (.invokestatic 53, 3) := by decide +kernel
theorem dX0_reckonAll_111 : decode cX0_reckonAll 111 = .ok (.invokestatic 72, 3) := by decide +kernel
theorem dX0_reckonAll_114 : decode cX0_reckonAll 114 = .ok (.imul, 1) := by decide +kernel
theorem dX0_reckonAll_115 : decode cX0_reckonAll 115 = .ok (.iadd, 1) := by decide +kernel
theorem dX0_reckonAll_116 : decode cX0_reckonAll 116 = .ok (.iastore, 1) := by decide +kernel
theorem dX0_reckonAll_117 : decode cX0_reckonAll 117 = .ok (.iinc 4 1, 3) := by decide +kernel
theorem dX0_reckonAll_120 : decode cX0_reckonAll 120 = .ok (.goto (-40), 3) := by decide +kernel
theorem dX0_reckonAll_123 : decode cX0_reckonAll 123 = .ok (.return_, 1) := by decide +kernel
theorem dX0_extend_0 : decode cX0_extend 0 = .ok (.iload_n 3, 1) := by decide +kernel
theorem dX0_extend_1 : decode cX0_extend 1 = .ok (.iload 4, 2) := by decide +kernel
theorem dX0_extend_3 : decode cX0_extend 3 = .ok (.iload_n 2, 1) := by decide +kernel
theorem dX0_extend_4 : decode cX0_extend 4 = .ok (.ishl, 1) := by decide +kernel
theorem dX0_extend_5 : decode cX0_extend 5 = .ok (.ior, 1) := by decide +kernel
theorem dX0_extend_6 : decode cX0_extend 6 = .ok (.istore 6, 2) := by decide +kernel
theorem dX0_extend_8 : decode cX0_extend 8 = .ok (.aload_n 0, 1) := by decide +kernel
theorem dX0_extend_9 : decode cX0_extend 9 = .ok (.getfield 38, 3) := by decide +kernel
theorem dX0_extend_12 : decode cX0_extend 12 = .ok (.iload_n 3, 1) := by decide +kernel
theorem dX0_extend_13 : decode cX0_extend 13 = .ok (.iaload, 1) := by decide +kernel
theorem dX0_extend_14 : decode cX0_extend 14 = .ok (.istore 7, 2) := by decide +kernel
theorem dX0_extend_16 : decode cX0_extend 16 = .ok (.iload 7, 2) := by decide +kernel
theorem dX0_extend_18 : decode cX0_extend 18 = .ok (.aload_n 1, 1) := by decide +kernel
theorem dX0_extend_19 : decode cX0_extend 19 = .ok (.getfield 48, 3) := by decide +kernel
theorem dX0_extend_22 : decode cX0_extend 22 = .ok (.iload_n 2, 1) := by decide +kernel
theorem dX0_extend_23 : decode cX0_extend 23 = .ok (.iaload, 1) := by decide +kernel
theorem dX0_extend_24 : decode cX0_extend 24 = .ok (.iload 4, 2) := by decide +kernel
theorem dX0_extend_26 : decode cX0_extend 26 = .ok (.invokestatic 53, 3) := by decide +kernel
theorem dX0_extend_29 : decode cX0_extend 29 = .ok (.istore 8, 2) := by decide +kernel
theorem dX0_extend_31 : decode cX0_extend 31 = .ok (.aload_n 0, 1) := by decide +kernel
theorem dX0_extend_32 : decode cX0_extend 32 = .ok (.getfield 41, 3) := by decide +kernel
theorem dX0_extend_35 : decode cX0_extend 35 = .ok (.iload 6, 2) := by decide +kernel
theorem dX0_extend_37 : decode cX0_extend 37 = .ok (.aload_n 0, 1) := by decide +kernel
theorem dX0_extend_38 : decode cX0_extend 38 = .ok (.getfield 41, 3) := by decide +kernel
theorem dX0_extend_41 : decode cX0_extend 41 = .ok (.iload_n 3, 1) := by decide +kernel
theorem dX0_extend_42 : decode cX0_extend 42 = .ok (.iaload, 1) := by decide +kernel
theorem dX0_extend_43 : decode cX0_extend 43 = .ok (.aload_n 1, 1) := by decide +kernel
theorem dX0_extend_44 : decode cX0_extend 44 = .ok (.iload_n 2, 1) := by decide +kernel
theorem dX0_extend_45 : decode cX0_extend 45 = .ok (.iload 4, 2) := by decide +kernel
theorem dX0_extend_47 : decode cX0_extend 47 = .ok (.invokestatic 65, 3) := by decide +kernel
theorem dX0_extend_50 : decode cX0_extend 50 = .ok (.iadd, 1) := by decide +kernel
theorem dX0_extend_51 : decode cX0_extend 51 = .ok (.iload 5, 2) := by decide +kernel
theorem dX0_extend_53 : decode cX0_extend 53 = .ok (.iload 8, 2) := by decide +kernel
theorem dX0_extend_55 : decode cX0_extend 55 = .ok (.invokestatic 72, 3) := by decide +kernel
theorem dX0_extend_58 : decode cX0_extend 58 = .ok (.imul, 1) := by decide +kernel
theorem dX0_extend_59 : decode cX0_extend 59 = .ok (.iadd, 1) := by decide +kernel
theorem dX0_extend_60 : decode cX0_extend 60 = .ok (.iastore, 1) := by decide +kernel
theorem dX0_extend_61 : decode cX0_extend 61 = .ok (.aload_n 0, 1) := by decide +kernel
theorem dX0_extend_62 : decode cX0_extend 62 = .ok (.getfield 44, 3) := by decide +kernel
theorem dX0_extend_65 : decode cX0_extend 65 = .ok (.iload 6, 2) := by decide +kernel
theorem dX0_extend_67 : decode cX0_extend 67 = .ok (.aload_n 0, 1) := by decide +kernel
theorem dX0_extend_68 : decode cX0_extend 68 = .ok (.getfield 44, 3) := by decide +kernel
theorem dX0_extend_71 : decode cX0_extend 71 = .ok (.iload_n 3, 1) := by decide +kernel
theorem dX0_extend_72 : decode cX0_extend 72 = .ok (.iaload, 1) := by decide +kernel
theorem dX0_extend_73 : decode cX0_extend 73 = .ok (.aload_n 1, 1) := by decide +kernel
theorem dX0_extend_74 : decode cX0_extend 74 = .ok (.iload_n 2, 1) := by decide +kernel
theorem dX0_extend_75 : decode cX0_extend 75 = .ok (.iload 4, 2) := by decide +kernel
theorem dX0_extend_77 : decode cX0_extend 77 = .ok (.invokestatic 69, 3) := by decide +kernel
theorem dX0_extend_80 : decode cX0_extend 80 = .ok (.iadd, 1) := by decide +kernel
theorem dX0_extend_81 : decode cX0_extend 81 = .ok (.iastore, 1) := by decide +kernel
theorem dX0_extend_82 : decode cX0_extend 82 = .ok (.aload_n 0, 1) := by decide +kernel
theorem dX0_extend_83 : decode cX0_extend 83 = .ok (.getfield 38, 3) := by decide +kernel
theorem dX0_extend_86 : decode cX0_extend 86 = .ok (.iload 6, 2) := by decide +kernel
theorem dX0_extend_88 : decode cX0_extend 88 = .ok (.iload 7, 2) := by decide +kernel
theorem dX0_extend_90 : decode cX0_extend 90 = .ok (.aload_n 1, 1) := by decide +kernel
theorem dX0_extend_91 : decode cX0_extend 91 = .ok (.iload_n 2, 1) := by decide +kernel
theorem dX0_extend_92 : decode cX0_extend 92 = .ok (.iload 4, 2) := by decide +kernel
theorem dX0_extend_94 : decode cX0_extend 94 = .ok (.invokestatic 61, 3) := by decide +kernel
theorem dX0_extend_97 : decode cX0_extend 97 = .ok (.iastore, 1) := by decide +kernel
theorem dX0_extend_98 : decode cX0_extend 98 = .ok (.return_, 1) := by decide +kernel
theorem dX0_offer_0 : decode cX0_offer 0 = .ok (.aload_n 0, 1) := by decide +kernel
theorem dX0_offer_1 : decode cX0_offer 1 = .ok (.aload_n 0, 1) := by decide +kernel
theorem dX0_offer_2 : decode cX0_offer 2 = .ok (.getfield 44, 3) := by decide +kernel
theorem dX0_offer_5 : decode cX0_offer 5 = .ok (.iload_n 1, 1) := by decide +kernel
theorem dX0_offer_6 : decode cX0_offer 6 = .ok (.iaload, 1) := by decide +kernel
theorem dX0_offer_7 : decode cX0_offer 7 = .ok (.invokevirtual 107, 3) := by decide +kernel
theorem dX0_offer_10 : decode cX0_offer 10 = .ok (.istore_n 2, 1) := by decide +kernel
theorem dX0_offer_11 : decode cX0_offer 11 = .ok (.iload_n 2, 1) := by decide +kernel
theorem dX0_offer_12 : decode cX0_offer 12 = .ok (.ifCond .le 26, 3) := by decide +kernel
theorem dX0_offer_15 : decode cX0_offer 15 = .ok (.aload_n 0, 1) := by decide +kernel
theorem dX0_offer_16 : decode cX0_offer 16 = .ok (.getfield 41, 3) := by decide +kernel
theorem dX0_offer_19 : decode cX0_offer 19 = .ok (.aload_n 0, 1) := by decide +kernel
theorem dX0_offer_20 : decode cX0_offer 20 = .ok (.getfield 32, 3) := by decide +kernel
theorem dX0_offer_23 : decode cX0_offer 23 = .ok (.iload_n 2, 1) := by decide +kernel
theorem dX0_offer_24 : decode cX0_offer 24 = .ok (.iconst 1, 1) := by decide +kernel
theorem dX0_offer_25 : decode cX0_offer 25 = .ok (.isub, 1) := by decide +kernel
theorem dX0_offer_26 : decode cX0_offer 26 = .ok (.iaload, 1) := by decide +kernel
theorem dX0_offer_27 : decode cX0_offer 27 = .ok (.iaload, 1) := by decide +kernel
theorem dX0_offer_28 : decode cX0_offer 28 = .ok (.aload_n 0, 1) := by decide +kernel
theorem dX0_offer_29 : decode cX0_offer 29 = .ok (.getfield 41, 3) := by decide +kernel
theorem dX0_offer_32 : decode cX0_offer 32 = .ok (.iload_n 1, 1) := by decide +kernel
theorem dX0_offer_33 : decode cX0_offer 33 = .ok (.iaload, 1) := by decide +kernel
theorem dX0_offer_34 : decode cX0_offer 34 = .ok (.if_icmp .gt 4, 3) := by decide +kernel
theorem dX0_offer_37 : decode cX0_offer 37 = .ok (.return_, 1) := by decide +kernel
theorem dX0_offer_38 : decode cX0_offer 38 = .ok (.iload_n 2, 1) := by decide +kernel
theorem dX0_offer_39 : decode cX0_offer 39 = .ok (.ifCond .le 28, 3) := by decide +kernel
theorem dX0_offer_42 : decode cX0_offer 42 = .ok (.aload_n 0, 1) := by decide +kernel
theorem dX0_offer_43 : decode cX0_offer 43 = .ok (.getfield 44, 3) := by decide +kernel
theorem dX0_offer_46 : decode cX0_offer 46 = .ok (.aload_n 0, 1) := by decide +kernel
theorem dX0_offer_47 : decode cX0_offer 47 = .ok (.getfield 32, 3) := by decide +kernel
theorem dX0_offer_50 : decode cX0_offer 50 = .ok (.iload_n 2, 1) := by decide +kernel
theorem dX0_offer_51 : decode cX0_offer 51 = .ok (.iconst 1, 1) := by decide +kernel
theorem dX0_offer_52 : decode cX0_offer 52 = .ok (.isub, 1) := by decide +kernel
theorem dX0_offer_53 : decode cX0_offer 53 = .ok (.iaload, 1) := by decide +kernel
theorem dX0_offer_54 : decode cX0_offer 54 = .ok (.iaload, 1) := by decide +kernel
theorem dX0_offer_55 : decode cX0_offer 55 = .ok (.aload_n 0, 1) := by decide +kernel
theorem dX0_offer_56 : decode cX0_offer 56 = .ok (.getfield 44, 3) := by decide +kernel
theorem dX0_offer_59 : decode cX0_offer 59 = .ok (.iload_n 1, 1) := by decide +kernel
theorem dX0_offer_60 : decode cX0_offer 60 = .ok (.iaload, 1) := by decide +kernel
theorem dX0_offer_61 : decode cX0_offer 61 = .ok (.if_icmp .ne 6, 3) := by decide +kernel
theorem dX0_offer_64 : decode cX0_offer 64 = .ok (.iinc 2 (-1), 3) := by decide +kernel
theorem dX0_offer_67 : decode cX0_offer 67 = .ok (.iload_n 2, 1) := by decide +kernel
theorem dX0_offer_68 : decode cX0_offer 68 = .ok (.istore_n 3, 1) := by decide +kernel
theorem dX0_offer_69 : decode cX0_offer 69 = .ok (.iload_n 3, 1) := by decide +kernel
theorem dX0_offer_70 : decode cX0_offer 70 = .ok (.aload_n 0, 1) := by decide +kernel
theorem dX0_offer_71 : decode cX0_offer 71 = .ok (.getfield 35, 3) := by decide +kernel
theorem dX0_offer_74 : decode cX0_offer 74 = .ok (.if_icmp .ge 29, 3) := by decide +kernel
theorem dX0_offer_77 : decode cX0_offer 77 = .ok (.aload_n 0, 1) := by decide +kernel
theorem dX0_offer_78 : decode cX0_offer 78 = .ok (.getfield 41, 3) := by decide +kernel
theorem dX0_offer_81 : decode cX0_offer 81 = .ok (.aload_n 0, 1) := by decide +kernel
theorem dX0_offer_82 : decode cX0_offer 82 = .ok (.getfield 32, 3) := by decide +kernel
theorem dX0_offer_85 : decode cX0_offer 85 = .ok (.iload_n 3, 1) := by decide +kernel
theorem dX0_offer_86 : decode cX0_offer 86 = .ok (.iaload, 1) := by decide +kernel
theorem dX0_offer_87 : decode cX0_offer 87 = .ok (.iaload, 1) := by decide +kernel
theorem dX0_offer_88 : decode cX0_offer 88 = .ok (.aload_n 0, 1) := by decide +kernel
theorem dX0_offer_89 : decode cX0_offer 89 = .ok (.getfield 41, 3) := by decide +kernel
theorem dX0_offer_92 : decode cX0_offer 92 = .ok (.iload_n 1, 1) := by decide +kernel
theorem dX0_offer_93 : decode cX0_offer 93 = .ok (.iaload, 1) := by decide +kernel
theorem dX0_offer_94 : decode cX0_offer 94 = .ok (.if_icmp .lt 9, 3) := by decide +kernel
theorem dX0_offer_97 : decode cX0_offer 97 = .ok (.iinc 3 1, 3) := by decide +kernel
theorem dX0_offer_100 : decode cX0_offer 100 = .ok (.goto (-31), 3) := by decide +kernel
theorem dX0_offer_103 : decode cX0_offer 103 = .ok (.aload_n 0, 1) := by decide +kernel
theorem dX0_offer_104 : decode cX0_offer 104 = .ok (.getfield 35, 3) := by decide +kernel
theorem dX0_offer_107 : decode cX0_offer 107 = .ok (.iload_n 3, 1) := by decide +kernel
theorem dX0_offer_108 : decode cX0_offer 108 = .ok (.isub, 1) := by decide +kernel
theorem dX0_offer_109 : decode cX0_offer 109 = .ok (.istore 4, 2) := by decide +kernel
theorem dX0_offer_111 : decode cX0_offer 111 = .ok (.iload_n 2, 1) := by decide +kernel
theorem dX0_offer_112 : decode cX0_offer 112 = .ok (.iconst 1, 1) := by decide +kernel
theorem dX0_offer_113 : decode cX0_offer 113 = .ok (.iadd, 1) := by decide +kernel
theorem dX0_offer_114 : decode cX0_offer 114 = .ok (.iload 4, 2) := by decide +kernel
theorem dX0_offer_116 : decode cX0_offer 116 = .ok (.iadd, 1) := by decide +kernel
theorem dX0_offer_117 : decode cX0_offer 117 = .ok (.aload_n 0, 1) := by decide +kernel
theorem dX0_offer_118 : decode cX0_offer 118 = .ok (.getfield 32, 3) := by decide +kernel
theorem dX0_offer_121 : decode cX0_offer 121 = .ok (.arraylength, 1) := by decide +kernel
theorem dX0_offer_122 : decode cX0_offer 122 = .ok (.if_icmp .le 4, 3) := by decide +kernel
theorem dX0_offer_125 : decode cX0_offer 125 = .ok (.return_, 1) := by decide +kernel
theorem dX0_offer_126 : decode cX0_offer 126 = .ok (.aload_n 0, 1) := by decide +kernel
theorem dX0_offer_127 : decode cX0_offer 127 = .ok (.getfield 32, 3) := by decide +kernel
theorem dX0_offer_130 : decode cX0_offer 130 = .ok (.iload_n 3, 1) := by decide +kernel
theorem dX0_offer_131 : decode cX0_offer 131 = .ok (.aload_n 0, 1) := by decide +kernel
theorem dX0_offer_132 : decode cX0_offer 132 = .ok (.getfield 32, 3) := by decide +kernel
theorem dX0_offer_135 : decode cX0_offer 135 = .ok (.iload_n 2, 1) := by decide +kernel
theorem dX0_offer_136 : decode cX0_offer 136 = .ok (.iconst 1, 1) := by decide +kernel
theorem dX0_offer_137 : decode cX0_offer 137 = .ok (.iadd, 1) := by decide +kernel
theorem dX0_offer_138 : decode cX0_offer 138 = .ok (.iload 4, 2) := by decide +kernel
theorem dX0_offer_140 : decode cX0_offer 140 = .ok (.invokestatic 110, 3) := by decide +kernel
theorem dX0_offer_143 : decode cX0_offer 143 = .ok (.aload_n 0, 1) := by decide +kernel
theorem dX0_offer_144 : decode cX0_offer 144 = .ok (.getfield 32, 3) := by decide +kernel
theorem dX0_offer_147 : decode cX0_offer 147 = .ok (.iload_n 2, 1) := by decide +kernel
theorem dX0_offer_148 : decode cX0_offer 148 = .ok (.iload_n 1, 1) := by decide +kernel
theorem dX0_offer_149 : decode cX0_offer 149 = .ok (.iastore, 1) := by decide +kernel
theorem dX0_offer_150 : decode cX0_offer 150 = .ok (.aload_n 0, 1) := by decide +kernel
theorem dX0_offer_151 : decode cX0_offer 151 = .ok (.iload_n 2, 1) := by decide +kernel
theorem dX0_offer_152 : decode cX0_offer 152 = .ok (.iconst 1, 1) := by decide +kernel
theorem dX0_offer_153 : decode cX0_offer 153 = .ok (.iadd, 1) := by decide +kernel
theorem dX0_offer_154 : decode cX0_offer 154 = .ok (.iload 4, 2) := by decide +kernel
theorem dX0_offer_156 : decode cX0_offer 156 = .ok (.iadd, 1) := by decide +kernel
theorem dX0_offer_157 : decode cX0_offer 157 = .ok (.putfield 35, 3) := by decide +kernel
theorem dX0_offer_160 : decode cX0_offer 160 = .ok (.return_, 1) := by decide +kernel
theorem dX0_edgesWithin_0 : decode cX0_edgesWithin 0 = .ok (.iconst 0, 1) := by decide +kernel
theorem dX0_edgesWithin_1 : decode cX0_edgesWithin 1 = .ok (.istore_n 2, 1) := by decide +kernel
theorem dX0_edgesWithin_2 : decode cX0_edgesWithin 2 = .ok (.aload_n 0, 1) := by decide +kernel
theorem dX0_edgesWithin_3 : decode cX0_edgesWithin 3 = .ok (.getfield 35, 3) := by decide +kernel
theorem dX0_edgesWithin_6 : decode cX0_edgesWithin 6 = .ok (.istore_n 3, 1) := by decide +kernel
theorem dX0_edgesWithin_7 : decode cX0_edgesWithin 7 = .ok (.iload_n 2, 1) := by decide +kernel
theorem dX0_edgesWithin_8 : decode cX0_edgesWithin 8 = .ok (.iload_n 3, 1) := by decide +kernel
theorem dX0_edgesWithin_9 : decode cX0_edgesWithin 9 = .ok (.if_icmp .ge 40, 3) := by decide +kernel
theorem dX0_edgesWithin_12 : decode cX0_edgesWithin 12 = .ok (.iload_n 2, 1) := by decide +kernel
theorem dX0_edgesWithin_13 : decode cX0_edgesWithin 13 = .ok (.iload_n 3, 1) := by decide +kernel
theorem dX0_edgesWithin_14 : decode cX0_edgesWithin 14 = .ok (.iadd, 1) := by decide +kernel
theorem dX0_edgesWithin_15 : decode cX0_edgesWithin 15 = .ok (.iconst 2, 1) := by decide +kernel
theorem dX0_edgesWithin_16 : decode cX0_edgesWithin 16 = .ok (.idiv, 1) := by decide +kernel
theorem dX0_edgesWithin_17 : decode cX0_edgesWithin 17 = .ok (.istore 4, 2) := by decide +kernel
theorem dX0_edgesWithin_19 : decode cX0_edgesWithin 19 = .ok (.aload_n 0, 1) := by decide +kernel
theorem dX0_edgesWithin_20 : decode cX0_edgesWithin 20 = .ok (.getfield 44, 3) := by decide +kernel
theorem dX0_edgesWithin_23 : decode cX0_edgesWithin 23 = .ok (.aload_n 0, 1) := by decide +kernel
theorem dX0_edgesWithin_24 : decode cX0_edgesWithin 24 = .ok (.getfield 32, 3) := by decide +kernel
theorem dX0_edgesWithin_27 : decode cX0_edgesWithin 27 = .ok (.iload 4, 2) := by decide +kernel
theorem dX0_edgesWithin_29 : decode cX0_edgesWithin 29 = .ok (.iaload, 1) := by decide +kernel
theorem dX0_edgesWithin_30 : decode cX0_edgesWithin 30 = .ok (.iaload, 1) := by decide +kernel
theorem dX0_edgesWithin_31 : decode cX0_edgesWithin 31 = .ok (.iload_n 1, 1) := by decide +kernel
theorem dX0_edgesWithin_32 : decode cX0_edgesWithin 32 = .ok (.if_icmp .gt 11, 3) := by decide +kernel
theorem dX0_edgesWithin_35 : decode cX0_edgesWithin 35 = .ok (.iload 4, 2) := by decide +kernel
theorem dX0_edgesWithin_37 : decode cX0_edgesWithin 37 = .ok (.iconst 1, 1) := by decide +kernel
theorem dX0_edgesWithin_38 : decode cX0_edgesWithin 38 = .ok (.iadd, 1) := by decide +kernel
theorem dX0_edgesWithin_39 : decode cX0_edgesWithin 39 = .ok (.istore_n 2, 1) := by decide +kernel
theorem dX0_edgesWithin_40 : decode cX0_edgesWithin 40 = .ok (.goto 6, 3) := by decide +kernel
theorem dX0_edgesWithin_43 : decode cX0_edgesWithin 43 = .ok (.iload 4, 2) := by decide +kernel
theorem dX0_edgesWithin_45 : decode cX0_edgesWithin 45 = .ok (.istore_n 3, 1) := by decide +kernel
theorem dX0_edgesWithin_46 : decode cX0_edgesWithin 46 = .ok (.goto (-39), 3) := by decide +kernel
theorem dX0_edgesWithin_49 : decode cX0_edgesWithin 49 = .ok (.iload_n 2, 1) := by decide +kernel
theorem dX0_edgesWithin_50 : decode cX0_edgesWithin 50 = .ok (.ireturn, 1) := by decide +kernel
theorem dX0_quickestWithin_0 : decode cX0_quickestWithin 0 = .ok (.aload_n 0, 1) := by decide +kernel
theorem dX0_quickestWithin_1 : decode cX0_quickestWithin 1 = .ok (.iload_n 1, 1) := by decide +kernel
theorem dX0_quickestWithin_2 : decode cX0_quickestWithin 2 = .ok (.invokevirtual 107, 3) := by decide +kernel
theorem dX0_quickestWithin_5 : decode cX0_quickestWithin 5 = .ok (.istore_n 2, 1) := by decide +kernel
theorem dX0_quickestWithin_6 : decode cX0_quickestWithin 6 = .ok (.iload_n 2, 1) := by decide +kernel
theorem dX0_quickestWithin_7 : decode cX0_quickestWithin 7 = .ok (.ifCond .le 14, 3) := by decide +kernel
theorem dX0_quickestWithin_10 : decode cX0_quickestWithin 10 = .ok (.aload_n 0, 1) := by decide +kernel
theorem dX0_quickestWithin_11 : decode cX0_quickestWithin 11 = .ok (.getfield 32, 3) := by decide +kernel
theorem dX0_quickestWithin_14 : decode cX0_quickestWithin 14 = .ok (.iload_n 2, 1) := by decide +kernel
theorem dX0_quickestWithin_15 : decode cX0_quickestWithin 15 = .ok (.iconst 1, 1) := by decide +kernel
theorem dX0_quickestWithin_16 : decode cX0_quickestWithin 16 = .ok (.isub, 1) := by decide +kernel
theorem dX0_quickestWithin_17 : decode cX0_quickestWithin 17 = .ok (.iaload, 1) := by decide +kernel
theorem dX0_quickestWithin_18 : decode cX0_quickestWithin 18 = .ok (.goto 4, 3) := by decide +kernel
theorem dX0_quickestWithin_21 : decode cX0_quickestWithin 21 = .ok (.iconst (-1), 1) := by decide +kernel
theorem dX0_quickestWithin_22 : decode cX0_quickestWithin 22 = .ok (.ireturn, 1) := by decide +kernel
theorem dX0_fewestGatesWithin_0 : decode cX0_fewestGatesWithin 0 = .ok (.iconst 0, 1) := by decide +kernel
theorem dX0_fewestGatesWithin_1 : decode cX0_fewestGatesWithin 1 = .ok (.istore_n 2, 1) := by decide +kernel
theorem dX0_fewestGatesWithin_2 : decode cX0_fewestGatesWithin 2 = .ok (.iload_n 2, 1) := by decide +kernel
theorem dX0_fewestGatesWithin_3 : decode cX0_fewestGatesWithin 3 = .ok (.aload_n 0, 1) := by decide +kernel
theorem dX0_fewestGatesWithin_4 : decode cX0_fewestGatesWithin 4 = .ok (.getfield 35, 3) := by decide +kernel
theorem dX0_fewestGatesWithin_7 : decode cX0_fewestGatesWithin 7 = .ok (.if_icmp .ge 36, 3) := by decide +kernel
theorem dX0_fewestGatesWithin_10 : decode cX0_fewestGatesWithin 10 = .ok (.aload_n 0, 1) := by decide +kernel
theorem dX0_fewestGatesWithin_11 : decode cX0_fewestGatesWithin 11 = .ok (.getfield 41, 3) := by decide +kernel
theorem dX0_fewestGatesWithin_14 : decode cX0_fewestGatesWithin 14 = .ok (.aload_n 0, 1) := by decide +kernel
theorem dX0_fewestGatesWithin_15 : decode cX0_fewestGatesWithin 15 = .ok (.getfield 32, 3) := by decide +kernel
theorem dX0_fewestGatesWithin_18 : decode cX0_fewestGatesWithin 18 = .ok (.iload_n 2, 1) := by decide +kernel
theorem dX0_fewestGatesWithin_19 : decode cX0_fewestGatesWithin 19 = .ok (.iaload, 1) := by decide +kernel
theorem dX0_fewestGatesWithin_20 : decode cX0_fewestGatesWithin 20 = .ok (.iaload, 1) := by decide +kernel
theorem dX0_fewestGatesWithin_21 : decode cX0_fewestGatesWithin 21 = .ok (.iload_n 1, 1) := by decide +kernel
theorem dX0_fewestGatesWithin_22 : decode cX0_fewestGatesWithin 22 = .ok (.if_icmp .gt 15, 3) := by decide +kernel
theorem dX0_fewestGatesWithin_25 : decode cX0_fewestGatesWithin 25 = .ok (.aload_n 0, 1) := by decide +kernel
theorem dX0_fewestGatesWithin_26 : decode cX0_fewestGatesWithin 26 = .ok (.getfield 44, 3) := by decide +kernel
theorem dX0_fewestGatesWithin_29 : decode cX0_fewestGatesWithin 29 = .ok (.aload_n 0, 1) := by decide +kernel
theorem dX0_fewestGatesWithin_30 : decode cX0_fewestGatesWithin 30 = .ok (.getfield 32, 3) := by decide +kernel
theorem dX0_fewestGatesWithin_33 : decode cX0_fewestGatesWithin 33 = .ok (.iload_n 2, 1) := by decide +kernel
theorem dX0_fewestGatesWithin_34 : decode cX0_fewestGatesWithin 34 = .ok (.iaload, 1) := by decide +kernel
theorem dX0_fewestGatesWithin_35 : decode cX0_fewestGatesWithin 35 = .ok (.iaload, 1) := by decide +kernel
theorem dX0_fewestGatesWithin_36 : decode cX0_fewestGatesWithin 36 = .ok (.ireturn, 1) := by decide +kernel
theorem dX0_fewestGatesWithin_37 : decode cX0_fewestGatesWithin 37 = .ok (.iinc 2 1, 3) := by decide +kernel
theorem dX0_fewestGatesWithin_40 : decode cX0_fewestGatesWithin 40 = .ok (.goto (-38), 3) := by decide +kernel
theorem dX0_fewestGatesWithin_43 : decode cX0_fewestGatesWithin 43 = .ok (.bipush (-2), 2) := by decide +kernel
theorem dX0_fewestGatesWithin_45 : decode cX0_fewestGatesWithin 45 = .ok (.ireturn, 1) := by decide +kernel
def fX0_lacking (p1 : Int32) (p2 : Int32) (p3 : Int32) : Option (Int32) :=
  some ((p2 &&& ((p1 >>> ((p3 * (8 : Int32)) &&& 31)) ^^^ (-1 : Int32))) &&& (255 : Int32))
abbrev rX0_lacking : Room := { frames := 0, cells := 0, slots := 0, locals := 0 }
set_option maxHeartbeats 4000000 in
set_option maxRecDepth 100000 in
theorem mtX0_lacking (l : Launch) (dC : Nat → ClassId) (dI : Nat → Nat → Nat) (cI cB : ClassId) (sz : Nat) (p1 : Int32) (p2 : Int32) (p3 : Int32) {ov : Int32} (hf : fX0_lacking p1 p2 p3 = some ov) : zMi l yX0_lacking (Cond.code yX0_lacking cX0_lacking 3 (some .int) :: lw_g) rX0_lacking (dC, dI) [(cI, .int), (cB, .byte)] [.int p1, .int p2, .int p3] sz ([] : va_W) ov ([] : va_W) := by
  refine zSt (cc := cX0_lacking) (maxL := 3) (ret := (some .int)) (own := RX0) (fun A => zQi (dC, dI) [(cI, .int), (cB, .byte)] A ov ([] : va_W)) (by decide) rfl rfl (Nat.le_of_ble_eq_true rfl) ?_
  intro p e s m below meth c ls A H locs C hK hA hP hD hS hl
  generalize hQ : MQ below (zQi (dC, dI) [(cI, .int), (cB, .byte)] A ov ([] : va_W)) _ s 0 0 A = QQ
  generalize ([.int p1, .int p2, .int p3] : List Value).toArray = args at C hQ ⊢
  have hl : lv_has ls 3 [(0, .int p1), (1, .int p2), (2, .int p3)] := hl
  unfold fX0_lacking at hf
  refine lv_iload_n C.1.1 C.1.2.1 dX0_lacking_0 rfl (lv_at hl 1 rfl) ?_
  refine lv_iload_n C.1.1 C.1.2.1 dX0_lacking_1 rfl (lv_at hl 0 rfl) ?_
  refine lv_iload_n C.1.1 C.1.2.1 dX0_lacking_2 rfl (lv_at hl 2 rfl) ?_
  refine lv_bipush (v := 8) C.1.1 C.1.2.1 dX0_lacking_3 (by decide) ?_
  refine lv_imul C.1.1 C.1.2.1 dX0_lacking_5 ?_
  refine lv_ishr C.1.1 C.1.2.1 dX0_lacking_6 ?_
  refine lv_iconst (v := (-1)) C.1.1 C.1.2.1 dX0_lacking_7 (by decide) ?_
  refine lv_ixor C.1.1 C.1.2.1 dX0_lacking_8 ?_
  refine lv_iand C.1.1 C.1.2.1 dX0_lacking_9 ?_
  refine lv_sipush (v := 255) C.1.1 C.1.2.1 dX0_lacking_10 (by decide) ?_
  refine lv_iand C.1.1 C.1.2.1 dX0_lacking_13 ?_
  cases hf
  rw [← hQ]
  exact zRi C hK hP hD hS dX0_lacking_14
def fX0_note (oC : Rc) (p1 : Int32) (p2 : Int32) : Option (Rc) :=
  zGd (inb p1 13) <|
  zLet (rs oC 0 (upd (oC 0) p1.toNatClampNeg p2)) fun oC_1 =>
  zB1 (fJ6_bitCount_0f7a4 p2) fun v2 =>
  zLet (rs oC_1 3 (fun _ => ((oC_1 3 0) + v2))) fun oC_3 =>
  zB1 (fJ6_bitCount_0f7a4 p2) fun v4 =>
  zLet (if (oC_3 4 0) < v4 then v4 else (oC_3 4 0)) fun x5 =>
  zLet (rs oC_3 4 (fun _ => x5)) fun oC_6 =>
  some oC_6
abbrev rX0_note : Room := { frames := 1, cells := 0, slots := 0, locals := 30 }
set_option maxHeartbeats 4000000 in
set_option maxRecDepth 100000 in
theorem mtX0_note (l : Launch) (dC : Nat → ClassId) (dI : Nat → Nat → Nat) (cI cB : ClassId) (aC : Nat → Nat) (sz : Nat) (oC : Rc) (p1 : Int32) (p2 : Int32) {oC' : Rc} (hf : fX0_note oC p1 p2 = some oC') : zMv l yX0_note (Cond.code yX0_note cX0_note 3 none :: lw_g) rX0_note (dC, dI) [(cI, .int), (cB, .byte)] [.ref (aC 0), .int p1, .int p2] sz (kX0 cI cB aC oC) (kX0 cI cB aC oC') := by
  refine zSt (cc := cX0_note) (maxL := 3) (ret := none) (own := RX0) (fun A => zQv (dC, dI) [(cI, .int), (cB, .byte)] A (kX0 cI cB aC oC')) (by decide) rfl rfl (Nat.le_of_ble_eq_true rfl) ?_
  intro p e s m below meth c ls A H locs C hK hA hP hD hS hl
  generalize hQ : MQ below (zQv (dC, dI) [(cI, .int), (cB, .byte)] A (kX0 cI cB aC oC')) _ s 0 0 A = QQ
  generalize ([.ref (aC 0), .int p1, .int p2] : List Value).toArray = args at C hQ ⊢
  have hl : lv_has ls 3 [(0, .ref (aC 0)), (1, .int p1), (2, .int p2)] := hl
  unfold fX0_note at hf
  refine lv_aload_n C.1.1 C.1.2.1 dX0_note_0 rfl (lv_at hl 0 rfl) ?_
  refine zGet (.ref (aC 1)) C.1 wuX0 hK hP 0 rfl rfl 0 (by decide) wfX0_11 rfl rfl dX0_note_1 ?_
  refine lv_iload_n C.1.1 C.1.2.1 dX0_note_4 rfl (lv_at hl 1 rfl) ?_
  refine lv_iload_n C.1.1 C.1.2.1 dX0_note_5 rfl (lv_at hl 2 rfl) ?_
  obtain ⟨hib, hf⟩ := zGd_el hf
  obtain ⟨oC_1, eoC_1, hf⟩ := zLet_el hf
  refine zIast (kX0 cI cB aC oC_1) C.1 hK hP hD hS 1 0 rfl rfl hib dX0_note_6 (by rw [eoC_1]; rfl) (fun H locs hP hD hS => ?_)
  refine lv_aload_n C.1.1 C.1.2.1 dX0_note_7 rfl (lv_at hl 0 rfl) ?_
  refine lv_dup C.1.1 C.1.2.1 dX0_note_8 rfl ?_
  refine zGet (.int (oC_1 3 0)) C.1 wuX0 hK hP 0 rfl rfl 3 (by decide) wfX0_22 rfl rfl dX0_note_9 ?_
  refine lv_iload_n C.1.1 C.1.2.1 dX0_note_12 rfl (lv_at hl 2 rfl) ?_
  obtain ⟨v2, hg, hf⟩ := zB1_el hf
  refine zCSi (As := [.int p2]) (rest := [.int (oC_1 3 0), .ref (aC 0)]) (wr := (kX0 cI cB aC oC_1)) (wn := (kX0 cI cB aC oC_1)) C.1 hK hA hP hD hS [] [0, 1, 2, 3, 4, 5] [0, 1, 2, 3, 4, 5] (mtJ6_bitCount_0f7a4 l dC dI cI cB H.size p2 hg) (zCwS 1 C.1 wlX0_72 wtJ6_bitCount_0f7a4 wnJ6 wkJ6_bitCount_0f7a4 rfl rfl (by decide +kernel) ⟨Nat.le_of_ble_eq_true rfl, Nat.le_of_ble_eq_true rfl⟩) rfl rfl (by decide +kernel) rfl rfl hl.1 (Nat.le_of_ble_eq_true rfl) dX0_note_13 ⟨Nat.zero_le _, Nat.zero_le _⟩ rfl (fun H locs hP hD hS => ?_)
  refine lv_iadd C.1.1 C.1.2.1 dX0_note_16 ?_
  obtain ⟨oC_3, eoC_3, hf⟩ := zLet_el hf
  refine zPut (ty := .int) (kX0 cI cB aC oC_3) C.1 wuX0 tyX0 tyX0_ok nmX0 hK hP hD hS 0 rfl rfl 3 (by decide) wfX0_22 rfl rfl (by decide +kernel) rfl rfl (Nat.le_of_ble_eq_true rfl) dX0_note_17 (by rw [eoC_3]; rfl) (fun H locs hP hD hS => ?_)
  refine lv_aload_n C.1.1 C.1.2.1 dX0_note_20 rfl (lv_at hl 0 rfl) ?_
  refine lv_aload_n C.1.1 C.1.2.1 dX0_note_21 rfl (lv_at hl 0 rfl) ?_
  refine zGet (.int (oC_3 4 0)) C.1 wuX0 hK hP 0 rfl rfl 4 (by decide) wfX0_25 rfl rfl dX0_note_22 ?_
  refine lv_iload_n C.1.1 C.1.2.1 dX0_note_25 rfl (lv_at hl 2 rfl) ?_
  obtain ⟨v4, hg, hf⟩ := zB1_el hf
  refine zCSi (As := [.int p2]) (rest := [.int (oC_3 4 0), .ref (aC 0)]) (wr := (kX0 cI cB aC oC_3)) (wn := (kX0 cI cB aC oC_3)) C.1 hK hA hP hD hS [] [0, 1, 2, 3, 4, 5] [0, 1, 2, 3, 4, 5] (mtJ6_bitCount_0f7a4 l dC dI cI cB H.size p2 hg) (zCwS 1 C.1 wlX0_72 wtJ6_bitCount_0f7a4 wnJ6 wkJ6_bitCount_0f7a4 rfl rfl (by decide +kernel) ⟨Nat.le_of_ble_eq_true rfl, Nat.le_of_ble_eq_true rfl⟩) rfl rfl (by decide +kernel) rfl rfl hl.1 (Nat.le_of_ble_eq_true rfl) dX0_note_26 ⟨Nat.zero_le _, Nat.zero_le _⟩ rfl (fun H locs hP hD hS => ?_)
  refine va_mmax C.1.1 C.1.2.1 (C.1.2.2.1.trans hl.1.symm) C.1.2.2.2.1 (C.1.2.2.2.2 _ wlX0_78) (C.1.2.2.2.2 _ wtJ9_max_7cf53) (C.1.2.2.2.2 _ wnJ9) (C.1.2.2.2.2 _ wkJ9_max_7cf53) (Nat.le_of_ble_eq_true rfl) (Nat.le_of_ble_eq_true rfl) (Nat.zero_le _) (Nat.zero_le _) dX0_note_29 ?_
  refine lv_topi (fun x5 ex5 => ?_)
  replace hf := zLet_at hf ex5
  obtain ⟨oC_6, eoC_6, hf⟩ := zLet_el hf
  refine zPut (ty := .int) (kX0 cI cB aC oC_6) C.1 wuX0 tyX0 tyX0_ok nmX0 hK hP hD hS 0 rfl rfl 4 (by decide) wfX0_25 rfl rfl (by decide +kernel) rfl rfl (Nat.le_of_ble_eq_true rfl) dX0_note_32 (by rw [eoC_6]; rfl) (fun H locs hP hD hS => ?_)
  cases hf
  rw [← hQ]
  exact zRv C hK hP hD hS dX0_note_35
def fX0_freshBehind (oE : Rc) (p1 : Int32) (p3 : Int32) (p4 : Int32) : Option (Int32) :=
  zGd (inb p3 12) <|
  zB1 (fX0_lacking p1 (oE 5 p3.toNatClampNeg) p4) fun v1 =>
  zLet (p1 ||| (v1 * (257 : Int32))) fun x2 =>
  zGd (inb p3 12) <|
  zGd (inb p3 12) <|
  some ((x2 &&& (((oE 6 p3.toNatClampNeg) * (257 : Int32)) ^^^ (-1 : Int32))) ||| ((oE 6 p3.toNatClampNeg) <<< ((p4 * (8 : Int32)) &&& 31)))
abbrev rX0_freshBehind : Room := { frames := 1, cells := 0, slots := 0, locals := 22 }
set_option maxHeartbeats 4000000 in
set_option maxRecDepth 100000 in
theorem mtX0_freshBehind (l : Launch) (dC : Nat → ClassId) (dI : Nat → Nat → Nat) (cI cB : ClassId) (aE aQ : Nat → Nat) (sz : Nat) (oE : Rc) (p1 : Int32) (p3 : Int32) (p4 : Int32) {ov : Int32} (hf : fX0_freshBehind oE p1 p3 p4 = some ov) : zMi l yX0_freshBehind (Cond.code yX0_freshBehind cX0_freshBehind 5 (some .int) :: lw_g) rX0_freshBehind (dC, dI) [(cI, .int), (cB, .byte)] [.int p1, .ref (aE 0), .int p3, .int p4] sz (kX2 cI cB aE (aQ 0) oE) ov (kX2 cI cB aE (aQ 0) oE) := by
  refine zSt (cc := cX0_freshBehind) (maxL := 5) (ret := (some .int)) (own := RX0) (fun A => zQi (dC, dI) [(cI, .int), (cB, .byte)] A ov (kX2 cI cB aE (aQ 0) oE)) (by decide) rfl rfl (Nat.le_of_ble_eq_true rfl) ?_
  intro p e s m below meth c ls A H locs C hK hA hP hD hS hl
  generalize hQ : MQ below (zQi (dC, dI) [(cI, .int), (cB, .byte)] A ov (kX2 cI cB aE (aQ 0) oE)) _ s 0 0 A = QQ
  generalize ([.int p1, .ref (aE 0), .int p3, .int p4] : List Value).toArray = args at C hQ ⊢
  have hl : lv_has ls 5 [(0, .int p1), (1, .ref (aE 0)), (2, .int p3), (3, .int p4)] := hl
  unfold fX0_freshBehind at hf
  refine lv_iload_n C.1.1 C.1.2.1 dX0_freshBehind_0 rfl (lv_at hl 0 rfl) ?_
  refine lv_iload_n C.1.1 C.1.2.1 dX0_freshBehind_1 rfl (lv_at hl 0 rfl) ?_
  refine lv_aload_n C.1.1 C.1.2.1 dX0_freshBehind_2 rfl (lv_at hl 1 rfl) ?_
  refine zGet (.ref (aE 6)) C.1 wuX2 hK hP 0 rfl rfl 5 (by decide) wfX0_48 rfl rfl dX0_freshBehind_3 ?_
  refine lv_iload_n C.1.1 C.1.2.1 dX0_freshBehind_6 rfl (lv_at hl 2 rfl) ?_
  obtain ⟨hib, hf⟩ := zGd_el hf
  refine va_iald C.1.1 C.1.2.1 hK.1 hP 6 0 rfl rfl hib dX0_freshBehind_7 ?_
  refine lv_iload_n C.1.1 C.1.2.1 dX0_freshBehind_8 rfl (lv_at hl 3 rfl) ?_
  obtain ⟨v1, hg, hf⟩ := zB1_el hf
  refine zCSi (As := [.int p1, .int (oE 5 p3.toNatClampNeg), .int p4]) (rest := [.int p1]) (wr := (kX2 cI cB aE (aQ 0) oE)) (wn := (kX2 cI cB aE (aQ 0) oE)) C.1 hK hA hP hD hS [] [0, 1, 2, 3, 4, 5, 6, 7, 8] [0, 1, 2, 3, 4, 5, 6, 7, 8] (mtX0_lacking l dC dI cI cB H.size p1 (oE 5 p3.toNatClampNeg) p4 hg) (zCwS 3 C.1 wlX0_53 wtX0_lacking wnX0 wkX0_lacking rfl rfl (by decide +kernel) ⟨Nat.le_of_ble_eq_true rfl, Nat.le_of_ble_eq_true rfl⟩) rfl rfl (by decide +kernel) rfl rfl hl.1 (Nat.le_of_ble_eq_true rfl) dX0_freshBehind_9 ⟨Nat.zero_le _, Nat.zero_le _⟩ rfl (fun H locs hP hD hS => ?_)
  refine lv_sipush (v := 257) C.1.1 C.1.2.1 dX0_freshBehind_12 (by decide) ?_
  refine lv_imul C.1.1 C.1.2.1 dX0_freshBehind_15 ?_
  refine lv_ior C.1.1 C.1.2.1 dX0_freshBehind_16 ?_
  refine lv_topi (fun x2 ex2 => ?_)
  replace hf := zLet_at hf ex2
  refine lv_istore (lv' := [(4, .int x2), (0, .int p1), (1, .ref (aE 0)), (2, .int p3), (3, .int p4)]) C.1.1 C.1.2.1 dX0_freshBehind_17 hl (by decide) rfl (fun ls hl => ?_)
  refine lv_iload C.1.1 C.1.2.1 dX0_freshBehind_19 (lv_at hl 0 rfl) ?_
  refine lv_aload_n C.1.1 C.1.2.1 dX0_freshBehind_21 rfl (lv_at hl 2 rfl) ?_
  refine zGet (.ref (aE 7)) C.1 wuX2 hK hP 0 rfl rfl 6 (by decide) wfX0_84 rfl rfl dX0_freshBehind_22 ?_
  refine lv_iload_n C.1.1 C.1.2.1 dX0_freshBehind_25 rfl (lv_at hl 3 rfl) ?_
  obtain ⟨hib, hf⟩ := zGd_el hf
  refine va_iald C.1.1 C.1.2.1 hK.1 hP 7 0 rfl rfl hib dX0_freshBehind_26 ?_
  refine lv_sipush (v := 257) C.1.1 C.1.2.1 dX0_freshBehind_27 (by decide) ?_
  refine lv_imul C.1.1 C.1.2.1 dX0_freshBehind_30 ?_
  refine lv_iconst (v := (-1)) C.1.1 C.1.2.1 dX0_freshBehind_31 (by decide) ?_
  refine lv_ixor C.1.1 C.1.2.1 dX0_freshBehind_32 ?_
  refine lv_iand C.1.1 C.1.2.1 dX0_freshBehind_33 ?_
  refine lv_aload_n C.1.1 C.1.2.1 dX0_freshBehind_34 rfl (lv_at hl 2 rfl) ?_
  refine zGet (.ref (aE 7)) C.1 wuX2 hK hP 0 rfl rfl 6 (by decide) wfX0_84 rfl rfl dX0_freshBehind_35 ?_
  refine lv_iload_n C.1.1 C.1.2.1 dX0_freshBehind_38 rfl (lv_at hl 3 rfl) ?_
  obtain ⟨hib, hf⟩ := zGd_el hf
  refine va_iald C.1.1 C.1.2.1 hK.1 hP 7 0 rfl rfl hib dX0_freshBehind_39 ?_
  refine lv_iload_n C.1.1 C.1.2.1 dX0_freshBehind_40 rfl (lv_at hl 4 rfl) ?_
  refine lv_bipush (v := 8) C.1.1 C.1.2.1 dX0_freshBehind_41 (by decide) ?_
  refine lv_imul C.1.1 C.1.2.1 dX0_freshBehind_43 ?_
  refine lv_ishl C.1.1 C.1.2.1 dX0_freshBehind_44 ?_
  refine lv_ior C.1.1 C.1.2.1 dX0_freshBehind_45 ?_
  cases hf
  rw [← hQ]
  exact zRi C hK hP hD hS dX0_freshBehind_46
def fX0_ticksOn (oE : Rc) (p2 : Int32) (p3 : Int32) : Option (Int32) :=
  if p3 = (1 : Int32) then (
    zGd (inb p2 12) <|
    some (oE 4 p2.toNatClampNeg)
  ) else (
    zGd (inb p2 12) <|
    some (oE 1 p2.toNatClampNeg)
  )
abbrev rX0_ticksOn : Room := { frames := 0, cells := 0, slots := 0, locals := 0 }
set_option maxHeartbeats 4000000 in
set_option maxRecDepth 100000 in
theorem mtX0_ticksOn (l : Launch) (dC : Nat → ClassId) (dI : Nat → Nat → Nat) (cI cB : ClassId) (aE aQ : Nat → Nat) (sz : Nat) (oE : Rc) (p2 : Int32) (p3 : Int32) {ov : Int32} (hf : fX0_ticksOn oE p2 p3 = some ov) : zMi l yX0_ticksOn (Cond.code yX0_ticksOn cX0_ticksOn 3 (some .int) :: lw_g) rX0_ticksOn (dC, dI) [(cI, .int), (cB, .byte)] [.ref (aE 0), .int p2, .int p3] sz (kX2 cI cB aE (aQ 0) oE) ov (kX2 cI cB aE (aQ 0) oE) := by
  refine zSt (cc := cX0_ticksOn) (maxL := 3) (ret := (some .int)) (own := RX0) (fun A => zQi (dC, dI) [(cI, .int), (cB, .byte)] A ov (kX2 cI cB aE (aQ 0) oE)) (by decide) rfl rfl (Nat.le_of_ble_eq_true rfl) ?_
  intro p e s m below meth c ls A H locs C hK hA hP hD hS hl
  generalize hQ : MQ below (zQi (dC, dI) [(cI, .int), (cB, .byte)] A ov (kX2 cI cB aE (aQ 0) oE)) _ s 0 0 A = QQ
  generalize ([.ref (aE 0), .int p2, .int p3] : List Value).toArray = args at C hQ ⊢
  have hl : lv_has ls 3 [(0, .ref (aE 0)), (1, .int p2), (2, .int p3)] := hl
  unfold fX0_ticksOn at hf
  refine lv_iload_n C.1.1 C.1.2.1 dX0_ticksOn_0 rfl (lv_at hl 2 rfl) ?_
  refine lv_iconst (v := 1) C.1.1 C.1.2.1 dX0_ticksOn_1 (by decide) ?_
  refine lv_icmp_ne (tgt := 14) C.1.1 C.1.2.1 dX0_ticksOn_2 (by decide) (fun hc => ?_) (fun hc => ?_)
  · replace hf := zIf_f hf hc
    refine lv_aload_n C.1.1 C.1.2.1 dX0_ticksOn_14 rfl (lv_at hl 0 rfl) ?_
    refine zGet (.ref (aE 2)) C.1 wuX2 hK hP 0 rfl rfl 1 (by decide) wfX0_90 rfl rfl dX0_ticksOn_15 ?_
    refine lv_iload_n C.1.1 C.1.2.1 dX0_ticksOn_18 rfl (lv_at hl 1 rfl) ?_
    obtain ⟨hib, hf⟩ := zGd_el hf
    refine va_iald C.1.1 C.1.2.1 hK.1 hP 2 0 rfl rfl hib dX0_ticksOn_19 ?_
    cases hf
    rw [← hQ]
    exact zRi C hK hP hD hS dX0_ticksOn_20
  · replace hf := zIf_t hf hc
    refine lv_aload_n C.1.1 C.1.2.1 dX0_ticksOn_5 rfl (lv_at hl 0 rfl) ?_
    refine zGet (.ref (aE 5)) C.1 wuX2 hK hP 0 rfl rfl 4 (by decide) wfX0_87 rfl rfl dX0_ticksOn_6 ?_
    refine lv_iload_n C.1.1 C.1.2.1 dX0_ticksOn_9 rfl (lv_at hl 1 rfl) ?_
    obtain ⟨hib, hf⟩ := zGd_el hf
    refine va_iald C.1.1 C.1.2.1 hK.1 hP 5 0 rfl rfl hib dX0_ticksOn_10 ?_
    refine lv_goto (tgt := 20) C.1.1 C.1.2.1 dX0_ticksOn_11 (by decide) ?_
    cases hf
    rw [← hQ]
    exact zRi C hK hP hD hS dX0_ticksOn_20
def fX0_gatesOn (oE : Rc) (p2 : Int32) (p3 : Int32) : Option (Int32) :=
  if p3 = (1 : Int32) then (
    zGd (inb p2 12) <|
    some (oE 2 p2.toNatClampNeg)
  ) else (
    some (0 : Int32)
  )
abbrev rX0_gatesOn : Room := { frames := 0, cells := 0, slots := 0, locals := 0 }
set_option maxHeartbeats 4000000 in
set_option maxRecDepth 100000 in
theorem mtX0_gatesOn (l : Launch) (dC : Nat → ClassId) (dI : Nat → Nat → Nat) (cI cB : ClassId) (aE aQ : Nat → Nat) (sz : Nat) (oE : Rc) (p2 : Int32) (p3 : Int32) {ov : Int32} (hf : fX0_gatesOn oE p2 p3 = some ov) : zMi l yX0_gatesOn (Cond.code yX0_gatesOn cX0_gatesOn 3 (some .int) :: lw_g) rX0_gatesOn (dC, dI) [(cI, .int), (cB, .byte)] [.ref (aE 0), .int p2, .int p3] sz (kX2 cI cB aE (aQ 0) oE) ov (kX2 cI cB aE (aQ 0) oE) := by
  refine zSt (cc := cX0_gatesOn) (maxL := 3) (ret := (some .int)) (own := RX0) (fun A => zQi (dC, dI) [(cI, .int), (cB, .byte)] A ov (kX2 cI cB aE (aQ 0) oE)) (by decide) rfl rfl (Nat.le_of_ble_eq_true rfl) ?_
  intro p e s m below meth c ls A H locs C hK hA hP hD hS hl
  generalize hQ : MQ below (zQi (dC, dI) [(cI, .int), (cB, .byte)] A ov (kX2 cI cB aE (aQ 0) oE)) _ s 0 0 A = QQ
  generalize ([.ref (aE 0), .int p2, .int p3] : List Value).toArray = args at C hQ ⊢
  have hl : lv_has ls 3 [(0, .ref (aE 0)), (1, .int p2), (2, .int p3)] := hl
  unfold fX0_gatesOn at hf
  refine lv_iload_n C.1.1 C.1.2.1 dX0_gatesOn_0 rfl (lv_at hl 2 rfl) ?_
  refine lv_iconst (v := 1) C.1.1 C.1.2.1 dX0_gatesOn_1 (by decide) ?_
  refine lv_icmp_ne (tgt := 14) C.1.1 C.1.2.1 dX0_gatesOn_2 (by decide) (fun hc => ?_) (fun hc => ?_)
  · replace hf := zIf_f hf hc
    refine lv_iconst (v := 0) C.1.1 C.1.2.1 dX0_gatesOn_14 (by decide) ?_
    cases hf
    rw [← hQ]
    exact zRi C hK hP hD hS dX0_gatesOn_15
  · replace hf := zIf_t hf hc
    refine lv_aload_n C.1.1 C.1.2.1 dX0_gatesOn_5 rfl (lv_at hl 0 rfl) ?_
    refine zGet (.ref (aE 3)) C.1 wuX2 hK hP 0 rfl rfl 2 (by decide) wfX0_93 rfl rfl dX0_gatesOn_6 ?_
    refine lv_iload_n C.1.1 C.1.2.1 dX0_gatesOn_9 rfl (lv_at hl 1 rfl) ?_
    obtain ⟨hib, hf⟩ := zGd_el hf
    refine va_iald C.1.1 C.1.2.1 hK.1 hP 3 0 rfl rfl hib dX0_gatesOn_10 ?_
    refine lv_goto (tgt := 15) C.1.1 C.1.2.1 dX0_gatesOn_11 (by decide) ?_
    cases hf
    rw [← hQ]
    exact zRi C hK hP hD hS dX0_gatesOn_15
def fX0_follow_L27 (oE : Rc) (p2 : Int32) (p3 : Int32) (J113_7 : Int32 → Rc → Option (Rc)) (n : Nat) (x10 : Int32) (x11 : Int32) (oC_12 : Rc) : Option (Rc) := zLp3 (fun (go13 : Int32 → Int32 → Rc → Option (Rc)) (x10 : Int32) (x11 : Int32) (oC_12 : Rc) =>
    if p2 ≤ x11 then (
      J113_7 x10 oC_12
    ) else (
      zLet ((p3 >>> (x11 &&& 31)) &&& (1 : Int32)) fun x14 =>
      zGd (inb x11 12) <|
      zB1 (fX0_lacking x10 (oE 5 x11.toNatClampNeg) x14) fun v15 =>
      zB1 (fX0_note oC_12 x11 v15) fun oC_16 =>
      zB1 (fX0_freshBehind oE x10 x11 x14) fun v17 =>
      zB1 (fX0_ticksOn oE x11 x14) fun v18 =>
      zLet (rs oC_16 1 (fun _ => ((oC_16 1 0) + v18))) fun oC_19 =>
      zB1 (fX0_gatesOn oE x11 x14) fun v20 =>
      zLet (rs oC_19 2 (fun _ => ((oC_19 2 0) + v20))) fun oC_21 =>
      zLet (x11 + 1) fun x22 =>
      go13 v17 x22 oC_21
    )
  ) n x10 x11 oC_12
def fX0_follow (NN : Nat) (oE : Rc) (oC : Rc) (p2 : Int32) (p3 : Int32) : Option (Rc) :=
  zLet (rs oC 1 (fun _ => (0 : Int32))) fun oC_1 =>
  zLet (rs oC_1 2 (fun _ => (0 : Int32))) fun oC_2 =>
  zLet (rs oC_2 3 (fun _ => (0 : Int32))) fun oC_3 =>
  zLet (rs oC_3 4 (fun _ => (0 : Int32))) fun oC_4 =>
  zJn (fun (x5 : Int32) (oC_6 : Rc) =>
      zB1 (fX0_lacking x5 (255 : Int32) (0 : Int32)) fun v8 =>
      zB1 (fX0_note oC_6 p2 v8) fun oC_9 =>
      some oC_9
    ) fun J113_7 =>
  fX0_follow_L27 oE p2 p3 J113_7 NN (65535 : Int32) (0 : Int32) oC_4
abbrev rX0_follow : Room := { frames := 2, cells := 0, slots := 0, locals := 52 }
set_option maxHeartbeats 4000000 in
set_option maxRecDepth 100000 in
theorem mtX0_follow (l : Launch) (dC : Nat → ClassId) (dI : Nat → Nat → Nat) (cI cB : ClassId) (aE aQ aC : Nat → Nat) (sz : Nat) (NN : Nat) (oE : Rc) (oC : Rc) (p2 : Int32) (p3 : Int32) {oC' : Rc} (hf : fX0_follow NN oE oC p2 p3 = some oC') : zMv l yX0_follow (Cond.code yX0_follow cX0_follow 7 none :: lw_g) rX0_follow (dC, dI) [(cI, .int), (cB, .byte)] [.ref (aC 0), .ref (aE 0), .int p2, .int p3] sz (kX2 cI cB aE (aQ 0) oE ++ kX0 cI cB aC oC) (kX2 cI cB aE (aQ 0) oE ++ kX0 cI cB aC oC') := by
  refine zSt (cc := cX0_follow) (maxL := 7) (ret := none) (own := RX0) (fun A => zQv (dC, dI) [(cI, .int), (cB, .byte)] A (kX2 cI cB aE (aQ 0) oE ++ kX0 cI cB aC oC')) (by decide) rfl rfl (Nat.le_of_ble_eq_true rfl) ?_
  intro p e s m below meth c ls A H locs C hK hA hP hD hS hl
  generalize hQ : MQ below (zQv (dC, dI) [(cI, .int), (cB, .byte)] A (kX2 cI cB aE (aQ 0) oE ++ kX0 cI cB aC oC')) _ s 0 0 A = QQ
  generalize ([.ref (aC 0), .ref (aE 0), .int p2, .int p3] : List Value).toArray = args at C hQ ⊢
  have hl : lv_has ls 7 [(0, .ref (aC 0)), (1, .ref (aE 0)), (2, .int p2), (3, .int p3)] := hl
  unfold fX0_follow at hf
  refine lv_aload_n C.1.1 C.1.2.1 dX0_follow_0 rfl (lv_at hl 0 rfl) ?_
  refine lv_iconst (v := 0) C.1.1 C.1.2.1 dX0_follow_1 (by decide) ?_
  obtain ⟨oC_1, eoC_1, hf⟩ := zLet_el hf
  refine zPut (ty := .int) (kX2 cI cB aE (aQ 0) oE ++ kX0 cI cB aC oC_1) C.1 wuX0 tyX0 tyX0_ok nmX0 hK hP hD hS 9 rfl rfl 1 (by decide) wfX0_15 rfl rfl (by decide +kernel) rfl rfl (Nat.le_of_ble_eq_true rfl) dX0_follow_2 (by rw [eoC_1]; rfl) (fun H locs hP hD hS => ?_)
  refine lv_aload_n C.1.1 C.1.2.1 dX0_follow_5 rfl (lv_at hl 0 rfl) ?_
  refine lv_iconst (v := 0) C.1.1 C.1.2.1 dX0_follow_6 (by decide) ?_
  obtain ⟨oC_2, eoC_2, hf⟩ := zLet_el hf
  refine zPut (ty := .int) (kX2 cI cB aE (aQ 0) oE ++ kX0 cI cB aC oC_2) C.1 wuX0 tyX0 tyX0_ok nmX0 hK hP hD hS 9 rfl rfl 2 (by decide) wfX0_19 rfl rfl (by decide +kernel) rfl rfl (Nat.le_of_ble_eq_true rfl) dX0_follow_7 (by rw [eoC_2]; rfl) (fun H locs hP hD hS => ?_)
  refine lv_aload_n C.1.1 C.1.2.1 dX0_follow_10 rfl (lv_at hl 0 rfl) ?_
  refine lv_iconst (v := 0) C.1.1 C.1.2.1 dX0_follow_11 (by decide) ?_
  obtain ⟨oC_3, eoC_3, hf⟩ := zLet_el hf
  refine zPut (ty := .int) (kX2 cI cB aE (aQ 0) oE ++ kX0 cI cB aC oC_3) C.1 wuX0 tyX0 tyX0_ok nmX0 hK hP hD hS 9 rfl rfl 3 (by decide) wfX0_22 rfl rfl (by decide +kernel) rfl rfl (Nat.le_of_ble_eq_true rfl) dX0_follow_12 (by rw [eoC_3]; rfl) (fun H locs hP hD hS => ?_)
  refine lv_aload_n C.1.1 C.1.2.1 dX0_follow_15 rfl (lv_at hl 0 rfl) ?_
  refine lv_iconst (v := 0) C.1.1 C.1.2.1 dX0_follow_16 (by decide) ?_
  obtain ⟨oC_4, eoC_4, hf⟩ := zLet_el hf
  refine zPut (ty := .int) (kX2 cI cB aE (aQ 0) oE ++ kX0 cI cB aC oC_4) C.1 wuX0 tyX0 tyX0_ok nmX0 hK hP hD hS 9 rfl rfl 4 (by decide) wfX0_25 rfl rfl (by decide +kernel) rfl rfl (Nat.le_of_ble_eq_true rfl) dX0_follow_17 (by rw [eoC_4]; rfl) (fun H locs hP hD hS => ?_)
  refine lv_ldc C.1.1 C.1.2.1 C.1.2.2.2.1 (C.1.2.2.2.2 _ wcX0_47) dX0_follow_20 ?_
  refine lv_istore (lv' := [(4, .int (65535 : Int32)), (0, .ref (aC 0)), (1, .ref (aE 0)), (2, .int p2), (3, .int p3)]) C.1.1 C.1.2.1 dX0_follow_22 hl (by decide) rfl (fun ls hl => ?_)
  refine lv_iconst (v := 0) C.1.1 C.1.2.1 dX0_follow_24 (by decide) ?_
  refine lv_istore (lv' := [(5, .int (0 : Int32)), (4, .int (65535 : Int32)), (0, .ref (aC 0)), (1, .ref (aE 0)), (2, .int p2), (3, .int p3)]) C.1.1 C.1.2.1 dX0_follow_25 hl (by decide) rfl (fun ls hl => ?_)
  obtain ⟨J113_7, eJ113_7, hf⟩ := zJn_el hf
  have hJ113_7 : ∀ (x5 : Int32) (oC_6 : Rc), J113_7 x5 oC_6 = some oC' → ∀ (H : Heap) (locs : List Loc), va_P (dC, dI) vwCl (kX2 cI cB aE (aQ 0) oE ++ kX0 cI cB aC oC_6) H → va_D A (kX2 cI cB aE (aQ 0) oE ++ kX0 cI cB aC oC_6) → va_S A s.heap H locs → ∀ (ls : Array Slot), lv_has ls 7 [(0, .ref (aC 0)), (2, .int p2), (4, .int x5)] → W p l e rX0_follow s m args below meth c H locs 0 0 QQ (F0 m 113 ls []) := by
    intro x5 oC_6 hf H locs hP hD hS ls hl
    rw [eJ113_7] at hf
    refine lv_aload_n C.1.1 C.1.2.1 dX0_follow_113 rfl (lv_at hl 0 rfl) ?_
    refine lv_iload_n C.1.1 C.1.2.1 dX0_follow_114 rfl (lv_at hl 1 rfl) ?_
    refine lv_iload C.1.1 C.1.2.1 dX0_follow_115 (lv_at hl 2 rfl) ?_
    refine lv_sipush (v := 255) C.1.1 C.1.2.1 dX0_follow_117 (by decide) ?_
    refine lv_iconst (v := 0) C.1.1 C.1.2.1 dX0_follow_120 (by decide) ?_
    obtain ⟨v8, hg, hf⟩ := zB1_el hf
    refine zCSi (As := [.int x5, .int (255 : Int32), .int (0 : Int32)]) (rest := [.int p2, .ref (aC 0)]) (wr := (kX2 cI cB aE (aQ 0) oE ++ kX0 cI cB aC oC_6)) (wn := (kX2 cI cB aE (aQ 0) oE ++ kX0 cI cB aC oC_6)) C.1 hK hA hP hD hS [] [0, 1, 2, 3, 4, 5, 6, 7, 8, 9, 10, 11, 12, 13, 14] [0, 1, 2, 3, 4, 5, 6, 7, 8, 9, 10, 11, 12, 13, 14] (mtX0_lacking l dC dI cI cB H.size x5 (255 : Int32) (0 : Int32) hg) (zCwS 3 C.1 wlX0_53 wtX0_lacking wnX0 wkX0_lacking rfl rfl (by decide +kernel) ⟨Nat.le_of_ble_eq_true rfl, Nat.le_of_ble_eq_true rfl⟩) rfl rfl (by decide +kernel) rfl rfl hl.1 (Nat.le_of_ble_eq_true rfl) dX0_follow_121 ⟨Nat.zero_le _, Nat.zero_le _⟩ rfl (fun H locs hP hD hS => ?_)
    obtain ⟨oC_9, hg, hf⟩ := zB1_el hf
    refine zCVv (As := [.int p2, .int v8]) (rest := []) (wr := (kX2 cI cB aE (aQ 0) oE)) (wn := (kX2 cI cB aE (aQ 0) oE ++ kX0 cI cB aC oC_9)) C.1 hK hA hP hD hS [9, 10, 11, 12, 13, 14] [0, 1, 2, 3, 4, 5, 6, 7, 8] [0, 1, 2, 3, 4, 5, 6, 7, 8, 9, 10, 11, 12, 13, 14] 0 (mtX0_note l dC dI cI cB aC H.size oC_6 p2 v8 hg) (zCwV 2 C.1 wlX0_57 wiX0_note ws_X0_note wnX0 wkX0_note rfl rfl (by decide +kernel) ⟨Nat.le_of_ble_eq_true rfl, Nat.le_of_ble_eq_true rfl⟩) rfl rfl (by decide +kernel) rfl rfl rfl rfl hl.1 (Nat.le_of_ble_eq_true rfl) dX0_follow_124 ⟨Nat.zero_le _, Nat.zero_le _⟩ rfl (fun H locs hP hD hS => ?_)
    cases hf
    rw [← hQ]
    exact zRv C hK hP hD hS dX0_follow_127
  refine zLp3_ind (o := oC') (P := fun (x10 : Int32) (x11 : Int32) (oC_12 : Rc) => ∀ (H : Heap) (locs : List Loc), va_P (dC, dI) vwCl (kX2 cI cB aE (aQ 0) oE ++ kX0 cI cB aC oC_12) H → va_D A (kX2 cI cB aE (aQ 0) oE ++ kX0 cI cB aC oC_12) → va_S A s.heap H locs → ∀ (ls : Array Slot), lv_has ls 7 [(0, .ref (aC 0)), (1, .ref (aE 0)), (2, .int p2), (3, .int p3), (4, .int x10), (5, .int x11)] → W p l e rX0_follow s m args below meth c H locs 0 0 QQ (F0 m 27 ls [])) (fun go13 ihgo13 x10 x11 oC_12 hf H locs hP hD hS ls hl => ?_) _ (65535 : Int32) (0 : Int32) oC_4 hf H locs hP hD hS ls (lv_sub hl [2, 3, 4, 5, 1, 0] rfl)
  refine lv_iload C.1.1 C.1.2.1 dX0_follow_27 (lv_at hl 5 rfl) ?_
  refine lv_iload_n C.1.1 C.1.2.1 dX0_follow_29 rfl (lv_at hl 2 rfl) ?_
  refine lv_icmp_ge (tgt := 113) C.1.1 C.1.2.1 dX0_follow_30 (by decide) (fun hc => ?_) (fun hc => ?_)
  · replace hf := zIf_t hf hc
    exact hJ113_7 x10 oC_12 hf H locs hP hD hS ls (lv_sub hl [0, 2, 4] rfl)
  · replace hf := zIf_f hf hc
    refine lv_iload_n C.1.1 C.1.2.1 dX0_follow_33 rfl (lv_at hl 3 rfl) ?_
    refine lv_iload C.1.1 C.1.2.1 dX0_follow_34 (lv_at hl 5 rfl) ?_
    refine lv_ishr C.1.1 C.1.2.1 dX0_follow_36 ?_
    refine lv_iconst (v := 1) C.1.1 C.1.2.1 dX0_follow_37 (by decide) ?_
    refine lv_iand C.1.1 C.1.2.1 dX0_follow_38 ?_
    refine lv_topi (fun x14 ex14 => ?_)
    replace hf := zLet_at hf ex14
    refine lv_istore (lv' := [(6, .int x14), (0, .ref (aC 0)), (1, .ref (aE 0)), (2, .int p2), (3, .int p3), (4, .int x10), (5, .int x11)]) C.1.1 C.1.2.1 dX0_follow_39 hl (by decide) rfl (fun ls hl => ?_)
    refine lv_aload_n C.1.1 C.1.2.1 dX0_follow_41 rfl (lv_at hl 1 rfl) ?_
    refine lv_iload C.1.1 C.1.2.1 dX0_follow_42 (lv_at hl 6 rfl) ?_
    refine lv_iload C.1.1 C.1.2.1 dX0_follow_44 (lv_at hl 5 rfl) ?_
    refine lv_aload_n C.1.1 C.1.2.1 dX0_follow_46 rfl (lv_at hl 2 rfl) ?_
    refine zGet (.ref (aE 6)) C.1 wuX2 hK hP 0 rfl rfl 5 (by decide) wfX0_48 rfl rfl dX0_follow_47 ?_
    refine lv_iload C.1.1 C.1.2.1 dX0_follow_50 (lv_at hl 6 rfl) ?_
    obtain ⟨hib, hf⟩ := zGd_el hf
    refine va_iald C.1.1 C.1.2.1 hK.1 hP 6 0 rfl rfl hib dX0_follow_52 ?_
    refine lv_iload C.1.1 C.1.2.1 dX0_follow_53 (lv_at hl 0 rfl) ?_
    obtain ⟨v15, hg, hf⟩ := zB1_el hf
    refine zCSi (As := [.int x10, .int (oE 5 x11.toNatClampNeg), .int x14]) (rest := [.int x11, .ref (aC 0)]) (wr := (kX2 cI cB aE (aQ 0) oE ++ kX0 cI cB aC oC_12)) (wn := (kX2 cI cB aE (aQ 0) oE ++ kX0 cI cB aC oC_12)) C.1 hK hA hP hD hS [] [0, 1, 2, 3, 4, 5, 6, 7, 8, 9, 10, 11, 12, 13, 14] [0, 1, 2, 3, 4, 5, 6, 7, 8, 9, 10, 11, 12, 13, 14] (mtX0_lacking l dC dI cI cB H.size x10 (oE 5 x11.toNatClampNeg) x14 hg) (zCwS 3 C.1 wlX0_53 wtX0_lacking wnX0 wkX0_lacking rfl rfl (by decide +kernel) ⟨Nat.le_of_ble_eq_true rfl, Nat.le_of_ble_eq_true rfl⟩) rfl rfl (by decide +kernel) rfl rfl hl.1 (Nat.le_of_ble_eq_true rfl) dX0_follow_55 ⟨Nat.zero_le _, Nat.zero_le _⟩ rfl (fun H locs hP hD hS => ?_)
    obtain ⟨oC_16, hg, hf⟩ := zB1_el hf
    refine zCVv (As := [.int x11, .int v15]) (rest := []) (wr := (kX2 cI cB aE (aQ 0) oE)) (wn := (kX2 cI cB aE (aQ 0) oE ++ kX0 cI cB aC oC_16)) C.1 hK hA hP hD hS [9, 10, 11, 12, 13, 14] [0, 1, 2, 3, 4, 5, 6, 7, 8] [0, 1, 2, 3, 4, 5, 6, 7, 8, 9, 10, 11, 12, 13, 14] 0 (mtX0_note l dC dI cI cB aC H.size oC_12 x11 v15 hg) (zCwV 2 C.1 wlX0_57 wiX0_note ws_X0_note wnX0 wkX0_note rfl rfl (by decide +kernel) ⟨Nat.le_of_ble_eq_true rfl, Nat.le_of_ble_eq_true rfl⟩) rfl rfl (by decide +kernel) rfl rfl rfl rfl hl.1 (Nat.le_of_ble_eq_true rfl) dX0_follow_58 ⟨Nat.zero_le _, Nat.zero_le _⟩ rfl (fun H locs hP hD hS => ?_)
    refine lv_iload C.1.1 C.1.2.1 dX0_follow_61 (lv_at hl 5 rfl) ?_
    refine lv_aload_n C.1.1 C.1.2.1 dX0_follow_63 rfl (lv_at hl 2 rfl) ?_
    refine lv_iload C.1.1 C.1.2.1 dX0_follow_64 (lv_at hl 6 rfl) ?_
    refine lv_iload C.1.1 C.1.2.1 dX0_follow_66 (lv_at hl 0 rfl) ?_
    obtain ⟨v17, hg, hf⟩ := zB1_el hf
    refine zCSi (As := [.int x10, .ref (aE 0), .int x11, .int x14]) (rest := []) (wr := (kX0 cI cB aC oC_16)) (wn := (kX2 cI cB aE (aQ 0) oE ++ kX0 cI cB aC oC_16)) C.1 hK hA hP hD hS [0, 1, 2, 3, 4, 5, 6, 7, 8] [9, 10, 11, 12, 13, 14] [6, 7, 8, 9, 10, 11, 12, 13, 14, 0, 1, 2, 3, 4, 5] (mtX0_freshBehind l dC dI cI cB aE aQ H.size oE x10 x11 x14 hg) (zCwS 4 C.1 wlX0_61 wtX0_freshBehind wnX0 wkX0_freshBehind rfl rfl (by decide +kernel) ⟨Nat.le_of_ble_eq_true rfl, Nat.le_of_ble_eq_true rfl⟩) rfl rfl (by decide +kernel) rfl rfl hl.1 (Nat.le_of_ble_eq_true rfl) dX0_follow_68 ⟨Nat.zero_le _, Nat.zero_le _⟩ rfl (fun H locs hP hD hS => ?_)
    refine lv_istore (lv' := [(4, .int v17), (6, .int x14), (0, .ref (aC 0)), (1, .ref (aE 0)), (2, .int p2), (3, .int p3), (5, .int x11)]) C.1.1 C.1.2.1 dX0_follow_71 hl (by decide) rfl (fun ls hl => ?_)
    refine lv_aload_n C.1.1 C.1.2.1 dX0_follow_73 rfl (lv_at hl 2 rfl) ?_
    refine lv_dup C.1.1 C.1.2.1 dX0_follow_74 rfl ?_
    refine zGet (.int (oC_16 1 0)) C.1 wuX0 hK hP 9 rfl rfl 1 (by decide) wfX0_15 rfl rfl dX0_follow_75 ?_
    refine lv_aload_n C.1.1 C.1.2.1 dX0_follow_78 rfl (lv_at hl 3 rfl) ?_
    refine lv_iload C.1.1 C.1.2.1 dX0_follow_79 (lv_at hl 6 rfl) ?_
    refine lv_iload C.1.1 C.1.2.1 dX0_follow_81 (lv_at hl 1 rfl) ?_
    obtain ⟨v18, hg, hf⟩ := zB1_el hf
    refine zCSi (As := [.ref (aE 0), .int x11, .int x14]) (rest := [.int (oC_16 1 0), .ref (aC 0)]) (wr := (kX0 cI cB aC oC_16)) (wn := (kX2 cI cB aE (aQ 0) oE ++ kX0 cI cB aC oC_16)) C.1 hK hA hP hD hS [0, 1, 2, 3, 4, 5, 6, 7, 8] [9, 10, 11, 12, 13, 14] [6, 7, 8, 9, 10, 11, 12, 13, 14, 0, 1, 2, 3, 4, 5] (mtX0_ticksOn l dC dI cI cB aE aQ H.size oE x11 x14 hg) (zCwS 3 C.1 wlX0_65 wtX0_ticksOn wnX0 wkX0_ticksOn rfl rfl (by decide +kernel) ⟨Nat.le_of_ble_eq_true rfl, Nat.le_of_ble_eq_true rfl⟩) rfl rfl (by decide +kernel) rfl rfl hl.1 (Nat.le_of_ble_eq_true rfl) dX0_follow_83 ⟨Nat.zero_le _, Nat.zero_le _⟩ rfl (fun H locs hP hD hS => ?_)
    refine lv_iadd C.1.1 C.1.2.1 dX0_follow_86 ?_
    obtain ⟨oC_19, eoC_19, hf⟩ := zLet_el hf
    refine zPut (ty := .int) (kX2 cI cB aE (aQ 0) oE ++ kX0 cI cB aC oC_19) C.1 wuX0 tyX0 tyX0_ok nmX0 hK hP hD hS 9 rfl rfl 1 (by decide) wfX0_15 rfl rfl (by decide +kernel) rfl rfl (Nat.le_of_ble_eq_true rfl) dX0_follow_87 (by rw [eoC_19]; rfl) (fun H locs hP hD hS => ?_)
    refine lv_aload_n C.1.1 C.1.2.1 dX0_follow_90 rfl (lv_at hl 2 rfl) ?_
    refine lv_dup C.1.1 C.1.2.1 dX0_follow_91 rfl ?_
    refine zGet (.int (oC_19 2 0)) C.1 wuX0 hK hP 9 rfl rfl 2 (by decide) wfX0_19 rfl rfl dX0_follow_92 ?_
    refine lv_aload_n C.1.1 C.1.2.1 dX0_follow_95 rfl (lv_at hl 3 rfl) ?_
    refine lv_iload C.1.1 C.1.2.1 dX0_follow_96 (lv_at hl 6 rfl) ?_
    refine lv_iload C.1.1 C.1.2.1 dX0_follow_98 (lv_at hl 1 rfl) ?_
    obtain ⟨v20, hg, hf⟩ := zB1_el hf
    refine zCSi (As := [.ref (aE 0), .int x11, .int x14]) (rest := [.int (oC_19 2 0), .ref (aC 0)]) (wr := (kX0 cI cB aC oC_19)) (wn := (kX2 cI cB aE (aQ 0) oE ++ kX0 cI cB aC oC_19)) C.1 hK hA hP hD hS [0, 1, 2, 3, 4, 5, 6, 7, 8] [9, 10, 11, 12, 13, 14] [6, 7, 8, 9, 10, 11, 12, 13, 14, 0, 1, 2, 3, 4, 5] (mtX0_gatesOn l dC dI cI cB aE aQ H.size oE x11 x14 hg) (zCwS 3 C.1 wlX0_69 wtX0_gatesOn wnX0 wkX0_gatesOn rfl rfl (by decide +kernel) ⟨Nat.le_of_ble_eq_true rfl, Nat.le_of_ble_eq_true rfl⟩) rfl rfl (by decide +kernel) rfl rfl hl.1 (Nat.le_of_ble_eq_true rfl) dX0_follow_100 ⟨Nat.zero_le _, Nat.zero_le _⟩ rfl (fun H locs hP hD hS => ?_)
    refine lv_iadd C.1.1 C.1.2.1 dX0_follow_103 ?_
    obtain ⟨oC_21, eoC_21, hf⟩ := zLet_el hf
    refine zPut (ty := .int) (kX2 cI cB aE (aQ 0) oE ++ kX0 cI cB aC oC_21) C.1 wuX0 tyX0 tyX0_ok nmX0 hK hP hD hS 9 rfl rfl 2 (by decide) wfX0_19 rfl rfl (by decide +kernel) rfl rfl (Nat.le_of_ble_eq_true rfl) dX0_follow_104 (by rw [eoC_21]; rfl) (fun H locs hP hD hS => ?_)
    obtain ⟨x22, ex22, hf⟩ := zLet_el hf
    refine lv_iinc (v := x22) (lv' := [(5, .int x22), (4, .int v17), (6, .int x14), (0, .ref (aC 0)), (1, .ref (aE 0)), (2, .int p2), (3, .int p3)]) C.1.1 C.1.2.1 dX0_follow_107 hl (k := 6) rfl (by rw [ex22]; rfl) (by decide) rfl (fun ls hl => ?_)
    refine lv_goto (tgt := 27) C.1.1 C.1.2.1 dX0_follow_110 (by decide) ?_
    exact ihgo13 v17 x22 oC_21 hf H locs hP hD hS ls (lv_sub hl [3, 4, 5, 6, 1, 0] rfl)
def fX0_extend (oE : Rc) (oC : Rc) (p2 : Int32) (p3 : Int32) (p4 : Int32) (p5 : Int32) : Option (Rc) :=
  zLet (p3 ||| (p4 <<< (p2 &&& 31))) fun x1 =>
  zGd (inb p3 4096) <|
  zLet (oC 8 p3.toNatClampNeg) fun x2 =>
  zGd (inb p2 12) <|
  zB1 (fX0_lacking x2 (oE 5 p2.toNatClampNeg) p4) fun v3 =>
  zGd (inb p3 4096) <|
  zB1 (fX0_ticksOn oE p2 p4) fun v4 =>
  zB1 (fJ6_bitCount_0f7a4 v3) fun v5 =>
  zGd (inb x1 4096) <|
  zLet (rs oC 9 (upd (oC 9) x1.toNatClampNeg (((oC 9 p3.toNatClampNeg) + v4) + (p5 * v5)))) fun oC_6 =>
  zGd (inb p3 4096) <|
  zB1 (fX0_gatesOn oE p2 p4) fun v7 =>
  zGd (inb x1 4096) <|
  zLet (rs oC_6 10 (upd (oC_6 10) x1.toNatClampNeg ((oC_6 10 p3.toNatClampNeg) + v7))) fun oC_8 =>
  zB1 (fX0_freshBehind oE x2 p2 p4) fun v9 =>
  zGd (inb x1 4096) <|
  zLet (rs oC_8 8 (upd (oC_8 8) x1.toNatClampNeg v9)) fun oC_10 =>
  some oC_10
abbrev rX0_extend : Room := { frames := 2, cells := 0, slots := 0, locals := 46 }
set_option maxHeartbeats 4000000 in
set_option maxRecDepth 100000 in
theorem mtX0_extend (l : Launch) (dC : Nat → ClassId) (dI : Nat → Nat → Nat) (cI cB : ClassId) (aE aQ aC : Nat → Nat) (sz : Nat) (oE : Rc) (oC : Rc) (p2 : Int32) (p3 : Int32) (p4 : Int32) (p5 : Int32) {oC' : Rc} (hf : fX0_extend oE oC p2 p3 p4 p5 = some oC') : zMv l yX0_extend (Cond.code yX0_extend cX0_extend 9 none :: lw_g) rX0_extend (dC, dI) [(cI, .int), (cB, .byte)] [.ref (aC 0), .ref (aE 0), .int p2, .int p3, .int p4, .int p5] sz (kX2 cI cB aE (aQ 0) oE ++ kX0 cI cB aC oC) (kX2 cI cB aE (aQ 0) oE ++ kX0 cI cB aC oC') := by
  refine zSt (cc := cX0_extend) (maxL := 9) (ret := none) (own := RX0) (fun A => zQv (dC, dI) [(cI, .int), (cB, .byte)] A (kX2 cI cB aE (aQ 0) oE ++ kX0 cI cB aC oC')) (by decide) rfl rfl (Nat.le_of_ble_eq_true rfl) ?_
  intro p e s m below meth c ls A H locs C hK hA hP hD hS hl
  generalize hQ : MQ below (zQv (dC, dI) [(cI, .int), (cB, .byte)] A (kX2 cI cB aE (aQ 0) oE ++ kX0 cI cB aC oC')) _ s 0 0 A = QQ
  generalize ([.ref (aC 0), .ref (aE 0), .int p2, .int p3, .int p4, .int p5] : List Value).toArray = args at C hQ ⊢
  have hl : lv_has ls 9 [(0, .ref (aC 0)), (1, .ref (aE 0)), (2, .int p2), (3, .int p3), (4, .int p4), (5, .int p5)] := hl
  unfold fX0_extend at hf
  refine lv_iload_n C.1.1 C.1.2.1 dX0_extend_0 rfl (lv_at hl 3 rfl) ?_
  refine lv_iload C.1.1 C.1.2.1 dX0_extend_1 (lv_at hl 4 rfl) ?_
  refine lv_iload_n C.1.1 C.1.2.1 dX0_extend_3 rfl (lv_at hl 2 rfl) ?_
  refine lv_ishl C.1.1 C.1.2.1 dX0_extend_4 ?_
  refine lv_ior C.1.1 C.1.2.1 dX0_extend_5 ?_
  refine lv_topi (fun x1 ex1 => ?_)
  replace hf := zLet_at hf ex1
  refine lv_istore (lv' := [(6, .int x1), (0, .ref (aC 0)), (1, .ref (aE 0)), (2, .int p2), (3, .int p3), (4, .int p4), (5, .int p5)]) C.1.1 C.1.2.1 dX0_extend_6 hl (by decide) rfl (fun ls hl => ?_)
  refine lv_aload_n C.1.1 C.1.2.1 dX0_extend_8 rfl (lv_at hl 1 rfl) ?_
  refine zGet (.ref (aC 3)) C.1 wuX0 hK hP 9 rfl rfl 8 (by decide) wfX0_38 rfl rfl dX0_extend_9 ?_
  refine lv_iload_n C.1.1 C.1.2.1 dX0_extend_12 rfl (lv_at hl 4 rfl) ?_
  obtain ⟨hib, hf⟩ := zGd_el hf
  refine va_iald C.1.1 C.1.2.1 hK.1 hP 12 0 rfl rfl hib dX0_extend_13 ?_
  refine lv_topi (fun x2 ex2 => ?_)
  replace hf := zLet_at hf ex2
  refine lv_istore (lv' := [(7, .int x2), (6, .int x1), (0, .ref (aC 0)), (1, .ref (aE 0)), (2, .int p2), (3, .int p3), (4, .int p4), (5, .int p5)]) C.1.1 C.1.2.1 dX0_extend_14 hl (by decide) rfl (fun ls hl => ?_)
  refine lv_iload C.1.1 C.1.2.1 dX0_extend_16 (lv_at hl 0 rfl) ?_
  refine lv_aload_n C.1.1 C.1.2.1 dX0_extend_18 rfl (lv_at hl 3 rfl) ?_
  refine zGet (.ref (aE 6)) C.1 wuX2 hK hP 0 rfl rfl 5 (by decide) wfX0_48 rfl rfl dX0_extend_19 ?_
  refine lv_iload_n C.1.1 C.1.2.1 dX0_extend_22 rfl (lv_at hl 4 rfl) ?_
  obtain ⟨hib, hf⟩ := zGd_el hf
  refine va_iald C.1.1 C.1.2.1 hK.1 hP 6 0 rfl rfl hib dX0_extend_23 ?_
  refine lv_iload C.1.1 C.1.2.1 dX0_extend_24 (lv_at hl 6 rfl) ?_
  obtain ⟨v3, hg, hf⟩ := zB1_el hf
  refine zCSi (As := [.int x2, .int (oE 5 p2.toNatClampNeg), .int p4]) (rest := []) (wr := (kX2 cI cB aE (aQ 0) oE ++ kX0 cI cB aC oC)) (wn := (kX2 cI cB aE (aQ 0) oE ++ kX0 cI cB aC oC)) C.1 hK hA hP hD hS [] [0, 1, 2, 3, 4, 5, 6, 7, 8, 9, 10, 11, 12, 13, 14] [0, 1, 2, 3, 4, 5, 6, 7, 8, 9, 10, 11, 12, 13, 14] (mtX0_lacking l dC dI cI cB H.size x2 (oE 5 p2.toNatClampNeg) p4 hg) (zCwS 3 C.1 wlX0_53 wtX0_lacking wnX0 wkX0_lacking rfl rfl (by decide +kernel) ⟨Nat.le_of_ble_eq_true rfl, Nat.le_of_ble_eq_true rfl⟩) rfl rfl (by decide +kernel) rfl rfl hl.1 (Nat.le_of_ble_eq_true rfl) dX0_extend_26 ⟨Nat.zero_le _, Nat.zero_le _⟩ rfl (fun H locs hP hD hS => ?_)
  refine lv_istore (lv' := [(8, .int v3), (7, .int x2), (6, .int x1), (0, .ref (aC 0)), (1, .ref (aE 0)), (2, .int p2), (3, .int p3), (4, .int p4), (5, .int p5)]) C.1.1 C.1.2.1 dX0_extend_29 hl (by decide) rfl (fun ls hl => ?_)
  refine lv_aload_n C.1.1 C.1.2.1 dX0_extend_31 rfl (lv_at hl 3 rfl) ?_
  refine zGet (.ref (aC 4)) C.1 wuX0 hK hP 9 rfl rfl 9 (by decide) wfX0_41 rfl rfl dX0_extend_32 ?_
  refine lv_iload C.1.1 C.1.2.1 dX0_extend_35 (lv_at hl 2 rfl) ?_
  refine lv_aload_n C.1.1 C.1.2.1 dX0_extend_37 rfl (lv_at hl 3 rfl) ?_
  refine zGet (.ref (aC 4)) C.1 wuX0 hK hP 9 rfl rfl 9 (by decide) wfX0_41 rfl rfl dX0_extend_38 ?_
  refine lv_iload_n C.1.1 C.1.2.1 dX0_extend_41 rfl (lv_at hl 6 rfl) ?_
  obtain ⟨hib, hf⟩ := zGd_el hf
  refine va_iald C.1.1 C.1.2.1 hK.1 hP 13 0 rfl rfl hib dX0_extend_42 ?_
  refine lv_aload_n C.1.1 C.1.2.1 dX0_extend_43 rfl (lv_at hl 4 rfl) ?_
  refine lv_iload_n C.1.1 C.1.2.1 dX0_extend_44 rfl (lv_at hl 5 rfl) ?_
  refine lv_iload C.1.1 C.1.2.1 dX0_extend_45 (lv_at hl 7 rfl) ?_
  obtain ⟨v4, hg, hf⟩ := zB1_el hf
  refine zCSi (As := [.ref (aE 0), .int p2, .int p4]) (rest := [.int (oC 9 p3.toNatClampNeg), .int x1, .ref (aC 4)]) (wr := (kX0 cI cB aC oC)) (wn := (kX2 cI cB aE (aQ 0) oE ++ kX0 cI cB aC oC)) C.1 hK hA hP hD hS [0, 1, 2, 3, 4, 5, 6, 7, 8] [9, 10, 11, 12, 13, 14] [6, 7, 8, 9, 10, 11, 12, 13, 14, 0, 1, 2, 3, 4, 5] (mtX0_ticksOn l dC dI cI cB aE aQ H.size oE p2 p4 hg) (zCwS 3 C.1 wlX0_65 wtX0_ticksOn wnX0 wkX0_ticksOn rfl rfl (by decide +kernel) ⟨Nat.le_of_ble_eq_true rfl, Nat.le_of_ble_eq_true rfl⟩) rfl rfl (by decide +kernel) rfl rfl hl.1 (Nat.le_of_ble_eq_true rfl) dX0_extend_47 ⟨Nat.zero_le _, Nat.zero_le _⟩ rfl (fun H locs hP hD hS => ?_)
  refine lv_iadd C.1.1 C.1.2.1 dX0_extend_50 ?_
  refine lv_iload C.1.1 C.1.2.1 dX0_extend_51 (lv_at hl 8 rfl) ?_
  refine lv_iload C.1.1 C.1.2.1 dX0_extend_53 (lv_at hl 0 rfl) ?_
  obtain ⟨v5, hg, hf⟩ := zB1_el hf
  refine zCSi (As := [.int v3]) (rest := [.int p5, .int ((oC 9 p3.toNatClampNeg) + v4), .int x1, .ref (aC 4)]) (wr := (kX2 cI cB aE (aQ 0) oE ++ kX0 cI cB aC oC)) (wn := (kX2 cI cB aE (aQ 0) oE ++ kX0 cI cB aC oC)) C.1 hK hA hP hD hS [] [0, 1, 2, 3, 4, 5, 6, 7, 8, 9, 10, 11, 12, 13, 14] [0, 1, 2, 3, 4, 5, 6, 7, 8, 9, 10, 11, 12, 13, 14] (mtJ6_bitCount_0f7a4 l dC dI cI cB H.size v3 hg) (zCwS 1 C.1 wlX0_72 wtJ6_bitCount_0f7a4 wnJ6 wkJ6_bitCount_0f7a4 rfl rfl (by decide +kernel) ⟨Nat.le_of_ble_eq_true rfl, Nat.le_of_ble_eq_true rfl⟩) rfl rfl (by decide +kernel) rfl rfl hl.1 (Nat.le_of_ble_eq_true rfl) dX0_extend_55 ⟨Nat.zero_le _, Nat.zero_le _⟩ rfl (fun H locs hP hD hS => ?_)
  refine lv_imul C.1.1 C.1.2.1 dX0_extend_58 ?_
  refine lv_iadd C.1.1 C.1.2.1 dX0_extend_59 ?_
  obtain ⟨hib, hf⟩ := zGd_el hf
  obtain ⟨oC_6, eoC_6, hf⟩ := zLet_el hf
  refine zIast (kX2 cI cB aE (aQ 0) oE ++ kX0 cI cB aC oC_6) C.1 hK hP hD hS 13 0 rfl rfl hib dX0_extend_60 (by rw [eoC_6]; rfl) (fun H locs hP hD hS => ?_)
  refine lv_aload_n C.1.1 C.1.2.1 dX0_extend_61 rfl (lv_at hl 3 rfl) ?_
  refine zGet (.ref (aC 5)) C.1 wuX0 hK hP 9 rfl rfl 10 (by decide) wfX0_44 rfl rfl dX0_extend_62 ?_
  refine lv_iload C.1.1 C.1.2.1 dX0_extend_65 (lv_at hl 2 rfl) ?_
  refine lv_aload_n C.1.1 C.1.2.1 dX0_extend_67 rfl (lv_at hl 3 rfl) ?_
  refine zGet (.ref (aC 5)) C.1 wuX0 hK hP 9 rfl rfl 10 (by decide) wfX0_44 rfl rfl dX0_extend_68 ?_
  refine lv_iload_n C.1.1 C.1.2.1 dX0_extend_71 rfl (lv_at hl 6 rfl) ?_
  obtain ⟨hib, hf⟩ := zGd_el hf
  refine va_iald C.1.1 C.1.2.1 hK.1 hP 14 0 rfl rfl hib dX0_extend_72 ?_
  refine lv_aload_n C.1.1 C.1.2.1 dX0_extend_73 rfl (lv_at hl 4 rfl) ?_
  refine lv_iload_n C.1.1 C.1.2.1 dX0_extend_74 rfl (lv_at hl 5 rfl) ?_
  refine lv_iload C.1.1 C.1.2.1 dX0_extend_75 (lv_at hl 7 rfl) ?_
  obtain ⟨v7, hg, hf⟩ := zB1_el hf
  refine zCSi (As := [.ref (aE 0), .int p2, .int p4]) (rest := [.int (oC_6 10 p3.toNatClampNeg), .int x1, .ref (aC 5)]) (wr := (kX0 cI cB aC oC_6)) (wn := (kX2 cI cB aE (aQ 0) oE ++ kX0 cI cB aC oC_6)) C.1 hK hA hP hD hS [0, 1, 2, 3, 4, 5, 6, 7, 8] [9, 10, 11, 12, 13, 14] [6, 7, 8, 9, 10, 11, 12, 13, 14, 0, 1, 2, 3, 4, 5] (mtX0_gatesOn l dC dI cI cB aE aQ H.size oE p2 p4 hg) (zCwS 3 C.1 wlX0_69 wtX0_gatesOn wnX0 wkX0_gatesOn rfl rfl (by decide +kernel) ⟨Nat.le_of_ble_eq_true rfl, Nat.le_of_ble_eq_true rfl⟩) rfl rfl (by decide +kernel) rfl rfl hl.1 (Nat.le_of_ble_eq_true rfl) dX0_extend_77 ⟨Nat.zero_le _, Nat.zero_le _⟩ rfl (fun H locs hP hD hS => ?_)
  refine lv_iadd C.1.1 C.1.2.1 dX0_extend_80 ?_
  obtain ⟨hib, hf⟩ := zGd_el hf
  obtain ⟨oC_8, eoC_8, hf⟩ := zLet_el hf
  refine zIast (kX2 cI cB aE (aQ 0) oE ++ kX0 cI cB aC oC_8) C.1 hK hP hD hS 14 0 rfl rfl hib dX0_extend_81 (by rw [eoC_8]; rfl) (fun H locs hP hD hS => ?_)
  refine lv_aload_n C.1.1 C.1.2.1 dX0_extend_82 rfl (lv_at hl 3 rfl) ?_
  refine zGet (.ref (aC 3)) C.1 wuX0 hK hP 9 rfl rfl 8 (by decide) wfX0_38 rfl rfl dX0_extend_83 ?_
  refine lv_iload C.1.1 C.1.2.1 dX0_extend_86 (lv_at hl 2 rfl) ?_
  refine lv_iload C.1.1 C.1.2.1 dX0_extend_88 (lv_at hl 1 rfl) ?_
  refine lv_aload_n C.1.1 C.1.2.1 dX0_extend_90 rfl (lv_at hl 4 rfl) ?_
  refine lv_iload_n C.1.1 C.1.2.1 dX0_extend_91 rfl (lv_at hl 5 rfl) ?_
  refine lv_iload C.1.1 C.1.2.1 dX0_extend_92 (lv_at hl 7 rfl) ?_
  obtain ⟨v9, hg, hf⟩ := zB1_el hf
  refine zCSi (As := [.int x2, .ref (aE 0), .int p2, .int p4]) (rest := [.int x1, .ref (aC 3)]) (wr := (kX0 cI cB aC oC_8)) (wn := (kX2 cI cB aE (aQ 0) oE ++ kX0 cI cB aC oC_8)) C.1 hK hA hP hD hS [0, 1, 2, 3, 4, 5, 6, 7, 8] [9, 10, 11, 12, 13, 14] [6, 7, 8, 9, 10, 11, 12, 13, 14, 0, 1, 2, 3, 4, 5] (mtX0_freshBehind l dC dI cI cB aE aQ H.size oE x2 p2 p4 hg) (zCwS 4 C.1 wlX0_61 wtX0_freshBehind wnX0 wkX0_freshBehind rfl rfl (by decide +kernel) ⟨Nat.le_of_ble_eq_true rfl, Nat.le_of_ble_eq_true rfl⟩) rfl rfl (by decide +kernel) rfl rfl hl.1 (Nat.le_of_ble_eq_true rfl) dX0_extend_94 ⟨Nat.zero_le _, Nat.zero_le _⟩ rfl (fun H locs hP hD hS => ?_)
  obtain ⟨hib, hf⟩ := zGd_el hf
  obtain ⟨oC_10, eoC_10, hf⟩ := zLet_el hf
  refine zIast (kX2 cI cB aE (aQ 0) oE ++ kX0 cI cB aC oC_10) C.1 hK hP hD hS 12 0 rfl rfl hib dX0_extend_97 (by rw [eoC_10]; rfl) (fun H locs hP hD hS => ?_)
  cases hf
  rw [← hQ]
  exact zRv C hK hP hD hS dX0_extend_98
def fX0_reckonAll_L80 (p2 : Int32) (p3 : Int32) (J123_7 : Rc → Option (Rc)) (n : Nat) (x8 : Int32) (oC_9 : Rc) : Option (Rc) := zLp2 (fun (go10 : Int32 → Rc → Option (Rc)) (x8 : Int32) (oC_9 : Rc) =>
    if ((1 : Int32) <<< (p2 &&& 31)) ≤ x8 then (
      J123_7 oC_9
    ) else (
      zGd (inb x8 4096) <|
      zGd (inb x8 4096) <|
      zB1 (fX0_lacking (oC_9 8 x8.toNatClampNeg) (255 : Int32) (0 : Int32)) fun v11 =>
      zB1 (fJ6_bitCount_0f7a4 v11) fun v12 =>
      zGd (inb x8 4096) <|
      zLet (rs oC_9 9 (upd (oC_9 9) x8.toNatClampNeg ((oC_9 9 x8.toNatClampNeg) + (p3 * v12)))) fun oC_13 =>
      zLet (x8 + 1) fun x14 =>
      go10 x14 oC_13
    )
  ) n x8 oC_9
def fX0_reckonAll_L34 (oE : Rc) (p3 : Int32) (x15 : Int32) (J71_19 : Rc → Option (Rc)) (n : Nat) (x21 : Int32) (oC_22 : Rc) : Option (Rc) := zLp2 (fun (go23 : Int32 → Rc → Option (Rc)) (x21 : Int32) (oC_22 : Rc) =>
    if ((1 : Int32) <<< (x15 &&& 31)) ≤ x21 then (
      J71_19 oC_22
    ) else (
      zB1 (fX0_extend oE oC_22 x15 x21 (1 : Int32) p3) fun oC_24 =>
      zB1 (fX0_extend oE oC_24 x15 x21 (0 : Int32) p3) fun oC_25 =>
      zLet (x21 + 1) fun x26 =>
      go23 x26 oC_25
    )
  ) n x21 oC_22
def fX0_reckonAll_L25 (oE : Rc) (p2 : Int32) (p3 : Int32) (NN : Nat) (J77_5 : Rc → Option (Rc)) (n : Nat) (x15 : Int32) (oC_16 : Rc) : Option (Rc) := zLp2 (fun (go17 : Int32 → Rc → Option (Rc)) (x15 : Int32) (oC_16 : Rc) =>
    if p2 ≤ x15 then (
      J77_5 oC_16
    ) else (
      zJn (fun (oC_18 : Rc) =>
          zLet (x15 + 1) fun x20 =>
          go17 x20 oC_18
        ) fun J71_19 =>
      fX0_reckonAll_L34 oE p3 x15 J71_19 NN (0 : Int32) oC_16
    )
  ) n x15 oC_16
def fX0_reckonAll (NN : Nat) (oE : Rc) (oC : Rc) (p2 : Int32) (p3 : Int32) : Option (Rc) :=
  zGd (inb (0 : Int32) 4096) <|
  zLet (rs oC 8 (upd (oC 8) (0 : Int32).toNatClampNeg (65535 : Int32))) fun oC_1 =>
  zGd (inb (0 : Int32) 4096) <|
  zLet (rs oC_1 9 (upd (oC_1 9) (0 : Int32).toNatClampNeg (0 : Int32))) fun oC_2 =>
  zGd (inb (0 : Int32) 4096) <|
  zLet (rs oC_2 10 (upd (oC_2 10) (0 : Int32).toNatClampNeg (0 : Int32))) fun oC_3 =>
  zJn (fun (oC_4 : Rc) =>
      zJn (fun (oC_6 : Rc) =>
          some oC_6
        ) fun J123_7 =>
      fX0_reckonAll_L80 p2 p3 J123_7 NN (0 : Int32) oC_4
    ) fun J77_5 =>
  fX0_reckonAll_L25 oE p2 p3 NN J77_5 NN (0 : Int32) oC_3
abbrev rX0_reckonAll : Room := { frames := 3, cells := 0, slots := 0, locals := 74 }
set_option maxHeartbeats 4000000 in
set_option maxRecDepth 100000 in
theorem mtX0_reckonAll (l : Launch) (dC : Nat → ClassId) (dI : Nat → Nat → Nat) (cI cB : ClassId) (aE aQ aC : Nat → Nat) (sz : Nat) (NN : Nat) (oE : Rc) (oC : Rc) (p2 : Int32) (p3 : Int32) {oC' : Rc} (hf : fX0_reckonAll NN oE oC p2 p3 = some oC') : zMv l yX0_reckonAll (Cond.code yX0_reckonAll cX0_reckonAll 6 none :: lw_g) rX0_reckonAll (dC, dI) [(cI, .int), (cB, .byte)] [.ref (aC 0), .ref (aE 0), .int p2, .int p3] sz (kX2 cI cB aE (aQ 0) oE ++ kX0 cI cB aC oC) (kX2 cI cB aE (aQ 0) oE ++ kX0 cI cB aC oC') := by
  refine zSt (cc := cX0_reckonAll) (maxL := 6) (ret := none) (own := RX0) (fun A => zQv (dC, dI) [(cI, .int), (cB, .byte)] A (kX2 cI cB aE (aQ 0) oE ++ kX0 cI cB aC oC')) (by decide) rfl rfl (Nat.le_of_ble_eq_true rfl) ?_
  intro p e s m below meth c ls A H locs C hK hA hP hD hS hl
  generalize hQ : MQ below (zQv (dC, dI) [(cI, .int), (cB, .byte)] A (kX2 cI cB aE (aQ 0) oE ++ kX0 cI cB aC oC')) _ s 0 0 A = QQ
  generalize ([.ref (aC 0), .ref (aE 0), .int p2, .int p3] : List Value).toArray = args at C hQ ⊢
  have hl : lv_has ls 6 [(0, .ref (aC 0)), (1, .ref (aE 0)), (2, .int p2), (3, .int p3)] := hl
  unfold fX0_reckonAll at hf
  refine lv_aload_n C.1.1 C.1.2.1 dX0_reckonAll_0 rfl (lv_at hl 0 rfl) ?_
  refine zGet (.ref (aC 3)) C.1 wuX0 hK hP 9 rfl rfl 8 (by decide) wfX0_38 rfl rfl dX0_reckonAll_1 ?_
  refine lv_iconst (v := 0) C.1.1 C.1.2.1 dX0_reckonAll_4 (by decide) ?_
  refine lv_ldc C.1.1 C.1.2.1 C.1.2.2.2.1 (C.1.2.2.2.2 _ wcX0_47) dX0_reckonAll_5 ?_
  obtain ⟨hib, hf⟩ := zGd_el hf
  obtain ⟨oC_1, eoC_1, hf⟩ := zLet_el hf
  refine zIast (kX2 cI cB aE (aQ 0) oE ++ kX0 cI cB aC oC_1) C.1 hK hP hD hS 12 0 rfl rfl hib dX0_reckonAll_7 (by rw [eoC_1]; rfl) (fun H locs hP hD hS => ?_)
  refine lv_aload_n C.1.1 C.1.2.1 dX0_reckonAll_8 rfl (lv_at hl 0 rfl) ?_
  refine zGet (.ref (aC 4)) C.1 wuX0 hK hP 9 rfl rfl 9 (by decide) wfX0_41 rfl rfl dX0_reckonAll_9 ?_
  refine lv_iconst (v := 0) C.1.1 C.1.2.1 dX0_reckonAll_12 (by decide) ?_
  refine lv_iconst (v := 0) C.1.1 C.1.2.1 dX0_reckonAll_13 (by decide) ?_
  obtain ⟨hib, hf⟩ := zGd_el hf
  obtain ⟨oC_2, eoC_2, hf⟩ := zLet_el hf
  refine zIast (kX2 cI cB aE (aQ 0) oE ++ kX0 cI cB aC oC_2) C.1 hK hP hD hS 13 0 rfl rfl hib dX0_reckonAll_14 (by rw [eoC_2]; rfl) (fun H locs hP hD hS => ?_)
  refine lv_aload_n C.1.1 C.1.2.1 dX0_reckonAll_15 rfl (lv_at hl 0 rfl) ?_
  refine zGet (.ref (aC 5)) C.1 wuX0 hK hP 9 rfl rfl 10 (by decide) wfX0_44 rfl rfl dX0_reckonAll_16 ?_
  refine lv_iconst (v := 0) C.1.1 C.1.2.1 dX0_reckonAll_19 (by decide) ?_
  refine lv_iconst (v := 0) C.1.1 C.1.2.1 dX0_reckonAll_20 (by decide) ?_
  obtain ⟨hib, hf⟩ := zGd_el hf
  obtain ⟨oC_3, eoC_3, hf⟩ := zLet_el hf
  refine zIast (kX2 cI cB aE (aQ 0) oE ++ kX0 cI cB aC oC_3) C.1 hK hP hD hS 14 0 rfl rfl hib dX0_reckonAll_21 (by rw [eoC_3]; rfl) (fun H locs hP hD hS => ?_)
  refine lv_iconst (v := 0) C.1.1 C.1.2.1 dX0_reckonAll_22 (by decide) ?_
  refine lv_istore (lv' := [(4, .int (0 : Int32)), (0, .ref (aC 0)), (1, .ref (aE 0)), (2, .int p2), (3, .int p3)]) C.1.1 C.1.2.1 dX0_reckonAll_23 hl (by decide) rfl (fun ls hl => ?_)
  obtain ⟨J77_5, eJ77_5, hf⟩ := zJn_el hf
  have hJ77_5 : ∀ (oC_4 : Rc), J77_5 oC_4 = some oC' → ∀ (H : Heap) (locs : List Loc), va_P (dC, dI) vwCl (kX2 cI cB aE (aQ 0) oE ++ kX0 cI cB aC oC_4) H → va_D A (kX2 cI cB aE (aQ 0) oE ++ kX0 cI cB aC oC_4) → va_S A s.heap H locs → ∀ (ls : Array Slot), lv_has ls 6 [(0, .ref (aC 0)), (2, .int p2), (3, .int p3)] → W p l e rX0_reckonAll s m args below meth c H locs 0 0 QQ (F0 m 77 ls []) := by
    intro oC_4 hf H locs hP hD hS ls hl
    rw [eJ77_5] at hf
    refine lv_iconst (v := 0) C.1.1 C.1.2.1 dX0_reckonAll_77 (by decide) ?_
    refine lv_istore (lv' := [(4, .int (0 : Int32)), (0, .ref (aC 0)), (2, .int p2), (3, .int p3)]) C.1.1 C.1.2.1 dX0_reckonAll_78 hl (by decide) rfl (fun ls hl => ?_)
    obtain ⟨J123_7, eJ123_7, hf⟩ := zJn_el hf
    have hJ123_7 : ∀ (oC_6 : Rc), J123_7 oC_6 = some oC' → ∀ (H : Heap) (locs : List Loc), va_P (dC, dI) vwCl (kX2 cI cB aE (aQ 0) oE ++ kX0 cI cB aC oC_6) H → va_D A (kX2 cI cB aE (aQ 0) oE ++ kX0 cI cB aC oC_6) → va_S A s.heap H locs → ∀ (ls : Array Slot), lv_has ls 6 [] → W p l e rX0_reckonAll s m args below meth c H locs 0 0 QQ (F0 m 123 ls []) := by
      intro oC_6 hf H locs hP hD hS ls hl
      rw [eJ123_7] at hf
      cases hf
      rw [← hQ]
      exact zRv C hK hP hD hS dX0_reckonAll_123
    refine zLp2_ind (o := oC') (P := fun (x8 : Int32) (oC_9 : Rc) => ∀ (H : Heap) (locs : List Loc), va_P (dC, dI) vwCl (kX2 cI cB aE (aQ 0) oE ++ kX0 cI cB aC oC_9) H → va_D A (kX2 cI cB aE (aQ 0) oE ++ kX0 cI cB aC oC_9) → va_S A s.heap H locs → ∀ (ls : Array Slot), lv_has ls 6 [(0, .ref (aC 0)), (2, .int p2), (3, .int p3), (4, .int x8)] → W p l e rX0_reckonAll s m args below meth c H locs 0 0 QQ (F0 m 80 ls [])) (fun go10 ihgo10 x8 oC_9 hf H locs hP hD hS ls hl => ?_) _ (0 : Int32) oC_4 hf H locs hP hD hS ls (lv_sub hl [1, 2, 3, 0] rfl)
    refine lv_iload C.1.1 C.1.2.1 dX0_reckonAll_80 (lv_at hl 3 rfl) ?_
    refine lv_iconst (v := 1) C.1.1 C.1.2.1 dX0_reckonAll_82 (by decide) ?_
    refine lv_iload_n C.1.1 C.1.2.1 dX0_reckonAll_83 rfl (lv_at hl 1 rfl) ?_
    refine lv_ishl C.1.1 C.1.2.1 dX0_reckonAll_84 ?_
    refine lv_icmp_ge (tgt := 123) C.1.1 C.1.2.1 dX0_reckonAll_85 (by decide) (fun hc => ?_) (fun hc => ?_)
    · replace hf := zIf_t hf hc
      exact hJ123_7 oC_9 hf H locs hP hD hS ls (lv_sub hl [] rfl)
    · replace hf := zIf_f hf hc
      refine lv_aload_n C.1.1 C.1.2.1 dX0_reckonAll_88 rfl (lv_at hl 0 rfl) ?_
      refine zGet (.ref (aC 4)) C.1 wuX0 hK hP 9 rfl rfl 9 (by decide) wfX0_41 rfl rfl dX0_reckonAll_89 ?_
      refine lv_iload C.1.1 C.1.2.1 dX0_reckonAll_92 (lv_at hl 3 rfl) ?_
      refine lv_dup2_11 C.1.1 C.1.2.1 dX0_reckonAll_94 rfl rfl ?_
      obtain ⟨hib, hf⟩ := zGd_el hf
      refine va_iald C.1.1 C.1.2.1 hK.1 hP 13 0 rfl rfl hib dX0_reckonAll_95 ?_
      refine lv_iload_n C.1.1 C.1.2.1 dX0_reckonAll_96 rfl (lv_at hl 2 rfl) ?_
      refine lv_aload_n C.1.1 C.1.2.1 dX0_reckonAll_97 rfl (lv_at hl 0 rfl) ?_
      refine zGet (.ref (aC 3)) C.1 wuX0 hK hP 9 rfl rfl 8 (by decide) wfX0_38 rfl rfl dX0_reckonAll_98 ?_
      refine lv_iload C.1.1 C.1.2.1 dX0_reckonAll_101 (lv_at hl 3 rfl) ?_
      obtain ⟨hib, hf⟩ := zGd_el hf
      refine va_iald C.1.1 C.1.2.1 hK.1 hP 12 0 rfl rfl hib dX0_reckonAll_103 ?_
      refine lv_sipush (v := 255) C.1.1 C.1.2.1 dX0_reckonAll_104 (by decide) ?_
      refine lv_iconst (v := 0) C.1.1 C.1.2.1 dX0_reckonAll_107 (by decide) ?_
      obtain ⟨v11, hg, hf⟩ := zB1_el hf
      refine zCSi (As := [.int (oC_9 8 x8.toNatClampNeg), .int (255 : Int32), .int (0 : Int32)]) (rest := [.int p3, .int (oC_9 9 x8.toNatClampNeg), .int x8, .ref (aC 4)]) (wr := (kX2 cI cB aE (aQ 0) oE ++ kX0 cI cB aC oC_9)) (wn := (kX2 cI cB aE (aQ 0) oE ++ kX0 cI cB aC oC_9)) C.1 hK hA hP hD hS [] [0, 1, 2, 3, 4, 5, 6, 7, 8, 9, 10, 11, 12, 13, 14] [0, 1, 2, 3, 4, 5, 6, 7, 8, 9, 10, 11, 12, 13, 14] (mtX0_lacking l dC dI cI cB H.size (oC_9 8 x8.toNatClampNeg) (255 : Int32) (0 : Int32) hg) (zCwS 3 C.1 wlX0_53 wtX0_lacking wnX0 wkX0_lacking rfl rfl (by decide +kernel) ⟨Nat.le_of_ble_eq_true rfl, Nat.le_of_ble_eq_true rfl⟩) rfl rfl (by decide +kernel) rfl rfl hl.1 (Nat.le_of_ble_eq_true rfl) dX0_reckonAll_108 ⟨Nat.zero_le _, Nat.zero_le _⟩ rfl (fun H locs hP hD hS => ?_)
      obtain ⟨v12, hg, hf⟩ := zB1_el hf
      refine zCSi (As := [.int v11]) (rest := [.int p3, .int (oC_9 9 x8.toNatClampNeg), .int x8, .ref (aC 4)]) (wr := (kX2 cI cB aE (aQ 0) oE ++ kX0 cI cB aC oC_9)) (wn := (kX2 cI cB aE (aQ 0) oE ++ kX0 cI cB aC oC_9)) C.1 hK hA hP hD hS [] [0, 1, 2, 3, 4, 5, 6, 7, 8, 9, 10, 11, 12, 13, 14] [0, 1, 2, 3, 4, 5, 6, 7, 8, 9, 10, 11, 12, 13, 14] (mtJ6_bitCount_0f7a4 l dC dI cI cB H.size v11 hg) (zCwS 1 C.1 wlX0_72 wtJ6_bitCount_0f7a4 wnJ6 wkJ6_bitCount_0f7a4 rfl rfl (by decide +kernel) ⟨Nat.le_of_ble_eq_true rfl, Nat.le_of_ble_eq_true rfl⟩) rfl rfl (by decide +kernel) rfl rfl hl.1 (Nat.le_of_ble_eq_true rfl) dX0_reckonAll_111 ⟨Nat.zero_le _, Nat.zero_le _⟩ rfl (fun H locs hP hD hS => ?_)
      refine lv_imul C.1.1 C.1.2.1 dX0_reckonAll_114 ?_
      refine lv_iadd C.1.1 C.1.2.1 dX0_reckonAll_115 ?_
      obtain ⟨hib, hf⟩ := zGd_el hf
      obtain ⟨oC_13, eoC_13, hf⟩ := zLet_el hf
      refine zIast (kX2 cI cB aE (aQ 0) oE ++ kX0 cI cB aC oC_13) C.1 hK hP hD hS 13 0 rfl rfl hib dX0_reckonAll_116 (by rw [eoC_13]; rfl) (fun H locs hP hD hS => ?_)
      obtain ⟨x14, ex14, hf⟩ := zLet_el hf
      refine lv_iinc (v := x14) (lv' := [(4, .int x14), (0, .ref (aC 0)), (2, .int p2), (3, .int p3)]) C.1.1 C.1.2.1 dX0_reckonAll_117 hl (k := 3) rfl (by rw [ex14]; rfl) (by decide) rfl (fun ls hl => ?_)
      refine lv_goto (tgt := 80) C.1.1 C.1.2.1 dX0_reckonAll_120 (by decide) ?_
      exact ihgo10 x14 oC_13 hf H locs hP hD hS ls (lv_sub hl [1, 2, 3, 0] rfl)
  refine zLp2_ind (o := oC') (P := fun (x15 : Int32) (oC_16 : Rc) => ∀ (H : Heap) (locs : List Loc), va_P (dC, dI) vwCl (kX2 cI cB aE (aQ 0) oE ++ kX0 cI cB aC oC_16) H → va_D A (kX2 cI cB aE (aQ 0) oE ++ kX0 cI cB aC oC_16) → va_S A s.heap H locs → ∀ (ls : Array Slot), lv_has ls 6 [(0, .ref (aC 0)), (1, .ref (aE 0)), (2, .int p2), (3, .int p3), (4, .int x15)] → W p l e rX0_reckonAll s m args below meth c H locs 0 0 QQ (F0 m 25 ls [])) (fun go17 ihgo17 x15 oC_16 hf H locs hP hD hS ls hl => ?_) _ (0 : Int32) oC_3 hf H locs hP hD hS ls (lv_sub hl [1, 2, 3, 4, 0] rfl)
  refine lv_iload C.1.1 C.1.2.1 dX0_reckonAll_25 (lv_at hl 4 rfl) ?_
  refine lv_iload_n C.1.1 C.1.2.1 dX0_reckonAll_27 rfl (lv_at hl 2 rfl) ?_
  refine lv_icmp_ge (tgt := 77) C.1.1 C.1.2.1 dX0_reckonAll_28 (by decide) (fun hc => ?_) (fun hc => ?_)
  · replace hf := zIf_t hf hc
    exact hJ77_5 oC_16 hf H locs hP hD hS ls (lv_sub hl [0, 2, 3] rfl)
  · replace hf := zIf_f hf hc
    refine lv_iconst (v := 0) C.1.1 C.1.2.1 dX0_reckonAll_31 (by decide) ?_
    refine lv_istore (lv' := [(5, .int (0 : Int32)), (0, .ref (aC 0)), (1, .ref (aE 0)), (2, .int p2), (3, .int p3), (4, .int x15)]) C.1.1 C.1.2.1 dX0_reckonAll_32 hl (by decide) rfl (fun ls hl => ?_)
    obtain ⟨J71_19, eJ71_19, hf⟩ := zJn_el hf
    have hJ71_19 : ∀ (oC_18 : Rc), J71_19 oC_18 = some oC' → ∀ (H : Heap) (locs : List Loc), va_P (dC, dI) vwCl (kX2 cI cB aE (aQ 0) oE ++ kX0 cI cB aC oC_18) H → va_D A (kX2 cI cB aE (aQ 0) oE ++ kX0 cI cB aC oC_18) → va_S A s.heap H locs → ∀ (ls : Array Slot), lv_has ls 6 [(0, .ref (aC 0)), (1, .ref (aE 0)), (2, .int p2), (3, .int p3), (4, .int x15)] → W p l e rX0_reckonAll s m args below meth c H locs 0 0 QQ (F0 m 71 ls []) := by
      intro oC_18 hf H locs hP hD hS ls hl
      rw [eJ71_19] at hf
      obtain ⟨x20, ex20, hf⟩ := zLet_el hf
      refine lv_iinc (v := x20) (lv' := [(4, .int x20), (0, .ref (aC 0)), (1, .ref (aE 0)), (2, .int p2), (3, .int p3)]) C.1.1 C.1.2.1 dX0_reckonAll_71 hl (k := 4) rfl (by rw [ex20]; rfl) (by decide) rfl (fun ls hl => ?_)
      refine lv_goto (tgt := 25) C.1.1 C.1.2.1 dX0_reckonAll_74 (by decide) ?_
      exact ihgo17 x20 oC_18 hf H locs hP hD hS ls (lv_sub hl [1, 2, 3, 4, 0] rfl)
    refine zLp2_ind (o := oC') (P := fun (x21 : Int32) (oC_22 : Rc) => ∀ (H : Heap) (locs : List Loc), va_P (dC, dI) vwCl (kX2 cI cB aE (aQ 0) oE ++ kX0 cI cB aC oC_22) H → va_D A (kX2 cI cB aE (aQ 0) oE ++ kX0 cI cB aC oC_22) → va_S A s.heap H locs → ∀ (ls : Array Slot), lv_has ls 6 [(0, .ref (aC 0)), (1, .ref (aE 0)), (2, .int p2), (3, .int p3), (4, .int x15), (5, .int x21)] → W p l e rX0_reckonAll s m args below meth c H locs 0 0 QQ (F0 m 34 ls [])) (fun go23 ihgo23 x21 oC_22 hf H locs hP hD hS ls hl => ?_) _ (0 : Int32) oC_16 hf H locs hP hD hS ls (lv_sub hl [1, 2, 3, 4, 5, 0] rfl)
    refine lv_iload C.1.1 C.1.2.1 dX0_reckonAll_34 (lv_at hl 5 rfl) ?_
    refine lv_iconst (v := 1) C.1.1 C.1.2.1 dX0_reckonAll_36 (by decide) ?_
    refine lv_iload C.1.1 C.1.2.1 dX0_reckonAll_37 (lv_at hl 4 rfl) ?_
    refine lv_ishl C.1.1 C.1.2.1 dX0_reckonAll_39 ?_
    refine lv_icmp_ge (tgt := 71) C.1.1 C.1.2.1 dX0_reckonAll_40 (by decide) (fun hc => ?_) (fun hc => ?_)
    · replace hf := zIf_t hf hc
      exact hJ71_19 oC_22 hf H locs hP hD hS ls (lv_sub hl [0, 1, 2, 3, 4] rfl)
    · replace hf := zIf_f hf hc
      refine lv_aload_n C.1.1 C.1.2.1 dX0_reckonAll_43 rfl (lv_at hl 0 rfl) ?_
      refine lv_aload_n C.1.1 C.1.2.1 dX0_reckonAll_44 rfl (lv_at hl 1 rfl) ?_
      refine lv_iload C.1.1 C.1.2.1 dX0_reckonAll_45 (lv_at hl 4 rfl) ?_
      refine lv_iload C.1.1 C.1.2.1 dX0_reckonAll_47 (lv_at hl 5 rfl) ?_
      refine lv_iconst (v := 1) C.1.1 C.1.2.1 dX0_reckonAll_49 (by decide) ?_
      refine lv_iload_n C.1.1 C.1.2.1 dX0_reckonAll_50 rfl (lv_at hl 3 rfl) ?_
      obtain ⟨oC_24, hg, hf⟩ := zB1_el hf
      refine zCVv (As := [.ref (aE 0), .int x15, .int x21, .int (1 : Int32), .int p3]) (rest := []) (wr := ([] : va_W)) (wn := (kX2 cI cB aE (aQ 0) oE ++ kX0 cI cB aC oC_24)) C.1 hK hA hP hD hS [0, 1, 2, 3, 4, 5, 6, 7, 8, 9, 10, 11, 12, 13, 14] [] [0, 1, 2, 3, 4, 5, 6, 7, 8, 9, 10, 11, 12, 13, 14] 9 (mtX0_extend l dC dI cI cB aE aQ aC H.size oE oC_22 x15 x21 (1 : Int32) p3 hg) (zCwV 5 C.1 wlX0_103 wiX0_extend ws_X0_extend wnX0 wkX0_extend rfl rfl (by decide +kernel) ⟨Nat.le_of_ble_eq_true rfl, Nat.le_of_ble_eq_true rfl⟩) rfl rfl (by decide +kernel) rfl rfl rfl rfl hl.1 (Nat.le_of_ble_eq_true rfl) dX0_reckonAll_51 ⟨Nat.zero_le _, Nat.zero_le _⟩ rfl (fun H locs hP hD hS => ?_)
      refine lv_aload_n C.1.1 C.1.2.1 dX0_reckonAll_54 rfl (lv_at hl 0 rfl) ?_
      refine lv_aload_n C.1.1 C.1.2.1 dX0_reckonAll_55 rfl (lv_at hl 1 rfl) ?_
      refine lv_iload C.1.1 C.1.2.1 dX0_reckonAll_56 (lv_at hl 4 rfl) ?_
      refine lv_iload C.1.1 C.1.2.1 dX0_reckonAll_58 (lv_at hl 5 rfl) ?_
      refine lv_iconst (v := 0) C.1.1 C.1.2.1 dX0_reckonAll_60 (by decide) ?_
      refine lv_iload_n C.1.1 C.1.2.1 dX0_reckonAll_61 rfl (lv_at hl 3 rfl) ?_
      obtain ⟨oC_25, hg, hf⟩ := zB1_el hf
      refine zCVv (As := [.ref (aE 0), .int x15, .int x21, .int (0 : Int32), .int p3]) (rest := []) (wr := ([] : va_W)) (wn := (kX2 cI cB aE (aQ 0) oE ++ kX0 cI cB aC oC_25)) C.1 hK hA hP hD hS [0, 1, 2, 3, 4, 5, 6, 7, 8, 9, 10, 11, 12, 13, 14] [] [0, 1, 2, 3, 4, 5, 6, 7, 8, 9, 10, 11, 12, 13, 14] 9 (mtX0_extend l dC dI cI cB aE aQ aC H.size oE oC_24 x15 x21 (0 : Int32) p3 hg) (zCwV 5 C.1 wlX0_103 wiX0_extend ws_X0_extend wnX0 wkX0_extend rfl rfl (by decide +kernel) ⟨Nat.le_of_ble_eq_true rfl, Nat.le_of_ble_eq_true rfl⟩) rfl rfl (by decide +kernel) rfl rfl rfl rfl hl.1 (Nat.le_of_ble_eq_true rfl) dX0_reckonAll_62 ⟨Nat.zero_le _, Nat.zero_le _⟩ rfl (fun H locs hP hD hS => ?_)
      obtain ⟨x26, ex26, hf⟩ := zLet_el hf
      refine lv_iinc (v := x26) (lv' := [(5, .int x26), (0, .ref (aC 0)), (1, .ref (aE 0)), (2, .int p2), (3, .int p3), (4, .int x15)]) C.1.1 C.1.2.1 dX0_reckonAll_65 hl (k := 5) rfl (by rw [ex26]; rfl) (by decide) rfl (fun ls hl => ?_)
      refine lv_goto (tgt := 34) C.1.1 C.1.2.1 dX0_reckonAll_68 (by decide) ?_
      exact ihgo23 x26 oC_25 hf H locs hP hD hS ls (lv_sub hl [1, 2, 3, 4, 5, 0] rfl)
def fX0_edgesWithin_L7 (oC : Rc) (p1 : Int32) (J49_3 : Int32 → Option (Int32)) (n : Nat) (x4 : Int32) (x5 : Int32) : Option (Int32) := zLp2 (fun (go6 : Int32 → Int32 → Option (Int32)) (x4 : Int32) (x5 : Int32) =>
    if x5 ≤ x4 then (
      J49_3 x4
    ) else (
      zLet ((x4 + x5) / (2 : Int32)) fun x7 =>
      zGd (inb x7 4096) <|
      zGd (inb (oC 6 x7.toNatClampNeg) 4096) <|
      if p1 < (oC 10 (oC 6 x7.toNatClampNeg).toNatClampNeg) then (
        go6 x4 x7
      ) else (
        zLet (x7 + (1 : Int32)) fun x8 =>
        go6 x8 x5
      )
    )
  ) n x4 x5
def fX0_edgesWithin (NN : Nat) (oC : Rc) (p1 : Int32) : Option (Int32) :=
  zLet (oC 7 0) fun x1 =>
  zJn (fun (x2 : Int32) =>
      some x2
    ) fun J49_3 =>
  fX0_edgesWithin_L7 oC p1 J49_3 NN (0 : Int32) x1
abbrev rX0_edgesWithin : Room := { frames := 0, cells := 0, slots := 0, locals := 0 }
set_option maxHeartbeats 4000000 in
set_option maxRecDepth 100000 in
theorem mtX0_edgesWithin (l : Launch) (dC : Nat → ClassId) (dI : Nat → Nat → Nat) (cI cB : ClassId) (aC : Nat → Nat) (sz : Nat) (NN : Nat) (oC : Rc) (p1 : Int32) {ov : Int32} (hf : fX0_edgesWithin NN oC p1 = some ov) : zMi l yX0_edgesWithin (Cond.code yX0_edgesWithin cX0_edgesWithin 5 (some .int) :: lw_g) rX0_edgesWithin (dC, dI) [(cI, .int), (cB, .byte)] [.ref (aC 0), .int p1] sz (kX0 cI cB aC oC) ov (kX0 cI cB aC oC) := by
  refine zSt (cc := cX0_edgesWithin) (maxL := 5) (ret := (some .int)) (own := RX0) (fun A => zQi (dC, dI) [(cI, .int), (cB, .byte)] A ov (kX0 cI cB aC oC)) (by decide) rfl rfl (Nat.le_of_ble_eq_true rfl) ?_
  intro p e s m below meth c ls A H locs C hK hA hP hD hS hl
  generalize hQ : MQ below (zQi (dC, dI) [(cI, .int), (cB, .byte)] A ov (kX0 cI cB aC oC)) _ s 0 0 A = QQ
  generalize ([.ref (aC 0), .int p1] : List Value).toArray = args at C hQ ⊢
  have hl : lv_has ls 5 [(0, .ref (aC 0)), (1, .int p1)] := hl
  unfold fX0_edgesWithin at hf
  refine lv_iconst (v := 0) C.1.1 C.1.2.1 dX0_edgesWithin_0 (by decide) ?_
  refine lv_istore_n (lv' := [(2, .int (0 : Int32)), (0, .ref (aC 0)), (1, .int p1)]) C.1.1 C.1.2.1 dX0_edgesWithin_1 rfl hl (by decide) rfl (fun ls hl => ?_)
  refine lv_aload_n C.1.1 C.1.2.1 dX0_edgesWithin_2 rfl (lv_at hl 1 rfl) ?_
  refine zGet (.int (oC 7 0)) C.1 wuX0 hK hP 0 rfl rfl 7 (by decide) wfX0_35 rfl rfl dX0_edgesWithin_3 ?_
  refine lv_topi (fun x1 ex1 => ?_)
  replace hf := zLet_at hf ex1
  refine lv_istore_n (lv' := [(3, .int x1), (2, .int (0 : Int32)), (0, .ref (aC 0)), (1, .int p1)]) C.1.1 C.1.2.1 dX0_edgesWithin_6 rfl hl (by decide) rfl (fun ls hl => ?_)
  obtain ⟨J49_3, eJ49_3, hf⟩ := zJn_el hf
  have hJ49_3 : ∀ (x2 : Int32), J49_3 x2 = some ov → ∀ (H : Heap) (locs : List Loc), va_P (dC, dI) vwCl (kX0 cI cB aC oC) H → va_D A (kX0 cI cB aC oC) → va_S A s.heap H locs → ∀ (ls : Array Slot), lv_has ls 5 [(2, .int x2)] → W p l e rX0_edgesWithin s m args below meth c H locs 0 0 QQ (F0 m 49 ls []) := by
    intro x2 hf H locs hP hD hS ls hl
    rw [eJ49_3] at hf
    refine lv_iload_n C.1.1 C.1.2.1 dX0_edgesWithin_49 rfl (lv_at hl 0 rfl) ?_
    cases hf
    rw [← hQ]
    exact zRi C hK hP hD hS dX0_edgesWithin_50
  refine zLp2_ind (o := ov) (P := fun (x4 : Int32) (x5 : Int32) => ∀ (H : Heap) (locs : List Loc), va_P (dC, dI) vwCl (kX0 cI cB aC oC) H → va_D A (kX0 cI cB aC oC) → va_S A s.heap H locs → ∀ (ls : Array Slot), lv_has ls 5 [(0, .ref (aC 0)), (1, .int p1), (2, .int x4), (3, .int x5)] → W p l e rX0_edgesWithin s m args below meth c H locs 0 0 QQ (F0 m 7 ls [])) (fun go6 ihgo6 x4 x5 hf H locs hP hD hS ls hl => ?_) _ (0 : Int32) x1 hf H locs hP hD hS ls (lv_sub hl [2, 3, 1, 0] rfl)
  refine lv_iload_n C.1.1 C.1.2.1 dX0_edgesWithin_7 rfl (lv_at hl 2 rfl) ?_
  refine lv_iload_n C.1.1 C.1.2.1 dX0_edgesWithin_8 rfl (lv_at hl 3 rfl) ?_
  refine lv_icmp_ge (tgt := 49) C.1.1 C.1.2.1 dX0_edgesWithin_9 (by decide) (fun hc => ?_) (fun hc => ?_)
  · replace hf := zIf_t hf hc
    exact hJ49_3 x4 hf H locs hP hD hS ls (lv_sub hl [2] rfl)
  · replace hf := zIf_f hf hc
    refine lv_iload_n C.1.1 C.1.2.1 dX0_edgesWithin_12 rfl (lv_at hl 2 rfl) ?_
    refine lv_iload_n C.1.1 C.1.2.1 dX0_edgesWithin_13 rfl (lv_at hl 3 rfl) ?_
    refine lv_iadd C.1.1 C.1.2.1 dX0_edgesWithin_14 ?_
    refine lv_iconst (v := 2) C.1.1 C.1.2.1 dX0_edgesWithin_15 (by decide) ?_
    refine lv_idiv C.1.1 C.1.2.1 dX0_edgesWithin_16 (by decide) ?_
    refine lv_topi (fun x7 ex7 => ?_)
    replace hf := zLet_at hf ex7
    refine lv_istore (lv' := [(4, .int x7), (0, .ref (aC 0)), (1, .int p1), (2, .int x4), (3, .int x5)]) C.1.1 C.1.2.1 dX0_edgesWithin_17 hl (by decide) rfl (fun ls hl => ?_)
    refine lv_aload_n C.1.1 C.1.2.1 dX0_edgesWithin_19 rfl (lv_at hl 1 rfl) ?_
    refine zGet (.ref (aC 5)) C.1 wuX0 hK hP 0 rfl rfl 10 (by decide) wfX0_44 rfl rfl dX0_edgesWithin_20 ?_
    refine lv_aload_n C.1.1 C.1.2.1 dX0_edgesWithin_23 rfl (lv_at hl 1 rfl) ?_
    refine zGet (.ref (aC 2)) C.1 wuX0 hK hP 0 rfl rfl 6 (by decide) wfX0_32 rfl rfl dX0_edgesWithin_24 ?_
    refine lv_iload C.1.1 C.1.2.1 dX0_edgesWithin_27 (lv_at hl 0 rfl) ?_
    obtain ⟨hib, hf⟩ := zGd_el hf
    refine va_iald C.1.1 C.1.2.1 hK.1 hP 2 0 rfl rfl hib dX0_edgesWithin_29 ?_
    obtain ⟨hib, hf⟩ := zGd_el hf
    refine va_iald C.1.1 C.1.2.1 hK.1 hP 5 0 rfl rfl hib dX0_edgesWithin_30 ?_
    refine lv_iload_n C.1.1 C.1.2.1 dX0_edgesWithin_31 rfl (lv_at hl 2 rfl) ?_
    refine lv_icmp_gt (tgt := 43) C.1.1 C.1.2.1 dX0_edgesWithin_32 (by decide) (fun hc => ?_) (fun hc => ?_)
    · replace hf := zIf_t hf hc
      refine lv_iload C.1.1 C.1.2.1 dX0_edgesWithin_43 (lv_at hl 0 rfl) ?_
      refine lv_istore_n (lv' := [(3, .int x7), (4, .int x7), (0, .ref (aC 0)), (1, .int p1), (2, .int x4)]) C.1.1 C.1.2.1 dX0_edgesWithin_45 rfl hl (by decide) rfl (fun ls hl => ?_)
      refine lv_goto (tgt := 7) C.1.1 C.1.2.1 dX0_edgesWithin_46 (by decide) ?_
      exact ihgo6 x4 x7 hf H locs hP hD hS ls (lv_sub hl [2, 3, 4, 0] rfl)
    · replace hf := zIf_f hf hc
      refine lv_iload C.1.1 C.1.2.1 dX0_edgesWithin_35 (lv_at hl 0 rfl) ?_
      refine lv_iconst (v := 1) C.1.1 C.1.2.1 dX0_edgesWithin_37 (by decide) ?_
      refine lv_iadd C.1.1 C.1.2.1 dX0_edgesWithin_38 ?_
      refine lv_topi (fun x8 ex8 => ?_)
      replace hf := zLet_at hf ex8
      refine lv_istore_n (lv' := [(2, .int x8), (4, .int x7), (0, .ref (aC 0)), (1, .int p1), (3, .int x5)]) C.1.1 C.1.2.1 dX0_edgesWithin_39 rfl hl (by decide) rfl (fun ls hl => ?_)
      refine lv_goto (tgt := 46) C.1.1 C.1.2.1 dX0_edgesWithin_40 (by decide) ?_
      refine lv_goto (tgt := 7) C.1.1 C.1.2.1 dX0_edgesWithin_46 (by decide) ?_
      exact ihgo6 x8 x5 hf H locs hP hD hS ls (lv_sub hl [2, 3, 0, 4] rfl)
def fX0_offer_L69 (oC : Rc) (p1 : Int32) (J103_6 : Int32 → Option (Rc)) (n : Nat) (x11 : Int32) : Option (Rc) := zLp1 (fun (go12 : Int32 → Option (Rc)) (x11 : Int32) =>
    if (oC 7 0) ≤ x11 then (
      J103_6 x11
    ) else (
      zGd (inb x11 4096) <|
      zGd (inb (oC 6 x11.toNatClampNeg) 4096) <|
      zGd (inb p1 4096) <|
      if (oC 9 (oC 6 x11.toNatClampNeg).toNatClampNeg) < (oC 9 p1.toNatClampNeg) then (
        J103_6 x11
      ) else (
        zLet (x11 + 1) fun x13 =>
        go12 x13
      )
    )
  ) n x11
def fX0_offer (NN : Nat) (oC : Rc) (p1 : Int32) : Option (Rc) :=
  zGd (inb p1 4096) <|
  zB1 (fX0_edgesWithin NN oC (oC 10 p1.toNatClampNeg)) fun v1 =>
  zJn (fun (_ : Unit) =>
      zJn (fun (x3 : Int32) =>
          zJn (fun (x5 : Int32) =>
              zLet ((oC 7 0) - x5) fun x7 =>
              if ((x3 + (1 : Int32)) + x7) ≤ (4096 : Int32) then (
                zGd ((¬ x5 < 0) ∧ (¬ (x3 + (1 : Int32)) < 0) ∧ (¬ x7 < 0) ∧ x5.toNatClampNeg + x7.toNatClampNeg ≤ 4096 ∧ (x3 + (1 : Int32)).toNatClampNeg + x7.toNatClampNeg ≤ 4096) <|
                zLet (rs oC 6 (va_cpy (oC 6) (oC 6) x5.toNatClampNeg (x3 + (1 : Int32)).toNatClampNeg x7.toNatClampNeg)) fun oC_8 =>
                zGd (inb x3 4096) <|
                zLet (rs oC_8 6 (upd (oC_8 6) x3.toNatClampNeg p1)) fun oC_9 =>
                zLet (rs oC_9 7 (fun _ => ((x3 + (1 : Int32)) + x7))) fun oC_10 =>
                some oC_10
              ) else (
                some oC
              )
            ) fun J103_6 =>
          fX0_offer_L69 oC p1 J103_6 NN x3
        ) fun J67_4 =>
      if v1 ≤ 0 then (
        J67_4 v1
      ) else (
        zGd (inb (v1 - (1 : Int32)) 4096) <|
        zGd (inb (oC 6 (v1 - (1 : Int32)).toNatClampNeg) 4096) <|
        zGd (inb p1 4096) <|
        if (oC 10 (oC 6 (v1 - (1 : Int32)).toNatClampNeg).toNatClampNeg) = (oC 10 p1.toNatClampNeg) then (
          zLet (v1 + (-1)) fun x14 =>
          J67_4 x14
        ) else (
          J67_4 v1
        )
      )
    ) fun J38_2 =>
  if v1 ≤ 0 then (
    J38_2 ()
  ) else (
    zGd (inb (v1 - (1 : Int32)) 4096) <|
    zGd (inb (oC 6 (v1 - (1 : Int32)).toNatClampNeg) 4096) <|
    zGd (inb p1 4096) <|
    if (oC 9 p1.toNatClampNeg) < (oC 9 (oC 6 (v1 - (1 : Int32)).toNatClampNeg).toNatClampNeg) then (
      J38_2 ()
    ) else (
      some oC
    )
  )
abbrev rX0_offer : Room := { frames := 1, cells := 0, slots := 0, locals := 40 }
set_option maxHeartbeats 4000000 in
set_option maxRecDepth 100000 in
theorem mtX0_offer (l : Launch) (dC : Nat → ClassId) (dI : Nat → Nat → Nat) (cI cB : ClassId) (aC : Nat → Nat) (sz : Nat) (NN : Nat) (oC : Rc) (p1 : Int32) {oC' : Rc} (hf : fX0_offer NN oC p1 = some oC') : zMv l yX0_offer (Cond.code yX0_offer cX0_offer 5 none :: lw_g) rX0_offer (dC, dI) [(cI, .int), (cB, .byte)] [.ref (aC 0), .int p1] sz (kX0 cI cB aC oC) (kX0 cI cB aC oC') := by
  refine zSt (cc := cX0_offer) (maxL := 5) (ret := none) (own := RX0) (fun A => zQv (dC, dI) [(cI, .int), (cB, .byte)] A (kX0 cI cB aC oC')) (by decide) rfl rfl (Nat.le_of_ble_eq_true rfl) ?_
  intro p e s m below meth c ls A H locs C hK hA hP hD hS hl
  generalize hQ : MQ below (zQv (dC, dI) [(cI, .int), (cB, .byte)] A (kX0 cI cB aC oC')) _ s 0 0 A = QQ
  generalize ([.ref (aC 0), .int p1] : List Value).toArray = args at C hQ ⊢
  have hl : lv_has ls 5 [(0, .ref (aC 0)), (1, .int p1)] := hl
  unfold fX0_offer at hf
  refine lv_aload_n C.1.1 C.1.2.1 dX0_offer_0 rfl (lv_at hl 0 rfl) ?_
  refine lv_aload_n C.1.1 C.1.2.1 dX0_offer_1 rfl (lv_at hl 0 rfl) ?_
  refine zGet (.ref (aC 5)) C.1 wuX0 hK hP 0 rfl rfl 10 (by decide) wfX0_44 rfl rfl dX0_offer_2 ?_
  refine lv_iload_n C.1.1 C.1.2.1 dX0_offer_5 rfl (lv_at hl 1 rfl) ?_
  obtain ⟨hib, hf⟩ := zGd_el hf
  refine va_iald C.1.1 C.1.2.1 hK.1 hP 5 0 rfl rfl hib dX0_offer_6 ?_
  obtain ⟨v1, hg, hf⟩ := zB1_el hf
  refine zCVi (As := [.int (oC 10 p1.toNatClampNeg)]) (rest := []) (wr := ([] : va_W)) (wn := (kX0 cI cB aC oC)) C.1 hK hA hP hD hS [0, 1, 2, 3, 4, 5] [] [0, 1, 2, 3, 4, 5] 0 (mtX0_edgesWithin l dC dI cI cB aC H.size NN oC (oC 10 p1.toNatClampNeg) hg) (zCwV 1 C.1 wlX0_107 wiX0_edgesWithin ws_X0_edgesWithin wnX0 wkX0_edgesWithin rfl rfl (by decide +kernel) ⟨Nat.le_of_ble_eq_true rfl, Nat.le_of_ble_eq_true rfl⟩) rfl rfl (by decide +kernel) rfl rfl rfl rfl hl.1 (Nat.le_of_ble_eq_true rfl) dX0_offer_7 ⟨Nat.zero_le _, Nat.zero_le _⟩ rfl (fun H locs hP hD hS => ?_)
  refine lv_istore_n (lv' := [(2, .int v1), (0, .ref (aC 0)), (1, .int p1)]) C.1.1 C.1.2.1 dX0_offer_10 rfl hl (by decide) rfl (fun ls hl => ?_)
  refine lv_iload_n C.1.1 C.1.2.1 dX0_offer_11 rfl (lv_at hl 0 rfl) ?_
  obtain ⟨J38_2, eJ38_2, hf⟩ := zJn_el hf
  have hJ38_2 : ∀ (u : Unit), J38_2 u = some oC' → ∀ (H : Heap) (locs : List Loc), va_P (dC, dI) vwCl (kX0 cI cB aC oC) H → va_D A (kX0 cI cB aC oC) → va_S A s.heap H locs → ∀ (ls : Array Slot), lv_has ls 5 [(0, .ref (aC 0)), (1, .int p1), (2, .int v1)] → W p l e rX0_offer s m args below meth c H locs 0 0 QQ (F0 m 38 ls []) := by
    intro u hf H locs hP hD hS ls hl
    rw [eJ38_2] at hf
    refine lv_iload_n C.1.1 C.1.2.1 dX0_offer_38 rfl (lv_at hl 2 rfl) ?_
    obtain ⟨J67_4, eJ67_4, hf⟩ := zJn_el hf
    have hJ67_4 : ∀ (x3 : Int32), J67_4 x3 = some oC' → ∀ (H : Heap) (locs : List Loc), va_P (dC, dI) vwCl (kX0 cI cB aC oC) H → va_D A (kX0 cI cB aC oC) → va_S A s.heap H locs → ∀ (ls : Array Slot), lv_has ls 5 [(0, .ref (aC 0)), (1, .int p1), (2, .int x3)] → W p l e rX0_offer s m args below meth c H locs 0 0 QQ (F0 m 67 ls []) := by
      intro x3 hf H locs hP hD hS ls hl
      rw [eJ67_4] at hf
      refine lv_iload_n C.1.1 C.1.2.1 dX0_offer_67 rfl (lv_at hl 2 rfl) ?_
      refine lv_istore_n (lv' := [(3, .int x3), (0, .ref (aC 0)), (1, .int p1), (2, .int x3)]) C.1.1 C.1.2.1 dX0_offer_68 rfl hl (by decide) rfl (fun ls hl => ?_)
      obtain ⟨J103_6, eJ103_6, hf⟩ := zJn_el hf
      have hJ103_6 : ∀ (x5 : Int32), J103_6 x5 = some oC' → ∀ (H : Heap) (locs : List Loc), va_P (dC, dI) vwCl (kX0 cI cB aC oC) H → va_D A (kX0 cI cB aC oC) → va_S A s.heap H locs → ∀ (ls : Array Slot), lv_has ls 5 [(0, .ref (aC 0)), (1, .int p1), (2, .int x3), (3, .int x5)] → W p l e rX0_offer s m args below meth c H locs 0 0 QQ (F0 m 103 ls []) := by
        intro x5 hf H locs hP hD hS ls hl
        rw [eJ103_6] at hf
        refine lv_aload_n C.1.1 C.1.2.1 dX0_offer_103 rfl (lv_at hl 0 rfl) ?_
        refine zGet (.int (oC 7 0)) C.1 wuX0 hK hP 0 rfl rfl 7 (by decide) wfX0_35 rfl rfl dX0_offer_104 ?_
        refine lv_iload_n C.1.1 C.1.2.1 dX0_offer_107 rfl (lv_at hl 3 rfl) ?_
        refine lv_isub C.1.1 C.1.2.1 dX0_offer_108 ?_
        refine lv_topi (fun x7 ex7 => ?_)
        replace hf := zLet_at hf ex7
        refine lv_istore (lv' := [(4, .int x7), (0, .ref (aC 0)), (1, .int p1), (2, .int x3), (3, .int x5)]) C.1.1 C.1.2.1 dX0_offer_109 hl (by decide) rfl (fun ls hl => ?_)
        refine lv_iload_n C.1.1 C.1.2.1 dX0_offer_111 rfl (lv_at hl 3 rfl) ?_
        refine lv_iconst (v := 1) C.1.1 C.1.2.1 dX0_offer_112 (by decide) ?_
        refine lv_iadd C.1.1 C.1.2.1 dX0_offer_113 ?_
        refine lv_iload C.1.1 C.1.2.1 dX0_offer_114 (lv_at hl 0 rfl) ?_
        refine lv_iadd C.1.1 C.1.2.1 dX0_offer_116 ?_
        refine lv_aload_n C.1.1 C.1.2.1 dX0_offer_117 rfl (lv_at hl 1 rfl) ?_
        refine zGet (.ref (aC 2)) C.1 wuX0 hK hP 0 rfl rfl 6 (by decide) wfX0_32 rfl rfl dX0_offer_118 ?_
        refine va_alen (v := 4096) C.1.1 C.1.2.1 hK.1 hP 2 0 rfl rfl rfl dX0_offer_121 ?_
        refine lv_icmp_le (tgt := 126) C.1.1 C.1.2.1 dX0_offer_122 (by decide) (fun hc => ?_) (fun hc => ?_)
        · replace hf := zIf_t hf hc
          refine lv_aload_n C.1.1 C.1.2.1 dX0_offer_126 rfl (lv_at hl 1 rfl) ?_
          refine zGet (.ref (aC 2)) C.1 wuX0 hK hP 0 rfl rfl 6 (by decide) wfX0_32 rfl rfl dX0_offer_127 ?_
          refine lv_iload_n C.1.1 C.1.2.1 dX0_offer_130 rfl (lv_at hl 4 rfl) ?_
          refine lv_aload_n C.1.1 C.1.2.1 dX0_offer_131 rfl (lv_at hl 1 rfl) ?_
          refine zGet (.ref (aC 2)) C.1 wuX0 hK hP 0 rfl rfl 6 (by decide) wfX0_32 rfl rfl dX0_offer_132 ?_
          refine lv_iload_n C.1.1 C.1.2.1 dX0_offer_135 rfl (lv_at hl 3 rfl) ?_
          refine lv_iconst (v := 1) C.1.1 C.1.2.1 dX0_offer_136 (by decide) ?_
          refine lv_iadd C.1.1 C.1.2.1 dX0_offer_137 ?_
          refine lv_iload C.1.1 C.1.2.1 dX0_offer_138 (lv_at hl 0 rfl) ?_
          obtain ⟨⟨hc1, hc2, hc3, hc4, hc5⟩, hf⟩ := zGd_el hf
          obtain ⟨oC_8, eoC_8, hf⟩ := zLet_el hf
          refine va_copyi (ty := .int) C.1.1 C.1.2.1 (C.1.2.2.1.trans hl.1.symm) C.1.2.2.2.1 (C.1.2.2.2.2 _ wlX0_110) (C.1.2.2.2.2 _ wAcN) (C.1.2.2.2.2 _ wAcS) (C.1.2.2.2.2 _ wAcI) hK.1 hP hD hS 2 2 0 0 rfl rfl rfl rfl rfl hc1 hc2 hc3 hc4 hc5 (fun _ _ => rfl) (Nat.le_of_ble_eq_true rfl) (by decide +kernel) dX0_offer_140 (fun H locs hP hD hS => ?_)
          replace hP : va_P (dC, dI) vwCl (kX0 cI cB aC oC_8) H := by rw [eoC_8]; exact hP
          replace hD : va_D A (kX0 cI cB aC oC_8) := by rw [eoC_8]; exact hD
          refine lv_aload_n C.1.1 C.1.2.1 dX0_offer_143 rfl (lv_at hl 1 rfl) ?_
          refine zGet (.ref (aC 2)) C.1 wuX0 hK hP 0 rfl rfl 6 (by decide) wfX0_32 rfl rfl dX0_offer_144 ?_
          refine lv_iload_n C.1.1 C.1.2.1 dX0_offer_147 rfl (lv_at hl 3 rfl) ?_
          refine lv_iload_n C.1.1 C.1.2.1 dX0_offer_148 rfl (lv_at hl 2 rfl) ?_
          obtain ⟨hib, hf⟩ := zGd_el hf
          obtain ⟨oC_9, eoC_9, hf⟩ := zLet_el hf
          refine zIast (kX0 cI cB aC oC_9) C.1 hK hP hD hS 2 0 rfl rfl hib dX0_offer_149 (by rw [eoC_9]; rfl) (fun H locs hP hD hS => ?_)
          refine lv_aload_n C.1.1 C.1.2.1 dX0_offer_150 rfl (lv_at hl 1 rfl) ?_
          refine lv_iload_n C.1.1 C.1.2.1 dX0_offer_151 rfl (lv_at hl 3 rfl) ?_
          refine lv_iconst (v := 1) C.1.1 C.1.2.1 dX0_offer_152 (by decide) ?_
          refine lv_iadd C.1.1 C.1.2.1 dX0_offer_153 ?_
          refine lv_iload C.1.1 C.1.2.1 dX0_offer_154 (lv_at hl 0 rfl) ?_
          refine lv_iadd C.1.1 C.1.2.1 dX0_offer_156 ?_
          obtain ⟨oC_10, eoC_10, hf⟩ := zLet_el hf
          refine zPut (ty := .int) (kX0 cI cB aC oC_10) C.1 wuX0 tyX0 tyX0_ok nmX0 hK hP hD hS 0 rfl rfl 7 (by decide) wfX0_35 rfl rfl (by decide +kernel) rfl rfl (Nat.le_of_ble_eq_true rfl) dX0_offer_157 (by rw [eoC_10]; rfl) (fun H locs hP hD hS => ?_)
          cases hf
          rw [← hQ]
          exact zRv C hK hP hD hS dX0_offer_160
        · replace hf := zIf_f hf hc
          cases hf
          rw [← hQ]
          exact zRv C hK hP hD hS dX0_offer_125
      refine zLp1_ind (o := oC') (P := fun (x11 : Int32) => ∀ (H : Heap) (locs : List Loc), va_P (dC, dI) vwCl (kX0 cI cB aC oC) H → va_D A (kX0 cI cB aC oC) → va_S A s.heap H locs → ∀ (ls : Array Slot), lv_has ls 5 [(0, .ref (aC 0)), (1, .int p1), (2, .int x3), (3, .int x11)] → W p l e rX0_offer s m args below meth c H locs 0 0 QQ (F0 m 69 ls [])) (fun go12 ihgo12 x11 hf H locs hP hD hS ls hl => ?_) _ x3 hf H locs hP hD hS ls (lv_sub hl [1, 2, 3, 0] rfl)
      refine lv_iload_n C.1.1 C.1.2.1 dX0_offer_69 rfl (lv_at hl 3 rfl) ?_
      refine lv_aload_n C.1.1 C.1.2.1 dX0_offer_70 rfl (lv_at hl 0 rfl) ?_
      refine zGet (.int (oC 7 0)) C.1 wuX0 hK hP 0 rfl rfl 7 (by decide) wfX0_35 rfl rfl dX0_offer_71 ?_
      refine lv_icmp_ge (tgt := 103) C.1.1 C.1.2.1 dX0_offer_74 (by decide) (fun hc => ?_) (fun hc => ?_)
      · replace hf := zIf_t hf hc
        exact hJ103_6 x11 hf H locs hP hD hS ls (lv_sub hl [0, 1, 2, 3] rfl)
      · replace hf := zIf_f hf hc
        refine lv_aload_n C.1.1 C.1.2.1 dX0_offer_77 rfl (lv_at hl 0 rfl) ?_
        refine zGet (.ref (aC 4)) C.1 wuX0 hK hP 0 rfl rfl 9 (by decide) wfX0_41 rfl rfl dX0_offer_78 ?_
        refine lv_aload_n C.1.1 C.1.2.1 dX0_offer_81 rfl (lv_at hl 0 rfl) ?_
        refine zGet (.ref (aC 2)) C.1 wuX0 hK hP 0 rfl rfl 6 (by decide) wfX0_32 rfl rfl dX0_offer_82 ?_
        refine lv_iload_n C.1.1 C.1.2.1 dX0_offer_85 rfl (lv_at hl 3 rfl) ?_
        obtain ⟨hib, hf⟩ := zGd_el hf
        refine va_iald C.1.1 C.1.2.1 hK.1 hP 2 0 rfl rfl hib dX0_offer_86 ?_
        obtain ⟨hib, hf⟩ := zGd_el hf
        refine va_iald C.1.1 C.1.2.1 hK.1 hP 4 0 rfl rfl hib dX0_offer_87 ?_
        refine lv_aload_n C.1.1 C.1.2.1 dX0_offer_88 rfl (lv_at hl 0 rfl) ?_
        refine zGet (.ref (aC 4)) C.1 wuX0 hK hP 0 rfl rfl 9 (by decide) wfX0_41 rfl rfl dX0_offer_89 ?_
        refine lv_iload_n C.1.1 C.1.2.1 dX0_offer_92 rfl (lv_at hl 1 rfl) ?_
        obtain ⟨hib, hf⟩ := zGd_el hf
        refine va_iald C.1.1 C.1.2.1 hK.1 hP 4 0 rfl rfl hib dX0_offer_93 ?_
        refine lv_icmp_lt (tgt := 103) C.1.1 C.1.2.1 dX0_offer_94 (by decide) (fun hc => ?_) (fun hc => ?_)
        · replace hf := zIf_t hf hc
          exact hJ103_6 x11 hf H locs hP hD hS ls (lv_sub hl [0, 1, 2, 3] rfl)
        · replace hf := zIf_f hf hc
          obtain ⟨x13, ex13, hf⟩ := zLet_el hf
          refine lv_iinc (v := x13) (lv' := [(3, .int x13), (0, .ref (aC 0)), (1, .int p1), (2, .int x3)]) C.1.1 C.1.2.1 dX0_offer_97 hl (k := 3) rfl (by rw [ex13]; rfl) (by decide) rfl (fun ls hl => ?_)
          refine lv_goto (tgt := 69) C.1.1 C.1.2.1 dX0_offer_100 (by decide) ?_
          exact ihgo12 x13 hf H locs hP hD hS ls (lv_sub hl [1, 2, 3, 0] rfl)
    refine lv_if_le (tgt := 67) C.1.1 C.1.2.1 dX0_offer_39 (by decide) (fun hc => ?_) (fun hc => ?_)
    · replace hf := zIf_t hf hc
      exact hJ67_4 v1 hf H locs hP hD hS ls (lv_sub hl [0, 1, 2] rfl)
    · replace hf := zIf_f hf hc
      refine lv_aload_n C.1.1 C.1.2.1 dX0_offer_42 rfl (lv_at hl 0 rfl) ?_
      refine zGet (.ref (aC 5)) C.1 wuX0 hK hP 0 rfl rfl 10 (by decide) wfX0_44 rfl rfl dX0_offer_43 ?_
      refine lv_aload_n C.1.1 C.1.2.1 dX0_offer_46 rfl (lv_at hl 0 rfl) ?_
      refine zGet (.ref (aC 2)) C.1 wuX0 hK hP 0 rfl rfl 6 (by decide) wfX0_32 rfl rfl dX0_offer_47 ?_
      refine lv_iload_n C.1.1 C.1.2.1 dX0_offer_50 rfl (lv_at hl 2 rfl) ?_
      refine lv_iconst (v := 1) C.1.1 C.1.2.1 dX0_offer_51 (by decide) ?_
      refine lv_isub C.1.1 C.1.2.1 dX0_offer_52 ?_
      obtain ⟨hib, hf⟩ := zGd_el hf
      refine va_iald C.1.1 C.1.2.1 hK.1 hP 2 0 rfl rfl hib dX0_offer_53 ?_
      obtain ⟨hib, hf⟩ := zGd_el hf
      refine va_iald C.1.1 C.1.2.1 hK.1 hP 5 0 rfl rfl hib dX0_offer_54 ?_
      refine lv_aload_n C.1.1 C.1.2.1 dX0_offer_55 rfl (lv_at hl 0 rfl) ?_
      refine zGet (.ref (aC 5)) C.1 wuX0 hK hP 0 rfl rfl 10 (by decide) wfX0_44 rfl rfl dX0_offer_56 ?_
      refine lv_iload_n C.1.1 C.1.2.1 dX0_offer_59 rfl (lv_at hl 1 rfl) ?_
      obtain ⟨hib, hf⟩ := zGd_el hf
      refine va_iald C.1.1 C.1.2.1 hK.1 hP 5 0 rfl rfl hib dX0_offer_60 ?_
      refine lv_icmp_ne (tgt := 67) C.1.1 C.1.2.1 dX0_offer_61 (by decide) (fun hc => ?_) (fun hc => ?_)
      · replace hf := zIf_f hf hc
        exact hJ67_4 v1 hf H locs hP hD hS ls (lv_sub hl [0, 1, 2] rfl)
      · replace hf := zIf_t hf hc
        obtain ⟨x14, ex14, hf⟩ := zLet_el hf
        refine lv_iinc (v := x14) (lv' := [(2, .int x14), (0, .ref (aC 0)), (1, .int p1)]) C.1.1 C.1.2.1 dX0_offer_64 hl (k := 2) rfl (by rw [ex14]; rfl) (by decide) rfl (fun ls hl => ?_)
        exact hJ67_4 x14 hf H locs hP hD hS ls (lv_sub hl [1, 2, 0] rfl)
  refine lv_if_le (tgt := 38) C.1.1 C.1.2.1 dX0_offer_12 (by decide) (fun hc => ?_) (fun hc => ?_)
  · replace hf := zIf_t hf hc
    exact hJ38_2 () hf H locs hP hD hS ls (lv_sub hl [1, 2, 0] rfl)
  · replace hf := zIf_f hf hc
    refine lv_aload_n C.1.1 C.1.2.1 dX0_offer_15 rfl (lv_at hl 1 rfl) ?_
    refine zGet (.ref (aC 4)) C.1 wuX0 hK hP 0 rfl rfl 9 (by decide) wfX0_41 rfl rfl dX0_offer_16 ?_
    refine lv_aload_n C.1.1 C.1.2.1 dX0_offer_19 rfl (lv_at hl 1 rfl) ?_
    refine zGet (.ref (aC 2)) C.1 wuX0 hK hP 0 rfl rfl 6 (by decide) wfX0_32 rfl rfl dX0_offer_20 ?_
    refine lv_iload_n C.1.1 C.1.2.1 dX0_offer_23 rfl (lv_at hl 0 rfl) ?_
    refine lv_iconst (v := 1) C.1.1 C.1.2.1 dX0_offer_24 (by decide) ?_
    refine lv_isub C.1.1 C.1.2.1 dX0_offer_25 ?_
    obtain ⟨hib, hf⟩ := zGd_el hf
    refine va_iald C.1.1 C.1.2.1 hK.1 hP 2 0 rfl rfl hib dX0_offer_26 ?_
    obtain ⟨hib, hf⟩ := zGd_el hf
    refine va_iald C.1.1 C.1.2.1 hK.1 hP 4 0 rfl rfl hib dX0_offer_27 ?_
    refine lv_aload_n C.1.1 C.1.2.1 dX0_offer_28 rfl (lv_at hl 1 rfl) ?_
    refine zGet (.ref (aC 4)) C.1 wuX0 hK hP 0 rfl rfl 9 (by decide) wfX0_41 rfl rfl dX0_offer_29 ?_
    refine lv_iload_n C.1.1 C.1.2.1 dX0_offer_32 rfl (lv_at hl 2 rfl) ?_
    obtain ⟨hib, hf⟩ := zGd_el hf
    refine va_iald C.1.1 C.1.2.1 hK.1 hP 4 0 rfl rfl hib dX0_offer_33 ?_
    refine lv_icmp_gt (tgt := 38) C.1.1 C.1.2.1 dX0_offer_34 (by decide) (fun hc => ?_) (fun hc => ?_)
    · replace hf := zIf_t hf hc
      exact hJ38_2 () hf H locs hP hD hS ls (lv_sub hl [1, 2, 0] rfl)
    · replace hf := zIf_f hf hc
      cases hf
      rw [← hQ]
      exact zRv C hK hP hD hS dX0_offer_37
def fX0_prepare_L23 (p2 : Int32) (NN : Nat) (J43_4 : Rc → Option (Rc)) (n : Nat) (x6 : Int32) (oC_7 : Rc) : Option (Rc) := zLp2 (fun (go8 : Int32 → Rc → Option (Rc)) (x6 : Int32) (oC_7 : Rc) =>
    if ((1 : Int32) <<< (p2 &&& 31)) ≤ x6 then (
      J43_4 oC_7
    ) else (
      zB1 (fX0_offer NN oC_7 x6) fun oC_9 =>
      zLet (x6 + 1) fun x10 =>
      go8 x10 oC_9
    )
  ) n x6 oC_7
def fX0_prepare (NN : Nat) (oE : Rc) (oC : Rc) (p2 : Int32) (p3 : Int32) : Option (Rc) :=
  if (oC 5 0) = 0 then (
    zB1 (fX0_reckonAll NN oE oC p2 p3) fun oC_1 =>
    zLet (rs oC_1 7 (fun _ => (0 : Int32))) fun oC_2 =>
    zJn (fun (oC_3 : Rc) =>
        zLet (rs oC_3 5 (fun _ => (1 : Int32))) fun oC_5 =>
        some oC_5
      ) fun J43_4 =>
    fX0_prepare_L23 p2 NN J43_4 NN (0 : Int32) oC_2
  ) else (
    some oC
  )
abbrev rX0_prepare : Room := { frames := 4, cells := 0, slots := 0, locals := 99 }
set_option maxHeartbeats 4000000 in
set_option maxRecDepth 100000 in
theorem mtX0_prepare (l : Launch) (dC : Nat → ClassId) (dI : Nat → Nat → Nat) (cI cB : ClassId) (aE aQ aC : Nat → Nat) (sz : Nat) (NN : Nat) (oE : Rc) (oC : Rc) (p2 : Int32) (p3 : Int32) {oC' : Rc} (hf : fX0_prepare NN oE oC p2 p3 = some oC') : zMv l yX0_prepare (Cond.code yX0_prepare cX0_prepare 5 none :: lw_g) rX0_prepare (dC, dI) [(cI, .int), (cB, .byte)] [.ref (aC 0), .ref (aE 0), .int p2, .int p3] sz (kX2 cI cB aE (aQ 0) oE ++ kX0 cI cB aC oC) (kX2 cI cB aE (aQ 0) oE ++ kX0 cI cB aC oC') := by
  refine zSt (cc := cX0_prepare) (maxL := 5) (ret := none) (own := RX0) (fun A => zQv (dC, dI) [(cI, .int), (cB, .byte)] A (kX2 cI cB aE (aQ 0) oE ++ kX0 cI cB aC oC')) (by decide) rfl rfl (Nat.le_of_ble_eq_true rfl) ?_
  intro p e s m below meth c ls A H locs C hK hA hP hD hS hl
  generalize hQ : MQ below (zQv (dC, dI) [(cI, .int), (cB, .byte)] A (kX2 cI cB aE (aQ 0) oE ++ kX0 cI cB aC oC')) _ s 0 0 A = QQ
  generalize ([.ref (aC 0), .ref (aE 0), .int p2, .int p3] : List Value).toArray = args at C hQ ⊢
  have hl : lv_has ls 5 [(0, .ref (aC 0)), (1, .ref (aE 0)), (2, .int p2), (3, .int p3)] := hl
  unfold fX0_prepare at hf
  refine lv_aload_n C.1.1 C.1.2.1 dX0_prepare_0 rfl (lv_at hl 0 rfl) ?_
  refine zGet (.int (oC 5 0)) C.1 wuX0 hK hP 9 rfl rfl 5 (by decide) wfX0_28 rfl rfl dX0_prepare_1 ?_
  refine lv_if_eq (tgt := 8) C.1.1 C.1.2.1 dX0_prepare_4 (by decide) (fun hc => ?_) (fun hc => ?_)
  · replace hf := zIf_t hf hc
    refine lv_aload_n C.1.1 C.1.2.1 dX0_prepare_8 rfl (lv_at hl 0 rfl) ?_
    refine lv_aload_n C.1.1 C.1.2.1 dX0_prepare_9 rfl (lv_at hl 1 rfl) ?_
    refine lv_iload_n C.1.1 C.1.2.1 dX0_prepare_10 rfl (lv_at hl 2 rfl) ?_
    refine lv_iload_n C.1.1 C.1.2.1 dX0_prepare_11 rfl (lv_at hl 3 rfl) ?_
    obtain ⟨oC_1, hg, hf⟩ := zB1_el hf
    refine zCVv (As := [.ref (aE 0), .int p2, .int p3]) (rest := []) (wr := ([] : va_W)) (wn := (kX2 cI cB aE (aQ 0) oE ++ kX0 cI cB aC oC_1)) C.1 hK hA hP hD hS [0, 1, 2, 3, 4, 5, 6, 7, 8, 9, 10, 11, 12, 13, 14] [] [0, 1, 2, 3, 4, 5, 6, 7, 8, 9, 10, 11, 12, 13, 14] 9 (mtX0_reckonAll l dC dI cI cB aE aQ aC H.size NN oE oC p2 p3 hg) (zCwV 3 C.1 wlX0_95 wiX0_reckonAll ws_X0_reckonAll wnX0 wkX0_reckonAll rfl rfl (by decide +kernel) ⟨Nat.le_of_ble_eq_true rfl, Nat.le_of_ble_eq_true rfl⟩) rfl rfl (by decide +kernel) rfl rfl rfl rfl hl.1 (Nat.le_of_ble_eq_true rfl) dX0_prepare_12 ⟨Nat.zero_le _, Nat.zero_le _⟩ rfl (fun H locs hP hD hS => ?_)
    refine lv_aload_n C.1.1 C.1.2.1 dX0_prepare_15 rfl (lv_at hl 0 rfl) ?_
    refine lv_iconst (v := 0) C.1.1 C.1.2.1 dX0_prepare_16 (by decide) ?_
    obtain ⟨oC_2, eoC_2, hf⟩ := zLet_el hf
    refine zPut (ty := .int) (kX2 cI cB aE (aQ 0) oE ++ kX0 cI cB aC oC_2) C.1 wuX0 tyX0 tyX0_ok nmX0 hK hP hD hS 9 rfl rfl 7 (by decide) wfX0_35 rfl rfl (by decide +kernel) rfl rfl (Nat.le_of_ble_eq_true rfl) dX0_prepare_17 (by rw [eoC_2]; rfl) (fun H locs hP hD hS => ?_)
    refine lv_iconst (v := 0) C.1.1 C.1.2.1 dX0_prepare_20 (by decide) ?_
    refine lv_istore (lv' := [(4, .int (0 : Int32)), (0, .ref (aC 0)), (1, .ref (aE 0)), (2, .int p2), (3, .int p3)]) C.1.1 C.1.2.1 dX0_prepare_21 hl (by decide) rfl (fun ls hl => ?_)
    obtain ⟨J43_4, eJ43_4, hf⟩ := zJn_el hf
    have hJ43_4 : ∀ (oC_3 : Rc), J43_4 oC_3 = some oC' → ∀ (H : Heap) (locs : List Loc), va_P (dC, dI) vwCl (kX2 cI cB aE (aQ 0) oE ++ kX0 cI cB aC oC_3) H → va_D A (kX2 cI cB aE (aQ 0) oE ++ kX0 cI cB aC oC_3) → va_S A s.heap H locs → ∀ (ls : Array Slot), lv_has ls 5 [(0, .ref (aC 0))] → W p l e rX0_prepare s m args below meth c H locs 0 0 QQ (F0 m 43 ls []) := by
      intro oC_3 hf H locs hP hD hS ls hl
      rw [eJ43_4] at hf
      refine lv_aload_n C.1.1 C.1.2.1 dX0_prepare_43 rfl (lv_at hl 0 rfl) ?_
      refine lv_iconst (v := 1) C.1.1 C.1.2.1 dX0_prepare_44 (by decide) ?_
      obtain ⟨oC_5, eoC_5, hf⟩ := zLet_el hf
      refine zPut (ty := .boolean) (kX2 cI cB aE (aQ 0) oE ++ kX0 cI cB aC oC_5) C.1 wuX0 tyX0 tyX0_ok nmX0 hK hP hD hS 9 rfl rfl 5 (by decide) wfX0_28 rfl rfl (by decide +kernel) (by decide +kernel) (by decide +kernel) (Nat.le_of_ble_eq_true rfl) dX0_prepare_45 (by rw [eoC_5]; rfl) (fun H locs hP hD hS => ?_)
      cases hf
      rw [← hQ]
      exact zRv C hK hP hD hS dX0_prepare_48
    refine zLp2_ind (o := oC') (P := fun (x6 : Int32) (oC_7 : Rc) => ∀ (H : Heap) (locs : List Loc), va_P (dC, dI) vwCl (kX2 cI cB aE (aQ 0) oE ++ kX0 cI cB aC oC_7) H → va_D A (kX2 cI cB aE (aQ 0) oE ++ kX0 cI cB aC oC_7) → va_S A s.heap H locs → ∀ (ls : Array Slot), lv_has ls 5 [(0, .ref (aC 0)), (2, .int p2), (4, .int x6)] → W p l e rX0_prepare s m args below meth c H locs 0 0 QQ (F0 m 23 ls [])) (fun go8 ihgo8 x6 oC_7 hf H locs hP hD hS ls hl => ?_) _ (0 : Int32) oC_2 hf H locs hP hD hS ls (lv_sub hl [1, 3, 0] rfl)
    refine lv_iload C.1.1 C.1.2.1 dX0_prepare_23 (lv_at hl 2 rfl) ?_
    refine lv_iconst (v := 1) C.1.1 C.1.2.1 dX0_prepare_25 (by decide) ?_
    refine lv_iload_n C.1.1 C.1.2.1 dX0_prepare_26 rfl (lv_at hl 1 rfl) ?_
    refine lv_ishl C.1.1 C.1.2.1 dX0_prepare_27 ?_
    refine lv_icmp_ge (tgt := 43) C.1.1 C.1.2.1 dX0_prepare_28 (by decide) (fun hc => ?_) (fun hc => ?_)
    · replace hf := zIf_t hf hc
      exact hJ43_4 oC_7 hf H locs hP hD hS ls (lv_sub hl [0] rfl)
    · replace hf := zIf_f hf hc
      refine lv_aload_n C.1.1 C.1.2.1 dX0_prepare_31 rfl (lv_at hl 0 rfl) ?_
      refine lv_iload C.1.1 C.1.2.1 dX0_prepare_32 (lv_at hl 2 rfl) ?_
      obtain ⟨oC_9, hg, hf⟩ := zB1_el hf
      refine zCVv (As := [.int x6]) (rest := []) (wr := (kX2 cI cB aE (aQ 0) oE)) (wn := (kX2 cI cB aE (aQ 0) oE ++ kX0 cI cB aC oC_9)) C.1 hK hA hP hD hS [9, 10, 11, 12, 13, 14] [0, 1, 2, 3, 4, 5, 6, 7, 8] [0, 1, 2, 3, 4, 5, 6, 7, 8, 9, 10, 11, 12, 13, 14] 0 (mtX0_offer l dC dI cI cB aC H.size NN oC_7 x6 hg) (zCwV 1 C.1 wlX0_99 wiX0_offer ws_X0_offer wnX0 wkX0_offer rfl rfl (by decide +kernel) ⟨Nat.le_of_ble_eq_true rfl, Nat.le_of_ble_eq_true rfl⟩) rfl rfl (by decide +kernel) rfl rfl rfl rfl hl.1 (Nat.le_of_ble_eq_true rfl) dX0_prepare_34 ⟨Nat.zero_le _, Nat.zero_le _⟩ rfl (fun H locs hP hD hS => ?_)
      obtain ⟨x10, ex10, hf⟩ := zLet_el hf
      refine lv_iinc (v := x10) (lv' := [(4, .int x10), (0, .ref (aC 0)), (2, .int p2)]) C.1.1 C.1.2.1 dX0_prepare_37 hl (k := 2) rfl (by rw [ex10]; rfl) (by decide) rfl (fun ls hl => ?_)
      refine lv_goto (tgt := 23) C.1.1 C.1.2.1 dX0_prepare_40 (by decide) ?_
      exact ihgo8 x10 oC_9 hf H locs hP hD hS ls (lv_sub hl [1, 2, 0] rfl)
  · replace hf := zIf_f hf hc
    cases hf
    rw [← hQ]
    exact zRv C hK hP hD hS dX0_prepare_7
def fX0_quickestWithin (NN : Nat) (oC : Rc) (p1 : Int32) : Option (Int32) :=
  zB1 (fX0_edgesWithin NN oC p1) fun v1 =>
  if v1 ≤ 0 then (
    some (-1 : Int32)
  ) else (
    zGd (inb (v1 - (1 : Int32)) 4096) <|
    some (oC 6 (v1 - (1 : Int32)).toNatClampNeg)
  )
abbrev rX0_quickestWithin : Room := { frames := 1, cells := 0, slots := 0, locals := 24 }
set_option maxHeartbeats 4000000 in
set_option maxRecDepth 100000 in
theorem mtX0_quickestWithin (l : Launch) (dC : Nat → ClassId) (dI : Nat → Nat → Nat) (cI cB : ClassId) (aC : Nat → Nat) (sz : Nat) (NN : Nat) (oC : Rc) (p1 : Int32) {ov : Int32} (hf : fX0_quickestWithin NN oC p1 = some ov) : zMi l yX0_quickestWithin (Cond.code yX0_quickestWithin cX0_quickestWithin 3 (some .int) :: lw_g) rX0_quickestWithin (dC, dI) [(cI, .int), (cB, .byte)] [.ref (aC 0), .int p1] sz (kX0 cI cB aC oC) ov (kX0 cI cB aC oC) := by
  refine zSt (cc := cX0_quickestWithin) (maxL := 3) (ret := (some .int)) (own := RX0) (fun A => zQi (dC, dI) [(cI, .int), (cB, .byte)] A ov (kX0 cI cB aC oC)) (by decide) rfl rfl (Nat.le_of_ble_eq_true rfl) ?_
  intro p e s m below meth c ls A H locs C hK hA hP hD hS hl
  generalize hQ : MQ below (zQi (dC, dI) [(cI, .int), (cB, .byte)] A ov (kX0 cI cB aC oC)) _ s 0 0 A = QQ
  generalize ([.ref (aC 0), .int p1] : List Value).toArray = args at C hQ ⊢
  have hl : lv_has ls 3 [(0, .ref (aC 0)), (1, .int p1)] := hl
  unfold fX0_quickestWithin at hf
  refine lv_aload_n C.1.1 C.1.2.1 dX0_quickestWithin_0 rfl (lv_at hl 0 rfl) ?_
  refine lv_iload_n C.1.1 C.1.2.1 dX0_quickestWithin_1 rfl (lv_at hl 1 rfl) ?_
  obtain ⟨v1, hg, hf⟩ := zB1_el hf
  refine zCVi (As := [.int p1]) (rest := []) (wr := ([] : va_W)) (wn := (kX0 cI cB aC oC)) C.1 hK hA hP hD hS [0, 1, 2, 3, 4, 5] [] [0, 1, 2, 3, 4, 5] 0 (mtX0_edgesWithin l dC dI cI cB aC H.size NN oC p1 hg) (zCwV 1 C.1 wlX0_107 wiX0_edgesWithin ws_X0_edgesWithin wnX0 wkX0_edgesWithin rfl rfl (by decide +kernel) ⟨Nat.le_of_ble_eq_true rfl, Nat.le_of_ble_eq_true rfl⟩) rfl rfl (by decide +kernel) rfl rfl rfl rfl hl.1 (Nat.le_of_ble_eq_true rfl) dX0_quickestWithin_2 ⟨Nat.zero_le _, Nat.zero_le _⟩ rfl (fun H locs hP hD hS => ?_)
  refine lv_istore_n (lv' := [(2, .int v1), (0, .ref (aC 0)), (1, .int p1)]) C.1.1 C.1.2.1 dX0_quickestWithin_5 rfl hl (by decide) rfl (fun ls hl => ?_)
  refine lv_iload_n C.1.1 C.1.2.1 dX0_quickestWithin_6 rfl (lv_at hl 0 rfl) ?_
  refine lv_if_le (tgt := 21) C.1.1 C.1.2.1 dX0_quickestWithin_7 (by decide) (fun hc => ?_) (fun hc => ?_)
  · replace hf := zIf_t hf hc
    refine lv_iconst (v := (-1)) C.1.1 C.1.2.1 dX0_quickestWithin_21 (by decide) ?_
    cases hf
    rw [← hQ]
    exact zRi C hK hP hD hS dX0_quickestWithin_22
  · replace hf := zIf_f hf hc
    refine lv_aload_n C.1.1 C.1.2.1 dX0_quickestWithin_10 rfl (lv_at hl 1 rfl) ?_
    refine zGet (.ref (aC 2)) C.1 wuX0 hK hP 0 rfl rfl 6 (by decide) wfX0_32 rfl rfl dX0_quickestWithin_11 ?_
    refine lv_iload_n C.1.1 C.1.2.1 dX0_quickestWithin_14 rfl (lv_at hl 0 rfl) ?_
    refine lv_iconst (v := 1) C.1.1 C.1.2.1 dX0_quickestWithin_15 (by decide) ?_
    refine lv_isub C.1.1 C.1.2.1 dX0_quickestWithin_16 ?_
    obtain ⟨hib, hf⟩ := zGd_el hf
    refine va_iald C.1.1 C.1.2.1 hK.1 hP 2 0 rfl rfl hib dX0_quickestWithin_17 ?_
    refine lv_goto (tgt := 22) C.1.1 C.1.2.1 dX0_quickestWithin_18 (by decide) ?_
    cases hf
    rw [← hQ]
    exact zRi C hK hP hD hS dX0_quickestWithin_22
def fX0_fewestGatesWithin_L2 (oC : Rc) (p1 : Int32) (J43_1 : Unit → Option (Int32)) (n : Nat) (x2 : Int32) : Option (Int32) := zLp1 (fun (go3 : Int32 → Option (Int32)) (x2 : Int32) =>
    if (oC 7 0) ≤ x2 then (
      J43_1 ()
    ) else (
      zGd (inb x2 4096) <|
      zGd (inb (oC 6 x2.toNatClampNeg) 4096) <|
      if p1 < (oC 9 (oC 6 x2.toNatClampNeg).toNatClampNeg) then (
        zLet (x2 + 1) fun x4 =>
        go3 x4
      ) else (
        zGd (inb x2 4096) <|
        zGd (inb (oC 6 x2.toNatClampNeg) 4096) <|
        some (oC 10 (oC 6 x2.toNatClampNeg).toNatClampNeg)
      )
    )
  ) n x2
def fX0_fewestGatesWithin (NN : Nat) (oC : Rc) (p1 : Int32) : Option (Int32) :=
  zJn (fun (_ : Unit) =>
      some (-2 : Int32)
    ) fun J43_1 =>
  fX0_fewestGatesWithin_L2 oC p1 J43_1 NN (0 : Int32)
abbrev rX0_fewestGatesWithin : Room := { frames := 0, cells := 0, slots := 0, locals := 0 }
set_option maxHeartbeats 4000000 in
set_option maxRecDepth 100000 in
theorem mtX0_fewestGatesWithin (l : Launch) (dC : Nat → ClassId) (dI : Nat → Nat → Nat) (cI cB : ClassId) (aC : Nat → Nat) (sz : Nat) (NN : Nat) (oC : Rc) (p1 : Int32) {ov : Int32} (hf : fX0_fewestGatesWithin NN oC p1 = some ov) : zMi l yX0_fewestGatesWithin (Cond.code yX0_fewestGatesWithin cX0_fewestGatesWithin 3 (some .int) :: lw_g) rX0_fewestGatesWithin (dC, dI) [(cI, .int), (cB, .byte)] [.ref (aC 0), .int p1] sz (kX0 cI cB aC oC) ov (kX0 cI cB aC oC) := by
  refine zSt (cc := cX0_fewestGatesWithin) (maxL := 3) (ret := (some .int)) (own := RX0) (fun A => zQi (dC, dI) [(cI, .int), (cB, .byte)] A ov (kX0 cI cB aC oC)) (by decide) rfl rfl (Nat.le_of_ble_eq_true rfl) ?_
  intro p e s m below meth c ls A H locs C hK hA hP hD hS hl
  generalize hQ : MQ below (zQi (dC, dI) [(cI, .int), (cB, .byte)] A ov (kX0 cI cB aC oC)) _ s 0 0 A = QQ
  generalize ([.ref (aC 0), .int p1] : List Value).toArray = args at C hQ ⊢
  have hl : lv_has ls 3 [(0, .ref (aC 0)), (1, .int p1)] := hl
  unfold fX0_fewestGatesWithin at hf
  refine lv_iconst (v := 0) C.1.1 C.1.2.1 dX0_fewestGatesWithin_0 (by decide) ?_
  refine lv_istore_n (lv' := [(2, .int (0 : Int32)), (0, .ref (aC 0)), (1, .int p1)]) C.1.1 C.1.2.1 dX0_fewestGatesWithin_1 rfl hl (by decide) rfl (fun ls hl => ?_)
  obtain ⟨J43_1, eJ43_1, hf⟩ := zJn_el hf
  have hJ43_1 : ∀ (u : Unit), J43_1 u = some ov → ∀ (H : Heap) (locs : List Loc), va_P (dC, dI) vwCl (kX0 cI cB aC oC) H → va_D A (kX0 cI cB aC oC) → va_S A s.heap H locs → ∀ (ls : Array Slot), lv_has ls 3 [] → W p l e rX0_fewestGatesWithin s m args below meth c H locs 0 0 QQ (F0 m 43 ls []) := by
    intro u hf H locs hP hD hS ls hl
    rw [eJ43_1] at hf
    refine lv_bipush (v := (-2)) C.1.1 C.1.2.1 dX0_fewestGatesWithin_43 (by decide) ?_
    cases hf
    rw [← hQ]
    exact zRi C hK hP hD hS dX0_fewestGatesWithin_45
  refine zLp1_ind (o := ov) (P := fun (x2 : Int32) => ∀ (H : Heap) (locs : List Loc), va_P (dC, dI) vwCl (kX0 cI cB aC oC) H → va_D A (kX0 cI cB aC oC) → va_S A s.heap H locs → ∀ (ls : Array Slot), lv_has ls 3 [(0, .ref (aC 0)), (1, .int p1), (2, .int x2)] → W p l e rX0_fewestGatesWithin s m args below meth c H locs 0 0 QQ (F0 m 2 ls [])) (fun go3 ihgo3 x2 hf H locs hP hD hS ls hl => ?_) _ (0 : Int32) hf H locs hP hD hS ls (lv_sub hl [1, 2, 0] rfl)
  refine lv_iload_n C.1.1 C.1.2.1 dX0_fewestGatesWithin_2 rfl (lv_at hl 2 rfl) ?_
  refine lv_aload_n C.1.1 C.1.2.1 dX0_fewestGatesWithin_3 rfl (lv_at hl 0 rfl) ?_
  refine zGet (.int (oC 7 0)) C.1 wuX0 hK hP 0 rfl rfl 7 (by decide) wfX0_35 rfl rfl dX0_fewestGatesWithin_4 ?_
  refine lv_icmp_ge (tgt := 43) C.1.1 C.1.2.1 dX0_fewestGatesWithin_7 (by decide) (fun hc => ?_) (fun hc => ?_)
  · replace hf := zIf_t hf hc
    exact hJ43_1 () hf H locs hP hD hS ls (lv_sub hl [] rfl)
  · replace hf := zIf_f hf hc
    refine lv_aload_n C.1.1 C.1.2.1 dX0_fewestGatesWithin_10 rfl (lv_at hl 0 rfl) ?_
    refine zGet (.ref (aC 4)) C.1 wuX0 hK hP 0 rfl rfl 9 (by decide) wfX0_41 rfl rfl dX0_fewestGatesWithin_11 ?_
    refine lv_aload_n C.1.1 C.1.2.1 dX0_fewestGatesWithin_14 rfl (lv_at hl 0 rfl) ?_
    refine zGet (.ref (aC 2)) C.1 wuX0 hK hP 0 rfl rfl 6 (by decide) wfX0_32 rfl rfl dX0_fewestGatesWithin_15 ?_
    refine lv_iload_n C.1.1 C.1.2.1 dX0_fewestGatesWithin_18 rfl (lv_at hl 2 rfl) ?_
    obtain ⟨hib, hf⟩ := zGd_el hf
    refine va_iald C.1.1 C.1.2.1 hK.1 hP 2 0 rfl rfl hib dX0_fewestGatesWithin_19 ?_
    obtain ⟨hib, hf⟩ := zGd_el hf
    refine va_iald C.1.1 C.1.2.1 hK.1 hP 4 0 rfl rfl hib dX0_fewestGatesWithin_20 ?_
    refine lv_iload_n C.1.1 C.1.2.1 dX0_fewestGatesWithin_21 rfl (lv_at hl 1 rfl) ?_
    refine lv_icmp_gt (tgt := 37) C.1.1 C.1.2.1 dX0_fewestGatesWithin_22 (by decide) (fun hc => ?_) (fun hc => ?_)
    · replace hf := zIf_t hf hc
      obtain ⟨x4, ex4, hf⟩ := zLet_el hf
      refine lv_iinc (v := x4) (lv' := [(2, .int x4), (0, .ref (aC 0)), (1, .int p1)]) C.1.1 C.1.2.1 dX0_fewestGatesWithin_37 hl (k := 2) rfl (by rw [ex4]; rfl) (by decide) rfl (fun ls hl => ?_)
      refine lv_goto (tgt := 2) C.1.1 C.1.2.1 dX0_fewestGatesWithin_40 (by decide) ?_
      exact ihgo3 x4 hf H locs hP hD hS ls (lv_sub hl [1, 2, 0] rfl)
    · replace hf := zIf_f hf hc
      refine lv_aload_n C.1.1 C.1.2.1 dX0_fewestGatesWithin_25 rfl (lv_at hl 0 rfl) ?_
      refine zGet (.ref (aC 5)) C.1 wuX0 hK hP 0 rfl rfl 10 (by decide) wfX0_44 rfl rfl dX0_fewestGatesWithin_26 ?_
      refine lv_aload_n C.1.1 C.1.2.1 dX0_fewestGatesWithin_29 rfl (lv_at hl 0 rfl) ?_
      refine zGet (.ref (aC 2)) C.1 wuX0 hK hP 0 rfl rfl 6 (by decide) wfX0_32 rfl rfl dX0_fewestGatesWithin_30 ?_
      refine lv_iload_n C.1.1 C.1.2.1 dX0_fewestGatesWithin_33 rfl (lv_at hl 2 rfl) ?_
      obtain ⟨hib, hf⟩ := zGd_el hf
      refine va_iald C.1.1 C.1.2.1 hK.1 hP 2 0 rfl rfl hib dX0_fewestGatesWithin_34 ?_
      obtain ⟨hib, hf⟩ := zGd_el hf
      refine va_iald C.1.1 C.1.2.1 hK.1 hP 5 0 rfl rfl hib dX0_fewestGatesWithin_35 ?_
      cases hf
      rw [← hQ]
      exact zRi C hK hP hD hS dX0_fewestGatesWithin_36
