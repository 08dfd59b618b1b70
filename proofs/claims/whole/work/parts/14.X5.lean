theorem dX5_init_0 : decode cX5_init 0 = .ok (.aload_n 0, 1) := by decide +kernel
theorem dX5_init_1 : decode cX5_init 1 = .ok (.invokespecial 3, 3) := by decide +kernel
theorem dX5_init_4 : decode cX5_init 4 = .ok (.aload_n 0, 1) := by decide +kernel
theorem dX5_init_5 : decode cX5_init 5 = .ok (.new 9, 3) := by decide +kernel
theorem dX5_init_8 : decode cX5_init 8 = .ok (.dup, 1) := by decide +kernel
theorem dX5_init_9 : decode cX5_init 9 = .ok (.invokespecial 11, 3) := by decide +kernel
theorem dX5_init_12 : decode cX5_init 12 = .ok (.putfield 12, 3) := by decide +kernel
theorem dX5_init_15 : decode cX5_init 15 = .ok (.aload_n 0, 1) := by decide +kernel
theorem dX5_init_16 : decode cX5_init 16 = .ok (.new 18, 3) := by decide +kernel
theorem dX5_init_19 : decode cX5_init 19 = .ok (.dup, 1) := by decide +kernel
theorem dX5_init_20 : decode cX5_init 20 = .ok (.invokespecial 20, 3) := by decide +kernel
theorem dX5_init_23 : decode cX5_init 23 = .ok (.putfield 21, 3) := by decide +kernel
theorem dX5_init_26 : decode cX5_init 26 = .ok (.aload_n 0, 1) := by decide +kernel
theorem dX5_init_27 : decode cX5_init 27 = .ok (.iconst 0, 1) := by decide +kernel
theorem dX5_init_28 : decode cX5_init 28 = .ok (.putfield 25, 3) := by decide +kernel
theorem dX5_init_31 : decode cX5_init 31 = .ok (.aload_n 0, 1) := by decide +kernel
theorem dX5_init_32 : decode cX5_init 32 = .ok (.iconst 0, 1) := by decide +kernel
theorem dX5_init_33 : decode cX5_init 33 = .ok (.putfield 29, 3) := by decide +kernel
theorem dX5_init_36 : decode cX5_init 36 = .ok (.aload_n 0, 1) := by decide +kernel
theorem dX5_init_37 : decode cX5_init 37 = .ok (.iconst 0, 1) := by decide +kernel
theorem dX5_init_38 : decode cX5_init 38 = .ok (.putfield 32, 3) := by decide +kernel
theorem dX5_init_41 : decode cX5_init 41 = .ok (.aload_n 0, 1) := by decide +kernel
theorem dX5_init_42 : decode cX5_init 42 = .ok (.iconst (-1), 1) := by decide +kernel
theorem dX5_init_43 : decode cX5_init 43 = .ok (.putfield 35, 3) := by decide +kernel
theorem dX5_init_46 : decode cX5_init 46 = .ok (.aload_n 0, 1) := by decide +kernel
theorem dX5_init_47 : decode cX5_init 47 = .ok (.iconst 0, 1) := by decide +kernel
theorem dX5_init_48 : decode cX5_init 48 = .ok (.putfield 38, 3) := by decide +kernel
theorem dX5_init_51 : decode cX5_init 51 = .ok (.aload_n 0, 1) := by decide +kernel
theorem dX5_init_52 : decode cX5_init 52 = .ok (.iconst 0, 1) := by decide +kernel
theorem dX5_init_53 : decode cX5_init 53 = .ok (.putfield 41, 3) := by decide +kernel
theorem dX5_init_56 : decode cX5_init 56 = .ok (.aload_n 0, 1) := by decide +kernel
theorem dX5_init_57 : decode cX5_init 57 = .ok (.bipush 9, 2) := by decide +kernel
theorem dX5_init_59 : decode cX5_init 59 = .ok (.newarray .int, 2) := by decide +kernel
theorem dX5_init_61 : decode cX5_init 61 = .ok (.putfield 44, 3) := by decide +kernel
theorem dX5_init_64 : decode cX5_init 64 = .ok (.aload_n 0, 1) := by decide +kernel
theorem dX5_init_65 : decode cX5_init 65 = .ok (.bipush 9, 2) := by decide +kernel
theorem dX5_init_67 : decode cX5_init 67 = .ok (.newarray .int, 2) := by decide +kernel
theorem dX5_init_69 : decode cX5_init 69 = .ok (.putfield 48, 3) := by decide +kernel
theorem dX5_init_72 : decode cX5_init 72 = .ok (.return_, 1) := by decide +kernel
theorem dX5_read_0 : decode cX5_read 0 = .ok (.aload_n 0, 1) := by decide +kernel
theorem dX5_read_1 : decode cX5_read 1 = .ok (.iconst 0, 1) := by decide +kernel
theorem dX5_read_2 : decode cX5_read 2 = .ok (.putfield 25, 3) := by decide +kernel
theorem dX5_read_5 : decode cX5_read 5 = .ok (.aload_n 0, 1) := by decide +kernel
theorem dX5_read_6 : decode cX5_read 6 = .ok (.iconst 0, 1) := by decide +kernel
theorem dX5_read_7 : decode cX5_read 7 = .ok (.putfield 32, 3) := by decide +kernel
theorem dX5_read_10 : decode cX5_read 10 = .ok (.aload_n 0, 1) := by decide +kernel
theorem dX5_read_11 : decode cX5_read 11 = .ok (.getfield 21, 3) := by decide +kernel
theorem dX5_read_14 : decode cX5_read 14 = .ok (.invokevirtual 51, 3) := by decide +kernel
theorem dX5_read_17 : decode cX5_read 17 = .ok (.aload_n 0, 1) := by decide +kernel
theorem dX5_read_18 : decode cX5_read 18 = .ok (.getfield 12, 3) := by decide +kernel
theorem dX5_read_21 : decode cX5_read 21 = .ok (.iload_n 1, 1) := by decide +kernel
theorem dX5_read_22 : decode cX5_read 22 = .ok (.invokevirtual 54, 3) := by decide +kernel
theorem dX5_read_25 : decode cX5_read 25 = .ok (.iconst 0, 1) := by decide +kernel
theorem dX5_read_26 : decode cX5_read 26 = .ok (.istore_n 2, 1) := by decide +kernel
theorem dX5_read_27 : decode cX5_read 27 = .ok (.iload_n 2, 1) := by decide +kernel
theorem dX5_read_28 : decode cX5_read 28 = .ok (.sipush 600, 3) := by decide +kernel
theorem dX5_read_31 : decode cX5_read 31 = .ok (.if_icmp .ge 48, 3) := by decide +kernel
theorem dX5_read_34 : decode cX5_read 34 = .ok (.aload_n 0, 1) := by decide +kernel
theorem dX5_read_35 : decode cX5_read 35 = .ok (.getfield 25, 3) := by decide +kernel
theorem dX5_read_38 : decode cX5_read 38 = .ok (.ifCond .ne 41, 3) := by decide +kernel
theorem dX5_read_41 : decode cX5_read 41 = .ok (.aload_n 0, 1) := by decide +kernel
theorem dX5_read_42 : decode cX5_read 42 = .ok (.getfield 12, 3) := by decide +kernel
theorem dX5_read_45 : decode cX5_read 45 = .ok (.getfield 57, 3) := by decide +kernel
theorem dX5_read_48 : decode cX5_read 48 = .ok (.ifCond .eq 31, 3) := by decide +kernel
theorem dX5_read_51 : decode cX5_read 51 = .ok (.aload_n 0, 1) := by decide +kernel
theorem dX5_read_52 : decode cX5_read 52 = .ok (.aload_n 0, 1) := by decide +kernel
theorem dX5_read_53 : decode cX5_read 53 = .ok (.invokevirtual 60, 3) := by decide +kernel
theorem dX5_read_56 : decode cX5_read 56 = .ok (.putfield 25, 3) := by decide +kernel
theorem dX5_read_59 : decode cX5_read 59 = .ok (.aload_n 0, 1) := by decide +kernel
theorem dX5_read_60 : decode cX5_read 60 = .ok (.getfield 25, 3) := by decide +kernel
theorem dX5_read_63 : decode cX5_read 63 = .ok (.ifCond .ne 10, 3) := by decide +kernel
theorem dX5_read_66 : decode cX5_read 66 = .ok (.aload_n 0, 1) := by decide +kernel
theorem dX5_read_67 : decode cX5_read 67 = .ok (.getfield 12, 3) := by decide +kernel
theorem dX5_read_70 : decode cX5_read 70 = .ok (.invokevirtual 64, 3) := by decide +kernel
theorem dX5_read_73 : decode cX5_read 73 = .ok (.iinc 2 1, 3) := by decide +kernel
theorem dX5_read_76 : decode cX5_read 76 = .ok (.goto (-49), 3) := by decide +kernel
theorem dX5_read_79 : decode cX5_read 79 = .ok (.aload_n 0, 1) := by decide +kernel
theorem dX5_read_80 : decode cX5_read 80 = .ok (.getfield 25, 3) := by decide +kernel
theorem dX5_read_83 : decode cX5_read 83 = .ok (.ifCond .ne 25, 3) := by decide +kernel
theorem dX5_read_86 : decode cX5_read 86 = .ok (.aload_n 0, 1) := by decide +kernel
theorem dX5_read_87 : decode cX5_read 87 = .ok (.getfield 32, 3) := by decide +kernel
theorem dX5_read_90 : decode cX5_read 90 = .ok (.ifCond .ne 13, 3) := by decide +kernel
theorem dX5_read_93 : decode cX5_read 93 = .ok (.aload_n 0, 1) := by decide +kernel
theorem dX5_read_94 : decode cX5_read 94 = .ok (.getfield 21, 3) := by decide +kernel
theorem dX5_read_97 : decode cX5_read 97 = .ok (.getfield 67, 3) := by decide +kernel
theorem dX5_read_100 : decode cX5_read 100 = .ok (.ifCond .ne 8, 3) := by decide +kernel
theorem dX5_read_103 : decode cX5_read 103 = .ok (.aload_n 0, 1) := by decide +kernel
theorem dX5_read_104 : decode cX5_read 104 = .ok (.iconst 1, 1) := by decide +kernel
theorem dX5_read_105 : decode cX5_read 105 = .ok (.putfield 25, 3) := by decide +kernel
theorem dX5_read_108 : decode cX5_read 108 = .ok (.aload_n 0, 1) := by decide +kernel
theorem dX5_read_109 : decode cX5_read 109 = .ok (.aload_n 0, 1) := by decide +kernel
theorem dX5_read_110 : decode cX5_read 110 = .ok (.getfield 12, 3) := by decide +kernel
theorem dX5_read_113 : decode cX5_read 113 = .ok (.getfield 70, 3) := by decide +kernel
theorem dX5_read_116 : decode cX5_read 116 = .ok (.putfield 29, 3) := by decide +kernel
theorem dX5_read_119 : decode cX5_read 119 = .ok (.aload_n 0, 1) := by decide +kernel
theorem dX5_read_120 : decode cX5_read 120 = .ok (.getfield 12, 3) := by decide +kernel
theorem dX5_read_123 : decode cX5_read 123 = .ok (.invokevirtual 73, 3) := by decide +kernel
theorem dX5_read_126 : decode cX5_read 126 = .ok (.aload_n 0, 1) := by decide +kernel
theorem dX5_read_127 : decode cX5_read 127 = .ok (.getfield 25, 3) := by decide +kernel
theorem dX5_read_130 : decode cX5_read 130 = .ok (.ifCond .ne 7, 3) := by decide +kernel
theorem dX5_read_133 : decode cX5_read 133 = .ok (.iconst 1, 1) := by decide +kernel
theorem dX5_read_134 : decode cX5_read 134 = .ok (.goto 4, 3) := by decide +kernel
theorem dX5_read_137 : decode cX5_read 137 = .ok (.iconst 0, 1) := by decide +kernel
theorem dX5_read_138 : decode cX5_read 138 = .ok (.ireturn, 1) := by decide +kernel
theorem dX5_exchange_0 : decode cX5_exchange 0 = .ok (.aload_n 0, 1) := by decide +kernel
theorem dX5_exchange_1 : decode cX5_exchange 1 = .ok (.getfield 21, 3) := by decide +kernel
theorem dX5_exchange_4 : decode cX5_exchange 4 = .ok (.astore_n 2, 1) := by decide +kernel
theorem dX5_exchange_5 : decode cX5_exchange 5 = .ok (.aload_n 0, 1) := by decide +kernel
theorem dX5_exchange_6 : decode cX5_exchange 6 = .ok (.aload_n 1, 1) := by decide +kernel
theorem dX5_exchange_7 : decode cX5_exchange 7 = .ok (.putfield 21, 3) := by decide +kernel
theorem dX5_exchange_10 : decode cX5_exchange 10 = .ok (.aload_n 2, 1) := by decide +kernel
theorem dX5_exchange_11 : decode cX5_exchange 11 = .ok (.areturn, 1) := by decide +kernel
theorem dX5_meet_0 : decode cX5_meet 0 = .ok (.aload_n 0, 1) := by decide +kernel
theorem dX5_meet_1 : decode cX5_meet 1 = .ok (.getfield 32, 3) := by decide +kernel
theorem dX5_meet_4 : decode cX5_meet 4 = .ok (.tableswitch 91 0 7 #[48, 53, 58, 66, 71, 76, 81, 86], 48) := by decide +kernel
theorem dX5_meet_52 : decode cX5_meet 52 = .ok (.aload_n 0, 1) := by decide +kernel
theorem dX5_meet_53 : decode cX5_meet 53 = .ok (.invokevirtual 76, 3) := by decide +kernel
theorem dX5_meet_56 : decode cX5_meet 56 = .ok (.ireturn, 1) := by decide +kernel
theorem dX5_meet_57 : decode cX5_meet 57 = .ok (.aload_n 0, 1) := by decide +kernel
theorem dX5_meet_58 : decode cX5_meet 58 = .ok (.invokevirtual 79, 3) := by decide +kernel
theorem dX5_meet_61 : decode cX5_meet 61 = .ok (.ireturn, 1) := by decide +kernel
theorem dX5_meet_62 : decode cX5_meet 62 = .ok (.aload_n 0, 1) := by decide +kernel
theorem dX5_meet_63 : decode cX5_meet 63 = .ok (.bipush 123, 2) := by decide +kernel
theorem dX5_meet_65 : decode cX5_meet 65 = .ok (.iconst 3, 1) := by decide +kernel
theorem dX5_meet_66 : decode cX5_meet 66 = .ok (.invokevirtual 82, 3) := by decide +kernel
theorem dX5_meet_69 : decode cX5_meet 69 = .ok (.ireturn, 1) := by decide +kernel
theorem dX5_meet_70 : decode cX5_meet 70 = .ok (.aload_n 0, 1) := by decide +kernel
theorem dX5_meet_71 : decode cX5_meet 71 = .ok (.invokevirtual 86, 3) := by decide +kernel
theorem dX5_meet_74 : decode cX5_meet 74 = .ok (.ireturn, 1) := by decide +kernel
theorem dX5_meet_75 : decode cX5_meet 75 = .ok (.aload_n 0, 1) := by decide +kernel
theorem dX5_meet_76 : decode cX5_meet 76 = .ok (.invokevirtual 89, 3) := by decide +kernel
theorem dX5_meet_79 : decode cX5_meet 79 = .ok (.ireturn, 1) := by decide +kernel
theorem dX5_meet_80 : decode cX5_meet 80 = .ok (.aload_n 0, 1) := by decide +kernel
theorem dX5_meet_81 : decode cX5_meet 81 = .ok (.invokevirtual 92, 3) := by decide +kernel
theorem dX5_meet_84 : decode cX5_meet 84 = .ok (.ireturn, 1) := by decide +kernel
theorem dX5_meet_85 : decode cX5_meet 85 = .ok (.aload_n 0, 1) := by decide +kernel
theorem dX5_meet_86 : decode cX5_meet 86 = .ok (.invokevirtual 95, 3) := by decide +kernel
theorem dX5_meet_89 : decode cX5_meet 89 = .ok (.ireturn, 1) := by decide +kernel
theorem dX5_meet_90 : decode cX5_meet 90 = .ok (.aload_n 0, 1) := by decide +kernel
theorem dX5_meet_91 : decode cX5_meet 91 = .ok (.invokevirtual 98, 3) := by decide +kernel
theorem dX5_meet_94 : decode cX5_meet 94 = .ok (.ireturn, 1) := by decide +kernel
theorem dX5_meet_95 : decode cX5_meet 95 = .ok (.aload_n 0, 1) := by decide +kernel
theorem dX5_meet_96 : decode cX5_meet 96 = .ok (.invokevirtual 101, 3) := by decide +kernel
theorem dX5_meet_99 : decode cX5_meet 99 = .ok (.ireturn, 1) := by decide +kernel
theorem dX5_meetBlockName_0 : decode cX5_meetBlockName 0 = .ok (.aload_n 0, 1) := by decide +kernel
theorem dX5_meetBlockName_1 : decode cX5_meetBlockName 1 = .ok (.getfield 12, 3) := by decide +kernel
theorem dX5_meetBlockName_4 : decode cX5_meetBlockName 4 = .ok (.getfield 57, 3) := by decide +kernel
theorem dX5_meetBlockName_7 : decode cX5_meetBlockName 7 = .ok (.iconst 2, 1) := by decide +kernel
theorem dX5_meetBlockName_8 : decode cX5_meetBlockName 8 = .ok (.if_icmp .eq 5, 3) := by decide +kernel
theorem dX5_meetBlockName_11 : decode cX5_meetBlockName 11 = .ok (.iconst 1, 1) := by decide +kernel
theorem dX5_meetBlockName_12 : decode cX5_meetBlockName 12 = .ok (.ireturn, 1) := by decide +kernel
theorem dX5_meetBlockName_13 : decode cX5_meetBlockName 13 = .ok (.aload_n 0, 1) := by decide +kernel
theorem dX5_meetBlockName_14 : decode cX5_meetBlockName 14 = .ok (.getfield 21, 3) := by decide +kernel
theorem dX5_meetBlockName_17 : decode cX5_meetBlockName 17 = .ok (.aload_n 0, 1) := by decide +kernel
theorem dX5_meetBlockName_18 : decode cX5_meetBlockName 18 = .ok (.getfield 12, 3) := by decide +kernel
theorem dX5_meetBlockName_21 : decode cX5_meetBlockName 21 = .ok (.invokevirtual 104, 3) := by decide +kernel
theorem dX5_meetBlockName_24 : decode cX5_meetBlockName 24 = .ok (.ifCond .eq 5, 3) := by decide +kernel
theorem dX5_meetBlockName_27 : decode cX5_meetBlockName 27 = .ok (.iconst 3, 1) := by decide +kernel
theorem dX5_meetBlockName_28 : decode cX5_meetBlockName 28 = .ok (.ireturn, 1) := by decide +kernel
theorem dX5_meetBlockName_29 : decode cX5_meetBlockName 29 = .ok (.aload_n 0, 1) := by decide +kernel
theorem dX5_meetBlockName_30 : decode cX5_meetBlockName 30 = .ok (.getfield 21, 3) := by decide +kernel
theorem dX5_meetBlockName_33 : decode cX5_meetBlockName 33 = .ok (.getfield 67, 3) := by decide +kernel
theorem dX5_meetBlockName_36 : decode cX5_meetBlockName 36 = .ok (.bipush 12, 2) := by decide +kernel
theorem dX5_meetBlockName_38 : decode cX5_meetBlockName 38 = .ok (.if_icmp .lt 5, 3) := by decide +kernel
theorem dX5_meetBlockName_41 : decode cX5_meetBlockName 41 = .ok (.iconst 5, 1) := by decide +kernel
theorem dX5_meetBlockName_42 : decode cX5_meetBlockName 42 = .ok (.ireturn, 1) := by decide +kernel
theorem dX5_meetBlockName_43 : decode cX5_meetBlockName 43 = .ok (.aload_n 0, 1) := by decide +kernel
theorem dX5_meetBlockName_44 : decode cX5_meetBlockName 44 = .ok (.getfield 21, 3) := by decide +kernel
theorem dX5_meetBlockName_47 : decode cX5_meetBlockName 47 = .ok (.aload_n 0, 1) := by decide +kernel
theorem dX5_meetBlockName_48 : decode cX5_meetBlockName 48 = .ok (.getfield 12, 3) := by decide +kernel
theorem dX5_meetBlockName_51 : decode cX5_meetBlockName 51 = .ok (.invokevirtual 108, 3) := by decide +kernel
theorem dX5_meetBlockName_54 : decode cX5_meetBlockName 54 = .ok (.aload_n 0, 1) := by decide +kernel
theorem dX5_meetBlockName_55 : decode cX5_meetBlockName 55 = .ok (.iconst 1, 1) := by decide +kernel
theorem dX5_meetBlockName_56 : decode cX5_meetBlockName 56 = .ok (.putfield 32, 3) := by decide +kernel
theorem dX5_meetBlockName_59 : decode cX5_meetBlockName 59 = .ok (.iconst 0, 1) := by decide +kernel
theorem dX5_meetBlockName_60 : decode cX5_meetBlockName 60 = .ok (.ireturn, 1) := by decide +kernel
theorem dX5_meetTimes_0 : decode cX5_meetTimes 0 = .ok (.aload_n 0, 1) := by decide +kernel
theorem dX5_meetTimes_1 : decode cX5_meetTimes 1 = .ok (.getfield 12, 3) := by decide +kernel
theorem dX5_meetTimes_4 : decode cX5_meetTimes 4 = .ok (.getfield 57, 3) := by decide +kernel
theorem dX5_meetTimes_7 : decode cX5_meetTimes 7 = .ok (.iconst 3, 1) := by decide +kernel
theorem dX5_meetTimes_8 : decode cX5_meetTimes 8 = .ok (.if_icmp .eq 5, 3) := by decide +kernel
theorem dX5_meetTimes_11 : decode cX5_meetTimes 11 = .ok (.iconst 1, 1) := by decide +kernel
theorem dX5_meetTimes_12 : decode cX5_meetTimes 12 = .ok (.ireturn, 1) := by decide +kernel
theorem dX5_meetTimes_13 : decode cX5_meetTimes 13 = .ok (.aload_n 0, 1) := by decide +kernel
theorem dX5_meetTimes_14 : decode cX5_meetTimes 14 = .ok (.getfield 12, 3) := by decide +kernel
theorem dX5_meetTimes_17 : decode cX5_meetTimes 17 = .ok (.getfield 112, 3) := by decide +kernel
theorem dX5_meetTimes_20 : decode cX5_meetTimes 20 = .ok (.iconst 1, 1) := by decide +kernel
theorem dX5_meetTimes_21 : decode cX5_meetTimes 21 = .ok (.if_icmp .lt 15, 3) := by decide +kernel
theorem dX5_meetTimes_24 : decode cX5_meetTimes 24 = .ok (.aload_n 0, 1) := by decide +kernel
theorem dX5_meetTimes_25 : decode cX5_meetTimes 25 = .ok (.getfield 12, 3) := by decide +kernel
theorem dX5_meetTimes_28 : decode cX5_meetTimes 28 = .ok (.getfield 112, 3) := by decide +kernel
theorem dX5_meetTimes_31 : decode cX5_meetTimes 31 = .ok (.bipush 50, 2) := by decide +kernel
theorem dX5_meetTimes_33 : decode cX5_meetTimes 33 = .ok (.if_icmp .le 5, 3) := by decide +kernel
theorem dX5_meetTimes_36 : decode cX5_meetTimes 36 = .ok (.iconst 4, 1) := by decide +kernel
theorem dX5_meetTimes_37 : decode cX5_meetTimes 37 = .ok (.ireturn, 1) := by decide +kernel
theorem dX5_meetTimes_38 : decode cX5_meetTimes 38 = .ok (.aload_n 0, 1) := by decide +kernel
theorem dX5_meetTimes_39 : decode cX5_meetTimes 39 = .ok (.getfield 21, 3) := by decide +kernel
theorem dX5_meetTimes_42 : decode cX5_meetTimes 42 = .ok (.aload_n 0, 1) := by decide +kernel
theorem dX5_meetTimes_43 : decode cX5_meetTimes 43 = .ok (.getfield 12, 3) := by decide +kernel
theorem dX5_meetTimes_46 : decode cX5_meetTimes 46 = .ok (.getfield 112, 3) := by decide +kernel
theorem dX5_meetTimes_49 : decode cX5_meetTimes 49 = .ok (.invokevirtual 115, 3) := by decide +kernel
theorem dX5_meetTimes_52 : decode cX5_meetTimes 52 = .ok (.aload_n 0, 1) := by decide +kernel
theorem dX5_meetTimes_53 : decode cX5_meetTimes 53 = .ok (.iconst 2, 1) := by decide +kernel
theorem dX5_meetTimes_54 : decode cX5_meetTimes 54 = .ok (.putfield 32, 3) := by decide +kernel
theorem dX5_meetTimes_57 : decode cX5_meetTimes 57 = .ok (.iconst 0, 1) := by decide +kernel
theorem dX5_meetTimes_58 : decode cX5_meetTimes 58 = .ok (.ireturn, 1) := by decide +kernel
theorem dX5_meetSingle_0 : decode cX5_meetSingle 0 = .ok (.aload_n 0, 1) := by decide +kernel
theorem dX5_meetSingle_1 : decode cX5_meetSingle 1 = .ok (.getfield 12, 3) := by decide +kernel
theorem dX5_meetSingle_4 : decode cX5_meetSingle 4 = .ok (.getfield 57, 3) := by decide +kernel
theorem dX5_meetSingle_7 : decode cX5_meetSingle 7 = .ok (.iload_n 1, 1) := by decide +kernel
theorem dX5_meetSingle_8 : decode cX5_meetSingle 8 = .ok (.if_icmp .eq 5, 3) := by decide +kernel
theorem dX5_meetSingle_11 : decode cX5_meetSingle 11 = .ok (.iconst 1, 1) := by decide +kernel
theorem dX5_meetSingle_12 : decode cX5_meetSingle 12 = .ok (.ireturn, 1) := by decide +kernel
theorem dX5_meetSingle_13 : decode cX5_meetSingle 13 = .ok (.aload_n 0, 1) := by decide +kernel
theorem dX5_meetSingle_14 : decode cX5_meetSingle 14 = .ok (.iload_n 2, 1) := by decide +kernel
theorem dX5_meetSingle_15 : decode cX5_meetSingle 15 = .ok (.putfield 32, 3) := by decide +kernel
theorem dX5_meetSingle_18 : decode cX5_meetSingle 18 = .ok (.iconst 0, 1) := by decide +kernel
theorem dX5_meetSingle_19 : decode cX5_meetSingle 19 = .ok (.ireturn, 1) := by decide +kernel
theorem dX5_meetLine_0 : decode cX5_meetLine 0 = .ok (.aload_n 0, 1) := by decide +kernel
theorem dX5_meetLine_1 : decode cX5_meetLine 1 = .ok (.getfield 12, 3) := by decide +kernel
theorem dX5_meetLine_4 : decode cX5_meetLine 4 = .ok (.getfield 118, 3) := by decide +kernel
theorem dX5_meetLine_7 : decode cX5_meetLine 7 = .ok (.ifCond .eq 7, 3) := by decide +kernel
theorem dX5_meetLine_10 : decode cX5_meetLine 10 = .ok (.iconst 0, 1) := by decide +kernel
theorem dX5_meetLine_11 : decode cX5_meetLine 11 = .ok (.goto 7, 3) := by decide +kernel
theorem dX5_meetLine_14 : decode cX5_meetLine 14 = .ok (.aload_n 0, 1) := by decide +kernel
theorem dX5_meetLine_15 : decode cX5_meetLine 15 = .ok (.invokevirtual 122, 3) := by decide +kernel
theorem dX5_meetLine_18 : decode cX5_meetLine 18 = .ok (.istore_n 1, 1) := by decide +kernel
theorem dX5_meetLine_19 : decode cX5_meetLine 19 = .ok (.iload_n 1, 1) := by decide +kernel
theorem dX5_meetLine_20 : decode cX5_meetLine 20 = .ok (.ifCond .eq 5, 3) := by decide +kernel
theorem dX5_meetLine_23 : decode cX5_meetLine 23 = .ok (.iload_n 1, 1) := by decide +kernel
theorem dX5_meetLine_24 : decode cX5_meetLine 24 = .ok (.ireturn, 1) := by decide +kernel
theorem dX5_meetLine_25 : decode cX5_meetLine 25 = .ok (.aload_n 0, 1) := by decide +kernel
theorem dX5_meetLine_26 : decode cX5_meetLine 26 = .ok (.getfield 21, 3) := by decide +kernel
theorem dX5_meetLine_29 : decode cX5_meetLine 29 = .ok (.invokevirtual 125, 3) := by decide +kernel
theorem dX5_meetLine_32 : decode cX5_meetLine 32 = .ok (.ifCond .eq 5, 3) := by decide +kernel
theorem dX5_meetLine_35 : decode cX5_meetLine 35 = .ok (.iconst 5, 1) := by decide +kernel
theorem dX5_meetLine_36 : decode cX5_meetLine 36 = .ok (.ireturn, 1) := by decide +kernel
theorem dX5_meetLine_37 : decode cX5_meetLine 37 = .ok (.aload_n 0, 1) := by decide +kernel
theorem dX5_meetLine_38 : decode cX5_meetLine 38 = .ok (.iconst (-1), 1) := by decide +kernel
theorem dX5_meetLine_39 : decode cX5_meetLine 39 = .ok (.putfield 35, 3) := by decide +kernel
theorem dX5_meetLine_42 : decode cX5_meetLine 42 = .ok (.aload_n 0, 1) := by decide +kernel
theorem dX5_meetLine_43 : decode cX5_meetLine 43 = .ok (.getfield 12, 3) := by decide +kernel
theorem dX5_meetLine_46 : decode cX5_meetLine 46 = .ok (.getfield 118, 3) := by decide +kernel
theorem dX5_meetLine_49 : decode cX5_meetLine 49 = .ok (.ifCond .eq 9, 3) := by decide +kernel
theorem dX5_meetLine_52 : decode cX5_meetLine 52 = .ok (.aload_n 0, 1) := by decide +kernel
theorem dX5_meetLine_53 : decode cX5_meetLine 53 = .ok (.iconst 4, 1) := by decide +kernel
theorem dX5_meetLine_54 : decode cX5_meetLine 54 = .ok (.invokevirtual 129, 3) := by decide +kernel
theorem dX5_meetLine_57 : decode cX5_meetLine 57 = .ok (.ireturn, 1) := by decide +kernel
theorem dX5_meetLine_58 : decode cX5_meetLine 58 = .ok (.aload_n 0, 1) := by decide +kernel
theorem dX5_meetLine_59 : decode cX5_meetLine 59 = .ok (.invokevirtual 92, 3) := by decide +kernel
theorem dX5_meetLine_62 : decode cX5_meetLine 62 = .ok (.ireturn, 1) := by decide +kernel
theorem dX5_meetIfName_0 : decode cX5_meetIfName 0 = .ok (.aload_n 0, 1) := by decide +kernel
theorem dX5_meetIfName_1 : decode cX5_meetIfName 1 = .ok (.aload_n 0, 1) := by decide +kernel
theorem dX5_meetIfName_2 : decode cX5_meetIfName 2 = .ok (.getfield 12, 3) := by decide +kernel
theorem dX5_meetIfName_5 : decode cX5_meetIfName 5 = .ok (.getfield 133, 3) := by decide +kernel
theorem dX5_meetIfName_8 : decode cX5_meetIfName 8 = .ok (.putfield 35, 3) := by decide +kernel
theorem dX5_meetIfName_11 : decode cX5_meetIfName 11 = .ok (.aload_n 0, 1) := by decide +kernel
theorem dX5_meetIfName_12 : decode cX5_meetIfName 12 = .ok (.iconst 5, 1) := by decide +kernel
theorem dX5_meetIfName_13 : decode cX5_meetIfName 13 = .ok (.putfield 32, 3) := by decide +kernel
theorem dX5_meetIfName_16 : decode cX5_meetIfName 16 = .ok (.aload_n 0, 1) := by decide +kernel
theorem dX5_meetIfName_17 : decode cX5_meetIfName 17 = .ok (.invokevirtual 122, 3) := by decide +kernel
theorem dX5_meetIfName_20 : decode cX5_meetIfName 20 = .ok (.ireturn, 1) := by decide +kernel
theorem dX5_meetLineName_0 : decode cX5_meetLineName 0 = .ok (.aload_n 0, 1) := by decide +kernel
theorem dX5_meetLineName_1 : decode cX5_meetLineName 1 = .ok (.aload_n 0, 1) := by decide +kernel
theorem dX5_meetLineName_2 : decode cX5_meetLineName 2 = .ok (.getfield 12, 3) := by decide +kernel
theorem dX5_meetLineName_5 : decode cX5_meetLineName 5 = .ok (.getfield 133, 3) := by decide +kernel
theorem dX5_meetLineName_8 : decode cX5_meetLineName 8 = .ok (.putfield 38, 3) := by decide +kernel
theorem dX5_meetLineName_11 : decode cX5_meetLineName 11 = .ok (.aload_n 0, 1) := by decide +kernel
theorem dX5_meetLineName_12 : decode cX5_meetLineName 12 = .ok (.bipush 6, 2) := by decide +kernel
theorem dX5_meetLineName_14 : decode cX5_meetLineName 14 = .ok (.putfield 32, 3) := by decide +kernel
theorem dX5_meetLineName_17 : decode cX5_meetLineName 17 = .ok (.aload_n 0, 1) := by decide +kernel
theorem dX5_meetLineName_18 : decode cX5_meetLineName 18 = .ok (.invokevirtual 122, 3) := by decide +kernel
theorem dX5_meetLineName_21 : decode cX5_meetLineName 21 = .ok (.ireturn, 1) := by decide +kernel
theorem dX5_faultOfName_0 : decode cX5_faultOfName 0 = .ok (.aload_n 0, 1) := by decide +kernel
theorem dX5_faultOfName_1 : decode cX5_faultOfName 1 = .ok (.getfield 12, 3) := by decide +kernel
theorem dX5_faultOfName_4 : decode cX5_faultOfName 4 = .ok (.getfield 57, 3) := by decide +kernel
theorem dX5_faultOfName_7 : decode cX5_faultOfName 7 = .ok (.iconst 2, 1) := by decide +kernel
theorem dX5_faultOfName_8 : decode cX5_faultOfName 8 = .ok (.if_icmp .eq 5, 3) := by decide +kernel
theorem dX5_faultOfName_11 : decode cX5_faultOfName 11 = .ok (.iconst 1, 1) := by decide +kernel
theorem dX5_faultOfName_12 : decode cX5_faultOfName 12 = .ok (.ireturn, 1) := by decide +kernel
theorem dX5_faultOfName_13 : decode cX5_faultOfName 13 = .ok (.aload_n 0, 1) := by decide +kernel
theorem dX5_faultOfName_14 : decode cX5_faultOfName 14 = .ok (.getfield 12, 3) := by decide +kernel
theorem dX5_faultOfName_17 : decode cX5_faultOfName 17 = .ok (.getfield 133, 3) := by decide +kernel
theorem dX5_faultOfName_20 : decode cX5_faultOfName 20 = .ok (.iconst (-1), 1) := by decide +kernel
theorem dX5_faultOfName_21 : decode cX5_faultOfName 21 = .ok (.if_icmp .ne 7, 3) := by decide +kernel
theorem dX5_faultOfName_24 : decode cX5_faultOfName 24 = .ok (.iconst 2, 1) := by decide +kernel
theorem dX5_faultOfName_25 : decode cX5_faultOfName 25 = .ok (.goto 4, 3) := by decide +kernel
theorem dX5_faultOfName_28 : decode cX5_faultOfName 28 = .ok (.iconst 0, 1) := by decide +kernel
theorem dX5_faultOfName_29 : decode cX5_faultOfName 29 = .ok (.ireturn, 1) := by decide +kernel
theorem dX5_meetOp_0 : decode cX5_meetOp 0 = .ok (.aload_n 0, 1) := by decide +kernel
theorem dX5_meetOp_1 : decode cX5_meetOp 1 = .ok (.getfield 21, 3) := by decide +kernel
theorem dX5_meetOp_4 : decode cX5_meetOp 4 = .ok (.getfield 136, 3) := by decide +kernel
theorem dX5_meetOp_7 : decode cX5_meetOp 7 = .ok (.bipush 120, 2) := by decide +kernel
theorem dX5_meetOp_9 : decode cX5_meetOp 9 = .ok (.if_icmp .lt 5, 3) := by decide +kernel
theorem dX5_meetOp_12 : decode cX5_meetOp 12 = .ok (.iconst 5, 1) := by decide +kernel
theorem dX5_meetOp_13 : decode cX5_meetOp 13 = .ok (.ireturn, 1) := by decide +kernel
theorem dX5_meetOp_14 : decode cX5_meetOp 14 = .ok (.aload_n 0, 1) := by decide +kernel
theorem dX5_meetOp_15 : decode cX5_meetOp 15 = .ok (.getfield 21, 3) := by decide +kernel
theorem dX5_meetOp_18 : decode cX5_meetOp 18 = .ok (.dup, 1) := by decide +kernel
theorem dX5_meetOp_19 : decode cX5_meetOp 19 = .ok (.getfield 136, 3) := by decide +kernel
theorem dX5_meetOp_22 : decode cX5_meetOp 22 = .ok (.iconst 1, 1) := by decide +kernel
theorem dX5_meetOp_23 : decode cX5_meetOp 23 = .ok (.iadd, 1) := by decide +kernel
theorem dX5_meetOp_24 : decode cX5_meetOp 24 = .ok (.putfield 136, 3) := by decide +kernel
theorem dX5_meetOp_27 : decode cX5_meetOp 27 = .ok (.aload_n 0, 1) := by decide +kernel
theorem dX5_meetOp_28 : decode cX5_meetOp 28 = .ok (.iload_n 1, 1) := by decide +kernel
theorem dX5_meetOp_29 : decode cX5_meetOp 29 = .ok (.putfield 32, 3) := by decide +kernel
theorem dX5_meetOp_32 : decode cX5_meetOp 32 = .ok (.iconst 0, 1) := by decide +kernel
theorem dX5_meetOp_33 : decode cX5_meetOp 33 = .ok (.ireturn, 1) := by decide +kernel
theorem dX5_meetEquals_0 : decode cX5_meetEquals 0 = .ok (.aload_n 0, 1) := by decide +kernel
theorem dX5_meetEquals_1 : decode cX5_meetEquals 1 = .ok (.iconst 0, 1) := by decide +kernel
theorem dX5_meetEquals_2 : decode cX5_meetEquals 2 = .ok (.putfield 41, 3) := by decide +kernel
theorem dX5_meetEquals_5 : decode cX5_meetEquals 5 = .ok (.aload_n 0, 1) := by decide +kernel
theorem dX5_meetEquals_6 : decode cX5_meetEquals 6 = .ok (.invokevirtual 139, 3) := by decide +kernel
theorem dX5_meetEquals_9 : decode cX5_meetEquals 9 = .ok (.aload_n 0, 1) := by decide +kernel
theorem dX5_meetEquals_10 : decode cX5_meetEquals 10 = .ok (.bipush 61, 2) := by decide +kernel
theorem dX5_meetEquals_12 : decode cX5_meetEquals 12 = .ok (.bipush 7, 2) := by decide +kernel
theorem dX5_meetEquals_14 : decode cX5_meetEquals 14 = .ok (.invokevirtual 82, 3) := by decide +kernel
theorem dX5_meetEquals_17 : decode cX5_meetEquals 17 = .ok (.ireturn, 1) := by decide +kernel
theorem dX5_beginSum_0 : decode cX5_beginSum 0 = .ok (.aload_n 0, 1) := by decide +kernel
theorem dX5_beginSum_1 : decode cX5_beginSum 1 = .ok (.getfield 44, 3) := by decide +kernel
theorem dX5_beginSum_4 : decode cX5_beginSum 4 = .ok (.aload_n 0, 1) := by decide +kernel
theorem dX5_beginSum_5 : decode cX5_beginSum 5 = .ok (.getfield 41, 3) := by decide +kernel
theorem dX5_beginSum_8 : decode cX5_beginSum 8 = .ok (.iconst 0, 1) := by decide +kernel
theorem dX5_beginSum_9 : decode cX5_beginSum 9 = .ok (.iastore, 1) := by decide +kernel
theorem dX5_beginSum_10 : decode cX5_beginSum 10 = .ok (.aload_n 0, 1) := by decide +kernel
theorem dX5_beginSum_11 : decode cX5_beginSum 11 = .ok (.getfield 48, 3) := by decide +kernel
theorem dX5_beginSum_14 : decode cX5_beginSum 14 = .ok (.aload_n 0, 1) := by decide +kernel
theorem dX5_beginSum_15 : decode cX5_beginSum 15 = .ok (.getfield 41, 3) := by decide +kernel
theorem dX5_beginSum_18 : decode cX5_beginSum 18 = .ok (.iconst 0, 1) := by decide +kernel
theorem dX5_beginSum_19 : decode cX5_beginSum 19 = .ok (.iastore, 1) := by decide +kernel
theorem dX5_beginSum_20 : decode cX5_beginSum 20 = .ok (.return_, 1) := by decide +kernel
theorem dX5_meetPart_0 : decode cX5_meetPart 0 = .ok (.aload_n 0, 1) := by decide +kernel
theorem dX5_meetPart_1 : decode cX5_meetPart 1 = .ok (.getfield 12, 3) := by decide +kernel
theorem dX5_meetPart_4 : decode cX5_meetPart 4 = .ok (.getfield 57, 3) := by decide +kernel
theorem dX5_meetPart_7 : decode cX5_meetPart 7 = .ok (.lookupswitch 48 #[(3, 43), (40, 38), (126, 33)], 33) := by decide +kernel
theorem dX5_meetPart_40 : decode cX5_meetPart 40 = .ok (.aload_n 0, 1) := by decide +kernel
theorem dX5_meetPart_41 : decode cX5_meetPart 41 = .ok (.invokevirtual 142, 3) := by decide +kernel
theorem dX5_meetPart_44 : decode cX5_meetPart 44 = .ok (.ireturn, 1) := by decide +kernel
theorem dX5_meetPart_45 : decode cX5_meetPart 45 = .ok (.aload_n 0, 1) := by decide +kernel
theorem dX5_meetPart_46 : decode cX5_meetPart 46 = .ok (.invokevirtual 145, 3) := by decide +kernel
theorem dX5_meetPart_49 : decode cX5_meetPart 49 = .ok (.ireturn, 1) := by decide +kernel
theorem dX5_meetPart_50 : decode cX5_meetPart 50 = .ok (.aload_n 0, 1) := by decide +kernel
theorem dX5_meetPart_51 : decode cX5_meetPart 51 = .ok (.invokevirtual 148, 3) := by decide +kernel
theorem dX5_meetPart_54 : decode cX5_meetPart 54 = .ok (.ireturn, 1) := by decide +kernel
theorem dX5_meetPart_55 : decode cX5_meetPart 55 = .ok (.aload_n 0, 1) := by decide +kernel
theorem dX5_meetPart_56 : decode cX5_meetPart 56 = .ok (.invokevirtual 151, 3) := by decide +kernel
theorem dX5_meetPart_59 : decode cX5_meetPart 59 = .ok (.ireturn, 1) := by decide +kernel
theorem dX5_meetTurn_0 : decode cX5_meetTurn 0 = .ok (.aload_n 0, 1) := by decide +kernel
theorem dX5_meetTurn_1 : decode cX5_meetTurn 1 = .ok (.getfield 48, 3) := by decide +kernel
theorem dX5_meetTurn_4 : decode cX5_meetTurn 4 = .ok (.aload_n 0, 1) := by decide +kernel
theorem dX5_meetTurn_5 : decode cX5_meetTurn 5 = .ok (.getfield 41, 3) := by decide +kernel
theorem dX5_meetTurn_8 : decode cX5_meetTurn 8 = .ok (.dup2, 1) := by decide +kernel
theorem dX5_meetTurn_9 : decode cX5_meetTurn 9 = .ok (.iaload, 1) := by decide +kernel
theorem dX5_meetTurn_10 : decode cX5_meetTurn 10 = .ok (.iconst 1, 1) := by decide +kernel
theorem dX5_meetTurn_11 : decode cX5_meetTurn 11 = .ok (.iadd, 1) := by decide +kernel
theorem dX5_meetTurn_12 : decode cX5_meetTurn 12 = .ok (.iastore, 1) := by decide +kernel
theorem dX5_meetTurn_13 : decode cX5_meetTurn 13 = .ok (.aload_n 0, 1) := by decide +kernel
theorem dX5_meetTurn_14 : decode cX5_meetTurn 14 = .ok (.bipush 7, 2) := by decide +kernel
theorem dX5_meetTurn_16 : decode cX5_meetTurn 16 = .ok (.invokevirtual 129, 3) := by decide +kernel
theorem dX5_meetTurn_19 : decode cX5_meetTurn 19 = .ok (.ireturn, 1) := by decide +kernel
theorem dX5_meetOpening_0 : decode cX5_meetOpening 0 = .ok (.aload_n 0, 1) := by decide +kernel
theorem dX5_meetOpening_1 : decode cX5_meetOpening 1 = .ok (.getfield 41, 3) := by decide +kernel
theorem dX5_meetOpening_4 : decode cX5_meetOpening 4 = .ok (.bipush 8, 2) := by decide +kernel
theorem dX5_meetOpening_6 : decode cX5_meetOpening 6 = .ok (.if_icmp .lt 5, 3) := by decide +kernel
theorem dX5_meetOpening_9 : decode cX5_meetOpening 9 = .ok (.iconst 5, 1) := by decide +kernel
theorem dX5_meetOpening_10 : decode cX5_meetOpening 10 = .ok (.ireturn, 1) := by decide +kernel
theorem dX5_meetOpening_11 : decode cX5_meetOpening 11 = .ok (.aload_n 0, 1) := by decide +kernel
theorem dX5_meetOpening_12 : decode cX5_meetOpening 12 = .ok (.dup, 1) := by decide +kernel
theorem dX5_meetOpening_13 : decode cX5_meetOpening 13 = .ok (.getfield 41, 3) := by decide +kernel
theorem dX5_meetOpening_16 : decode cX5_meetOpening 16 = .ok (.iconst 1, 1) := by decide +kernel
theorem dX5_meetOpening_17 : decode cX5_meetOpening 17 = .ok (.iadd, 1) := by decide +kernel
theorem dX5_meetOpening_18 : decode cX5_meetOpening 18 = .ok (.putfield 41, 3) := by decide +kernel
theorem dX5_meetOpening_21 : decode cX5_meetOpening 21 = .ok (.aload_n 0, 1) := by decide +kernel
theorem dX5_meetOpening_22 : decode cX5_meetOpening 22 = .ok (.invokevirtual 139, 3) := by decide +kernel
theorem dX5_meetOpening_25 : decode cX5_meetOpening 25 = .ok (.iconst 0, 1) := by decide +kernel
theorem dX5_meetOpening_26 : decode cX5_meetOpening 26 = .ok (.ireturn, 1) := by decide +kernel
theorem dX5_meetWhole_0 : decode cX5_meetWhole 0 = .ok (.aload_n 0, 1) := by decide +kernel
theorem dX5_meetWhole_1 : decode cX5_meetWhole 1 = .ok (.getfield 12, 3) := by decide +kernel
theorem dX5_meetWhole_4 : decode cX5_meetWhole 4 = .ok (.getfield 112, 3) := by decide +kernel
theorem dX5_meetWhole_7 : decode cX5_meetWhole 7 = .ok (.ldc 154, 2) := by decide +kernel
theorem dX5_meetWhole_9 : decode cX5_meetWhole 9 = .ok (.if_icmp .le 5, 3) := by decide +kernel
theorem dX5_meetWhole_12 : decode cX5_meetWhole 12 = .ok (.iconst 4, 1) := by decide +kernel
theorem dX5_meetWhole_13 : decode cX5_meetWhole 13 = .ok (.ireturn, 1) := by decide +kernel
theorem dX5_meetWhole_14 : decode cX5_meetWhole 14 = .ok (.aload_n 0, 1) := by decide +kernel
theorem dX5_meetWhole_15 : decode cX5_meetWhole 15 = .ok (.getfield 21, 3) := by decide +kernel
theorem dX5_meetWhole_18 : decode cX5_meetWhole 18 = .ok (.iconst 3, 1) := by decide +kernel
theorem dX5_meetWhole_19 : decode cX5_meetWhole 19 = .ok (.aload_n 0, 1) := by decide +kernel
theorem dX5_meetWhole_20 : decode cX5_meetWhole 20 = .ok (.getfield 12, 3) := by decide +kernel
theorem dX5_meetWhole_23 : decode cX5_meetWhole 23 = .ok (.getfield 112, 3) := by decide +kernel
theorem dX5_meetWhole_26 : decode cX5_meetWhole 26 = .ok (.invokevirtual 155, 3) := by decide +kernel
theorem dX5_meetWhole_29 : decode cX5_meetWhole 29 = .ok (.aload_n 0, 1) := by decide +kernel
theorem dX5_meetWhole_30 : decode cX5_meetWhole 30 = .ok (.invokevirtual 159, 3) := by decide +kernel
theorem dX5_meetWhole_33 : decode cX5_meetWhole 33 = .ok (.iconst 0, 1) := by decide +kernel
theorem dX5_meetWhole_34 : decode cX5_meetWhole 34 = .ok (.ireturn, 1) := by decide +kernel
theorem dX5_meetAskedName_0 : decode cX5_meetAskedName 0 = .ok (.aload_n 0, 1) := by decide +kernel
theorem dX5_meetAskedName_1 : decode cX5_meetAskedName 1 = .ok (.invokevirtual 122, 3) := by decide +kernel
theorem dX5_meetAskedName_4 : decode cX5_meetAskedName 4 = .ok (.istore_n 1, 1) := by decide +kernel
theorem dX5_meetAskedName_5 : decode cX5_meetAskedName 5 = .ok (.iload_n 1, 1) := by decide +kernel
theorem dX5_meetAskedName_6 : decode cX5_meetAskedName 6 = .ok (.ifCond .ne 22, 3) := by decide +kernel
theorem dX5_meetAskedName_9 : decode cX5_meetAskedName 9 = .ok (.aload_n 0, 1) := by decide +kernel
theorem dX5_meetAskedName_10 : decode cX5_meetAskedName 10 = .ok (.getfield 21, 3) := by decide +kernel
theorem dX5_meetAskedName_13 : decode cX5_meetAskedName 13 = .ok (.iconst 4, 1) := by decide +kernel
theorem dX5_meetAskedName_14 : decode cX5_meetAskedName 14 = .ok (.aload_n 0, 1) := by decide +kernel
theorem dX5_meetAskedName_15 : decode cX5_meetAskedName 15 = .ok (.getfield 12, 3) := by decide +kernel
theorem dX5_meetAskedName_18 : decode cX5_meetAskedName 18 = .ok (.getfield 133, 3) := by decide +kernel
theorem dX5_meetAskedName_21 : decode cX5_meetAskedName 21 = .ok (.invokevirtual 155, 3) := by decide +kernel
theorem dX5_meetAskedName_24 : decode cX5_meetAskedName 24 = .ok (.aload_n 0, 1) := by decide +kernel
theorem dX5_meetAskedName_25 : decode cX5_meetAskedName 25 = .ok (.invokevirtual 159, 3) := by decide +kernel
theorem dX5_meetAskedName_28 : decode cX5_meetAskedName 28 = .ok (.iload_n 1, 1) := by decide +kernel
theorem dX5_meetAskedName_29 : decode cX5_meetAskedName 29 = .ok (.ireturn, 1) := by decide +kernel
theorem dX5_endPart_0 : decode cX5_endPart 0 = .ok (.iconst 0, 1) := by decide +kernel
theorem dX5_endPart_1 : decode cX5_endPart 1 = .ok (.istore_n 1, 1) := by decide +kernel
theorem dX5_endPart_2 : decode cX5_endPart 2 = .ok (.iload_n 1, 1) := by decide +kernel
theorem dX5_endPart_3 : decode cX5_endPart 3 = .ok (.aload_n 0, 1) := by decide +kernel
theorem dX5_endPart_4 : decode cX5_endPart 4 = .ok (.getfield 48, 3) := by decide +kernel
theorem dX5_endPart_7 : decode cX5_endPart 7 = .ok (.aload_n 0, 1) := by decide +kernel
theorem dX5_endPart_8 : decode cX5_endPart 8 = .ok (.getfield 41, 3) := by decide +kernel
theorem dX5_endPart_11 : decode cX5_endPart 11 = .ok (.iaload, 1) := by decide +kernel
theorem dX5_endPart_12 : decode cX5_endPart 12 = .ok (.if_icmp .ge 19, 3) := by decide +kernel
theorem dX5_endPart_15 : decode cX5_endPart 15 = .ok (.aload_n 0, 1) := by decide +kernel
theorem dX5_endPart_16 : decode cX5_endPart 16 = .ok (.getfield 21, 3) := by decide +kernel
theorem dX5_endPart_19 : decode cX5_endPart 19 = .ok (.bipush 126, 2) := by decide +kernel
theorem dX5_endPart_21 : decode cX5_endPart 21 = .ok (.iconst 0, 1) := by decide +kernel
theorem dX5_endPart_22 : decode cX5_endPart 22 = .ok (.invokevirtual 155, 3) := by decide +kernel
theorem dX5_endPart_25 : decode cX5_endPart 25 = .ok (.iinc 1 1, 3) := by decide +kernel
theorem dX5_endPart_28 : decode cX5_endPart 28 = .ok (.goto (-26), 3) := by decide +kernel
theorem dX5_endPart_31 : decode cX5_endPart 31 = .ok (.aload_n 0, 1) := by decide +kernel
theorem dX5_endPart_32 : decode cX5_endPart 32 = .ok (.getfield 48, 3) := by decide +kernel
theorem dX5_endPart_35 : decode cX5_endPart 35 = .ok (.aload_n 0, 1) := by decide +kernel
theorem dX5_endPart_36 : decode cX5_endPart 36 = .ok (.getfield 41, 3) := by decide +kernel
theorem dX5_endPart_39 : decode cX5_endPart 39 = .ok (.iconst 0, 1) := by decide +kernel
theorem dX5_endPart_40 : decode cX5_endPart 40 = .ok (.iastore, 1) := by decide +kernel
theorem dX5_endPart_41 : decode cX5_endPart 41 = .ok (.aload_n 0, 1) := by decide +kernel
theorem dX5_endPart_42 : decode cX5_endPart 42 = .ok (.getfield 44, 3) := by decide +kernel
theorem dX5_endPart_45 : decode cX5_endPart 45 = .ok (.aload_n 0, 1) := by decide +kernel
theorem dX5_endPart_46 : decode cX5_endPart 46 = .ok (.getfield 41, 3) := by decide +kernel
theorem dX5_endPart_49 : decode cX5_endPart 49 = .ok (.iaload, 1) := by decide +kernel
theorem dX5_endPart_50 : decode cX5_endPart 50 = .ok (.ifCond .eq 20, 3) := by decide +kernel
theorem dX5_endPart_53 : decode cX5_endPart 53 = .ok (.aload_n 0, 1) := by decide +kernel
theorem dX5_endPart_54 : decode cX5_endPart 54 = .ok (.getfield 21, 3) := by decide +kernel
theorem dX5_endPart_57 : decode cX5_endPart 57 = .ok (.aload_n 0, 1) := by decide +kernel
theorem dX5_endPart_58 : decode cX5_endPart 58 = .ok (.getfield 44, 3) := by decide +kernel
theorem dX5_endPart_61 : decode cX5_endPart 61 = .ok (.aload_n 0, 1) := by decide +kernel
theorem dX5_endPart_62 : decode cX5_endPart 62 = .ok (.getfield 41, 3) := by decide +kernel
theorem dX5_endPart_65 : decode cX5_endPart 65 = .ok (.iaload, 1) := by decide +kernel
theorem dX5_endPart_66 : decode cX5_endPart 66 = .ok (.iconst 0, 1) := by decide +kernel
theorem dX5_endPart_67 : decode cX5_endPart 67 = .ok (.invokevirtual 155, 3) := by decide +kernel
theorem dX5_endPart_70 : decode cX5_endPart 70 = .ok (.aload_n 0, 1) := by decide +kernel
theorem dX5_endPart_71 : decode cX5_endPart 71 = .ok (.bipush 8, 2) := by decide +kernel
theorem dX5_endPart_73 : decode cX5_endPart 73 = .ok (.putfield 32, 3) := by decide +kernel
theorem dX5_endPart_76 : decode cX5_endPart 76 = .ok (.return_, 1) := by decide +kernel
theorem dX5_meetBehindPart_0 : decode cX5_meetBehindPart 0 = .ok (.aload_n 0, 1) := by decide +kernel
theorem dX5_meetBehindPart_1 : decode cX5_meetBehindPart 1 = .ok (.getfield 12, 3) := by decide +kernel
theorem dX5_meetBehindPart_4 : decode cX5_meetBehindPart 4 = .ok (.invokevirtual 162, 3) := by decide +kernel
theorem dX5_meetBehindPart_7 : decode cX5_meetBehindPart 7 = .ok (.ifCond .eq 8, 3) := by decide +kernel
theorem dX5_meetBehindPart_10 : decode cX5_meetBehindPart 10 = .ok (.aload_n 0, 1) := by decide +kernel
theorem dX5_meetBehindPart_11 : decode cX5_meetBehindPart 11 = .ok (.invokevirtual 165, 3) := by decide +kernel
theorem dX5_meetBehindPart_14 : decode cX5_meetBehindPart 14 = .ok (.ireturn, 1) := by decide +kernel
theorem dX5_meetBehindPart_15 : decode cX5_meetBehindPart 15 = .ok (.aload_n 0, 1) := by decide +kernel
theorem dX5_meetBehindPart_16 : decode cX5_meetBehindPart 16 = .ok (.getfield 41, 3) := by decide +kernel
theorem dX5_meetBehindPart_19 : decode cX5_meetBehindPart 19 = .ok (.ifCond .le 8, 3) := by decide +kernel
theorem dX5_meetBehindPart_22 : decode cX5_meetBehindPart 22 = .ok (.aload_n 0, 1) := by decide +kernel
theorem dX5_meetBehindPart_23 : decode cX5_meetBehindPart 23 = .ok (.invokevirtual 168, 3) := by decide +kernel
theorem dX5_meetBehindPart_26 : decode cX5_meetBehindPart 26 = .ok (.ireturn, 1) := by decide +kernel
theorem dX5_meetBehindPart_27 : decode cX5_meetBehindPart 27 = .ok (.aload_n 0, 1) := by decide +kernel
theorem dX5_meetBehindPart_28 : decode cX5_meetBehindPart 28 = .ok (.getfield 12, 3) := by decide +kernel
theorem dX5_meetBehindPart_31 : decode cX5_meetBehindPart 31 = .ok (.getfield 57, 3) := by decide +kernel
theorem dX5_meetBehindPart_34 : decode cX5_meetBehindPart 34 = .ok (.bipush 59, 2) := by decide +kernel
theorem dX5_meetBehindPart_36 : decode cX5_meetBehindPart 36 = .ok (.if_icmp .eq 17, 3) := by decide +kernel
theorem dX5_meetBehindPart_39 : decode cX5_meetBehindPart 39 = .ok (.aload_n 0, 1) := by decide +kernel
theorem dX5_meetBehindPart_40 : decode cX5_meetBehindPart 40 = .ok (.getfield 12, 3) := by decide +kernel
theorem dX5_meetBehindPart_43 : decode cX5_meetBehindPart 43 = .ok (.getfield 57, 3) := by decide +kernel
theorem dX5_meetBehindPart_46 : decode cX5_meetBehindPart 46 = .ok (.bipush 125, 2) := by decide +kernel
theorem dX5_meetBehindPart_48 : decode cX5_meetBehindPart 48 = .ok (.if_icmp .eq 5, 3) := by decide +kernel
theorem dX5_meetBehindPart_51 : decode cX5_meetBehindPart 51 = .ok (.iconst 1, 1) := by decide +kernel
theorem dX5_meetBehindPart_52 : decode cX5_meetBehindPart 52 = .ok (.ireturn, 1) := by decide +kernel
theorem dX5_meetBehindPart_53 : decode cX5_meetBehindPart 53 = .ok (.aload_n 0, 1) := by decide +kernel
theorem dX5_meetBehindPart_54 : decode cX5_meetBehindPart 54 = .ok (.getfield 21, 3) := by decide +kernel
theorem dX5_meetBehindPart_57 : decode cX5_meetBehindPart 57 = .ok (.aload_n 0, 1) := by decide +kernel
theorem dX5_meetBehindPart_58 : decode cX5_meetBehindPart 58 = .ok (.getfield 35, 3) := by decide +kernel
theorem dX5_meetBehindPart_61 : decode cX5_meetBehindPart 61 = .ok (.aload_n 0, 1) := by decide +kernel
theorem dX5_meetBehindPart_62 : decode cX5_meetBehindPart 62 = .ok (.getfield 38, 3) := by decide +kernel
theorem dX5_meetBehindPart_65 : decode cX5_meetBehindPart 65 = .ok (.invokevirtual 171, 3) := by decide +kernel
theorem dX5_meetBehindPart_68 : decode cX5_meetBehindPart 68 = .ok (.aload_n 0, 1) := by decide +kernel
theorem dX5_meetBehindPart_69 : decode cX5_meetBehindPart 69 = .ok (.aload_n 0, 1) := by decide +kernel
theorem dX5_meetBehindPart_70 : decode cX5_meetBehindPart 70 = .ok (.getfield 12, 3) := by decide +kernel
theorem dX5_meetBehindPart_73 : decode cX5_meetBehindPart 73 = .ok (.getfield 57, 3) := by decide +kernel
theorem dX5_meetBehindPart_76 : decode cX5_meetBehindPart 76 = .ok (.bipush 59, 2) := by decide +kernel
theorem dX5_meetBehindPart_78 : decode cX5_meetBehindPart 78 = .ok (.if_icmp .ne 7, 3) := by decide +kernel
theorem dX5_meetBehindPart_81 : decode cX5_meetBehindPart 81 = .ok (.iconst 3, 1) := by decide +kernel
theorem dX5_meetBehindPart_82 : decode cX5_meetBehindPart 82 = .ok (.goto 4, 3) := by decide +kernel
theorem dX5_meetBehindPart_85 : decode cX5_meetBehindPart 85 = .ok (.iconst 0, 1) := by decide +kernel
theorem dX5_meetBehindPart_86 : decode cX5_meetBehindPart 86 = .ok (.putfield 32, 3) := by decide +kernel
theorem dX5_meetBehindPart_89 : decode cX5_meetBehindPart 89 = .ok (.iconst 0, 1) := by decide +kernel
theorem dX5_meetBehindPart_90 : decode cX5_meetBehindPart 90 = .ok (.ireturn, 1) := by decide +kernel
theorem dX5_meetSign_0 : decode cX5_meetSign 0 = .ok (.aload_n 0, 1) := by decide +kernel
theorem dX5_meetSign_1 : decode cX5_meetSign 1 = .ok (.getfield 44, 3) := by decide +kernel
theorem dX5_meetSign_4 : decode cX5_meetSign 4 = .ok (.aload_n 0, 1) := by decide +kernel
theorem dX5_meetSign_5 : decode cX5_meetSign 5 = .ok (.getfield 41, 3) := by decide +kernel
theorem dX5_meetSign_8 : decode cX5_meetSign 8 = .ok (.iaload, 1) := by decide +kernel
theorem dX5_meetSign_9 : decode cX5_meetSign 9 = .ok (.ifCond .eq 24, 3) := by decide +kernel
theorem dX5_meetSign_12 : decode cX5_meetSign 12 = .ok (.aload_n 0, 1) := by decide +kernel
theorem dX5_meetSign_13 : decode cX5_meetSign 13 = .ok (.getfield 44, 3) := by decide +kernel
theorem dX5_meetSign_16 : decode cX5_meetSign 16 = .ok (.aload_n 0, 1) := by decide +kernel
theorem dX5_meetSign_17 : decode cX5_meetSign 17 = .ok (.getfield 41, 3) := by decide +kernel
theorem dX5_meetSign_20 : decode cX5_meetSign 20 = .ok (.iaload, 1) := by decide +kernel
theorem dX5_meetSign_21 : decode cX5_meetSign 21 = .ok (.aload_n 0, 1) := by decide +kernel
theorem dX5_meetSign_22 : decode cX5_meetSign 22 = .ok (.getfield 12, 3) := by decide +kernel
theorem dX5_meetSign_25 : decode cX5_meetSign 25 = .ok (.getfield 57, 3) := by decide +kernel
theorem dX5_meetSign_28 : decode cX5_meetSign 28 = .ok (.if_icmp .eq 5, 3) := by decide +kernel
theorem dX5_meetSign_31 : decode cX5_meetSign 31 = .ok (.iconst 1, 1) := by decide +kernel
theorem dX5_meetSign_32 : decode cX5_meetSign 32 = .ok (.ireturn, 1) := by decide +kernel
theorem dX5_meetSign_33 : decode cX5_meetSign 33 = .ok (.aload_n 0, 1) := by decide +kernel
theorem dX5_meetSign_34 : decode cX5_meetSign 34 = .ok (.getfield 44, 3) := by decide +kernel
theorem dX5_meetSign_37 : decode cX5_meetSign 37 = .ok (.aload_n 0, 1) := by decide +kernel
theorem dX5_meetSign_38 : decode cX5_meetSign 38 = .ok (.getfield 41, 3) := by decide +kernel
theorem dX5_meetSign_41 : decode cX5_meetSign 41 = .ok (.aload_n 0, 1) := by decide +kernel
theorem dX5_meetSign_42 : decode cX5_meetSign 42 = .ok (.getfield 12, 3) := by decide +kernel
theorem dX5_meetSign_45 : decode cX5_meetSign 45 = .ok (.getfield 57, 3) := by decide +kernel
theorem dX5_meetSign_48 : decode cX5_meetSign 48 = .ok (.iastore, 1) := by decide +kernel
theorem dX5_meetSign_49 : decode cX5_meetSign 49 = .ok (.aload_n 0, 1) := by decide +kernel
theorem dX5_meetSign_50 : decode cX5_meetSign 50 = .ok (.bipush 7, 2) := by decide +kernel
theorem dX5_meetSign_52 : decode cX5_meetSign 52 = .ok (.invokevirtual 129, 3) := by decide +kernel
theorem dX5_meetSign_55 : decode cX5_meetSign 55 = .ok (.ireturn, 1) := by decide +kernel
theorem dX5_meetClosing_0 : decode cX5_meetClosing 0 = .ok (.aload_n 0, 1) := by decide +kernel
theorem dX5_meetClosing_1 : decode cX5_meetClosing 1 = .ok (.getfield 12, 3) := by decide +kernel
theorem dX5_meetClosing_4 : decode cX5_meetClosing 4 = .ok (.getfield 57, 3) := by decide +kernel
theorem dX5_meetClosing_7 : decode cX5_meetClosing 7 = .ok (.bipush 41, 2) := by decide +kernel
theorem dX5_meetClosing_9 : decode cX5_meetClosing 9 = .ok (.if_icmp .eq 5, 3) := by decide +kernel
theorem dX5_meetClosing_12 : decode cX5_meetClosing 12 = .ok (.iconst 1, 1) := by decide +kernel
theorem dX5_meetClosing_13 : decode cX5_meetClosing 13 = .ok (.ireturn, 1) := by decide +kernel
theorem dX5_meetClosing_14 : decode cX5_meetClosing 14 = .ok (.aload_n 0, 1) := by decide +kernel
theorem dX5_meetClosing_15 : decode cX5_meetClosing 15 = .ok (.dup, 1) := by decide +kernel
theorem dX5_meetClosing_16 : decode cX5_meetClosing 16 = .ok (.getfield 41, 3) := by decide +kernel
theorem dX5_meetClosing_19 : decode cX5_meetClosing 19 = .ok (.iconst 1, 1) := by decide +kernel
theorem dX5_meetClosing_20 : decode cX5_meetClosing 20 = .ok (.isub, 1) := by decide +kernel
theorem dX5_meetClosing_21 : decode cX5_meetClosing 21 = .ok (.putfield 41, 3) := by decide +kernel
theorem dX5_meetClosing_24 : decode cX5_meetClosing 24 = .ok (.aload_n 0, 1) := by decide +kernel
theorem dX5_meetClosing_25 : decode cX5_meetClosing 25 = .ok (.invokevirtual 159, 3) := by decide +kernel
theorem dX5_meetClosing_28 : decode cX5_meetClosing 28 = .ok (.iconst 0, 1) := by decide +kernel
theorem dX5_meetClosing_29 : decode cX5_meetClosing 29 = .ok (.ireturn, 1) := by decide +kernel
def fX5_meetBlockName (NN : Nat) (oR : Rc) (oT : Rc) (oS : Rc) : Option (Int32 × Rc × Rc) :=
  if (oT 4 0) = (2 : Int32) then (
    zB1 (fX4_hasBlockNamed NN oT oS) fun v1 =>
    if v1 = 0 then (
      if (oS 0 0) < (12 : Int32) then (
        zB1 (fX4_addBlock NN oT oS) fun oS_2 =>
        zLet (rs oR 4 (fun _ => (1 : Int32))) fun oR_3 =>
        some ((0 : Int32), oR_3, oS_2)
      ) else (
        some ((5 : Int32), oR, oS)
      )
    ) else (
      some ((3 : Int32), oR, oS)
    )
  ) else (
    some ((1 : Int32), oR, oS)
  )
abbrev rX5_meetBlockName : Room := { frames := 3, cells := 0, slots := 0, locals := 66 }
set_option maxHeartbeats 4000000 in
set_option maxRecDepth 100000 in
theorem mtX5_meetBlockName (l : Launch) (dC : Nat → ClassId) (dI : Nat → Nat → Nat) (cI cB : ClassId) (aR aT aS : Nat → Nat) (sz : Nat) (NN : Nat) (oR : Rc) (oT : Rc) (oS : Rc) {ov : Int32} {oR' : Rc} {oS' : Rc} (hf : fX5_meetBlockName NN oR oT oS = some (ov, oR', oS')) : zMi l yX5_meetBlockName (Cond.code yX5_meetBlockName cX5_meetBlockName 1 (some .int) :: lw_g) rX5_meetBlockName (dC, dI) [(cI, .int), (cB, .byte)] [.ref (aR 0)] sz (kX5 cI cB aR (aT 0) (aS 0) oR ++ kX6 cI cB aT oT ++ kX4 cI cB aS oS) ov (kX5 cI cB aR (aT 0) (aS 0) oR' ++ kX6 cI cB aT oT ++ kX4 cI cB aS oS') := by
  refine zSt (cc := cX5_meetBlockName) (maxL := 1) (ret := (some .int)) (own := RX5) (fun A => zQi (dC, dI) [(cI, .int), (cB, .byte)] A ov (kX5 cI cB aR (aT 0) (aS 0) oR' ++ kX6 cI cB aT oT ++ kX4 cI cB aS oS')) (by decide) rfl rfl (Nat.le_of_ble_eq_true rfl) ?_
  intro p e s m below meth c ls A H locs C hK hA hP hD hS hl
  generalize hQ : MQ below (zQi (dC, dI) [(cI, .int), (cB, .byte)] A ov (kX5 cI cB aR (aT 0) (aS 0) oR' ++ kX6 cI cB aT oT ++ kX4 cI cB aS oS')) _ s 0 0 A = QQ
  generalize ([.ref (aR 0)] : List Value).toArray = args at C hQ ⊢
  have hl : lv_has ls 1 [(0, .ref (aR 0))] := hl
  unfold fX5_meetBlockName at hf
  refine lv_aload_n C.1.1 C.1.2.1 dX5_meetBlockName_0 rfl (lv_at hl 0 rfl) ?_
  refine zGet (.ref (aT 0)) C.1 wuX5 hK hP 0 rfl rfl 0 (by decide) wfX5_12 rfl rfl dX5_meetBlockName_1 ?_
  refine zGet (.int (oT 4 0)) C.1 wuX6 hK hP 3 rfl rfl 4 (by decide) wfX5_57 rfl rfl dX5_meetBlockName_4 ?_
  refine lv_iconst (v := 2) C.1.1 C.1.2.1 dX5_meetBlockName_7 (by decide) ?_
  refine lv_icmp_eq (tgt := 13) C.1.1 C.1.2.1 dX5_meetBlockName_8 (by decide) (fun hc => ?_) (fun hc => ?_)
  · replace hf := zIf_t hf hc
    refine lv_aload_n C.1.1 C.1.2.1 dX5_meetBlockName_13 rfl (lv_at hl 0 rfl) ?_
    refine zGet (.ref (aS 0)) C.1 wuX5 hK hP 0 rfl rfl 1 (by decide) wfX5_21 rfl rfl dX5_meetBlockName_14 ?_
    refine lv_aload_n C.1.1 C.1.2.1 dX5_meetBlockName_17 rfl (lv_at hl 0 rfl) ?_
    refine zGet (.ref (aT 0)) C.1 wuX5 hK hP 0 rfl rfl 0 (by decide) wfX5_12 rfl rfl dX5_meetBlockName_18 ?_
    obtain ⟨v1, hg, hf⟩ := zB1_el hf
    refine zCVi (As := [.ref (aT 0)]) (rest := []) (wr := (kX5 cI cB aR (aT 0) (aS 0) oR)) (wn := (kX5 cI cB aR (aT 0) (aS 0) oR ++ kX6 cI cB aT oT ++ kX4 cI cB aS oS)) C.1 hK hA hP hD hS [3, 4, 5, 6, 7, 8, 9, 10, 11, 12, 13, 14] [0, 1, 2] [0, 1, 2, 3, 4, 5, 6, 7, 8, 9, 10, 11, 12, 13, 14] 2 (mtX4_hasBlockNamed l dC dI cI cB aT aS H.size NN oT oS hg) (zCwV 1 C.1 wlX5_104 wiX4_hasBlockNamed ws_X4_hasBlockNamed wnX4 wkX4_hasBlockNamed rfl rfl (by decide +kernel) ⟨Nat.le_of_ble_eq_true rfl, Nat.le_of_ble_eq_true rfl⟩) rfl rfl (by decide +kernel) rfl rfl rfl rfl hl.1 (Nat.le_of_ble_eq_true rfl) dX5_meetBlockName_21 ⟨Nat.zero_le _, Nat.zero_le _⟩ rfl (fun H locs hP hD hS => ?_)
    refine lv_if_eq (tgt := 29) C.1.1 C.1.2.1 dX5_meetBlockName_24 (by decide) (fun hc => ?_) (fun hc => ?_)
    · replace hf := zIf_t hf hc
      refine lv_aload_n C.1.1 C.1.2.1 dX5_meetBlockName_29 rfl (lv_at hl 0 rfl) ?_
      refine zGet (.ref (aS 0)) C.1 wuX5 hK hP 0 rfl rfl 1 (by decide) wfX5_21 rfl rfl dX5_meetBlockName_30 ?_
      refine zGet (.int (oS 0 0)) C.1 wuX4 hK hP 5 rfl rfl 0 (by decide) wfX5_67 rfl rfl dX5_meetBlockName_33 ?_
      refine lv_bipush (v := 12) C.1.1 C.1.2.1 dX5_meetBlockName_36 (by decide) ?_
      refine lv_icmp_lt (tgt := 43) C.1.1 C.1.2.1 dX5_meetBlockName_38 (by decide) (fun hc => ?_) (fun hc => ?_)
      · replace hf := zIf_t hf hc
        refine lv_aload_n C.1.1 C.1.2.1 dX5_meetBlockName_43 rfl (lv_at hl 0 rfl) ?_
        refine zGet (.ref (aS 0)) C.1 wuX5 hK hP 0 rfl rfl 1 (by decide) wfX5_21 rfl rfl dX5_meetBlockName_44 ?_
        refine lv_aload_n C.1.1 C.1.2.1 dX5_meetBlockName_47 rfl (lv_at hl 0 rfl) ?_
        refine zGet (.ref (aT 0)) C.1 wuX5 hK hP 0 rfl rfl 0 (by decide) wfX5_12 rfl rfl dX5_meetBlockName_48 ?_
        obtain ⟨oS_2, hg, hf⟩ := zB1_el hf
        refine zCVv (As := [.ref (aT 0)]) (rest := []) (wr := (kX5 cI cB aR (aT 0) (aS 0) oR)) (wn := (kX5 cI cB aR (aT 0) (aS 0) oR ++ kX6 cI cB aT oT ++ kX4 cI cB aS oS_2)) C.1 hK hA hP hD hS [3, 4, 5, 6, 7, 8, 9, 10, 11, 12, 13, 14] [0, 1, 2] [0, 1, 2, 3, 4, 5, 6, 7, 8, 9, 10, 11, 12, 13, 14] 2 (mtX4_addBlock l dC dI cI cB aT aS H.size NN oT oS hg) (zCwV 1 C.1 wlX5_108 wiX4_addBlock ws_X4_addBlock wnX4 wkX4_addBlock rfl rfl (by decide +kernel) ⟨Nat.le_of_ble_eq_true rfl, Nat.le_of_ble_eq_true rfl⟩) rfl rfl (by decide +kernel) rfl rfl rfl rfl hl.1 (Nat.le_of_ble_eq_true rfl) dX5_meetBlockName_51 ⟨Nat.zero_le _, Nat.zero_le _⟩ rfl (fun H locs hP hD hS => ?_)
        refine lv_aload_n C.1.1 C.1.2.1 dX5_meetBlockName_54 rfl (lv_at hl 0 rfl) ?_
        refine lv_iconst (v := 1) C.1.1 C.1.2.1 dX5_meetBlockName_55 (by decide) ?_
        obtain ⟨oR_3, eoR_3, hf⟩ := zLet_el hf
        refine zPut (ty := .int) (kX5 cI cB aR (aT 0) (aS 0) oR_3 ++ kX6 cI cB aT oT ++ kX4 cI cB aS oS_2) C.1 wuX5 tyX5 tyX5_ok nmX5 hK hP hD hS 0 rfl rfl 4 (by decide) wfX5_32 rfl rfl (by decide +kernel) rfl rfl (Nat.le_of_ble_eq_true rfl) dX5_meetBlockName_56 (by rw [eoR_3]; rfl) (fun H locs hP hD hS => ?_)
        refine lv_iconst (v := 0) C.1.1 C.1.2.1 dX5_meetBlockName_59 (by decide) ?_
        cases hf
        rw [← hQ]
        exact zRi C hK hP hD hS dX5_meetBlockName_60
      · replace hf := zIf_f hf hc
        refine lv_iconst (v := 5) C.1.1 C.1.2.1 dX5_meetBlockName_41 (by decide) ?_
        cases hf
        rw [← hQ]
        exact zRi C hK hP hD hS dX5_meetBlockName_42
    · replace hf := zIf_f hf hc
      refine lv_iconst (v := 3) C.1.1 C.1.2.1 dX5_meetBlockName_27 (by decide) ?_
      cases hf
      rw [← hQ]
      exact zRi C hK hP hD hS dX5_meetBlockName_28
  · replace hf := zIf_f hf hc
    refine lv_iconst (v := 1) C.1.1 C.1.2.1 dX5_meetBlockName_11 (by decide) ?_
    cases hf
    rw [← hQ]
    exact zRi C hK hP hD hS dX5_meetBlockName_12
def fX5_meetTimes (oR : Rc) (oT : Rc) (oS : Rc) : Option (Int32 × Rc × Rc) :=
  if (oT 4 0) = (3 : Int32) then (
    if (oT 7 0) < (1 : Int32) then (
      some ((4 : Int32), oR, oS)
    ) else (
      if (oT 7 0) ≤ (50 : Int32) then (
        zB1 (fX4_repeatLatestBlock oS (oT 7 0)) fun oS_1 =>
        zLet (rs oR 4 (fun _ => (2 : Int32))) fun oR_2 =>
        some ((0 : Int32), oR_2, oS_1)
      ) else (
        some ((4 : Int32), oR, oS)
      )
    )
  ) else (
    some ((1 : Int32), oR, oS)
  )
abbrev rX5_meetTimes : Room := { frames := 1, cells := 0, slots := 0, locals := 21 }
set_option maxHeartbeats 4000000 in
set_option maxRecDepth 100000 in
theorem mtX5_meetTimes (l : Launch) (dC : Nat → ClassId) (dI : Nat → Nat → Nat) (cI cB : ClassId) (aR aT aS : Nat → Nat) (sz : Nat) (oR : Rc) (oT : Rc) (oS : Rc) {ov : Int32} {oR' : Rc} {oS' : Rc} (hf : fX5_meetTimes oR oT oS = some (ov, oR', oS')) : zMi l yX5_meetTimes (Cond.code yX5_meetTimes cX5_meetTimes 1 (some .int) :: lw_g) rX5_meetTimes (dC, dI) [(cI, .int), (cB, .byte)] [.ref (aR 0)] sz (kX5 cI cB aR (aT 0) (aS 0) oR ++ kX6 cI cB aT oT ++ kX4 cI cB aS oS) ov (kX5 cI cB aR (aT 0) (aS 0) oR' ++ kX6 cI cB aT oT ++ kX4 cI cB aS oS') := by
  refine zSt (cc := cX5_meetTimes) (maxL := 1) (ret := (some .int)) (own := RX5) (fun A => zQi (dC, dI) [(cI, .int), (cB, .byte)] A ov (kX5 cI cB aR (aT 0) (aS 0) oR' ++ kX6 cI cB aT oT ++ kX4 cI cB aS oS')) (by decide) rfl rfl (Nat.le_of_ble_eq_true rfl) ?_
  intro p e s m below meth c ls A H locs C hK hA hP hD hS hl
  generalize hQ : MQ below (zQi (dC, dI) [(cI, .int), (cB, .byte)] A ov (kX5 cI cB aR (aT 0) (aS 0) oR' ++ kX6 cI cB aT oT ++ kX4 cI cB aS oS')) _ s 0 0 A = QQ
  generalize ([.ref (aR 0)] : List Value).toArray = args at C hQ ⊢
  have hl : lv_has ls 1 [(0, .ref (aR 0))] := hl
  unfold fX5_meetTimes at hf
  refine lv_aload_n C.1.1 C.1.2.1 dX5_meetTimes_0 rfl (lv_at hl 0 rfl) ?_
  refine zGet (.ref (aT 0)) C.1 wuX5 hK hP 0 rfl rfl 0 (by decide) wfX5_12 rfl rfl dX5_meetTimes_1 ?_
  refine zGet (.int (oT 4 0)) C.1 wuX6 hK hP 3 rfl rfl 4 (by decide) wfX5_57 rfl rfl dX5_meetTimes_4 ?_
  refine lv_iconst (v := 3) C.1.1 C.1.2.1 dX5_meetTimes_7 (by decide) ?_
  refine lv_icmp_eq (tgt := 13) C.1.1 C.1.2.1 dX5_meetTimes_8 (by decide) (fun hc => ?_) (fun hc => ?_)
  · replace hf := zIf_t hf hc
    refine lv_aload_n C.1.1 C.1.2.1 dX5_meetTimes_13 rfl (lv_at hl 0 rfl) ?_
    refine zGet (.ref (aT 0)) C.1 wuX5 hK hP 0 rfl rfl 0 (by decide) wfX5_12 rfl rfl dX5_meetTimes_14 ?_
    refine zGet (.int (oT 7 0)) C.1 wuX6 hK hP 3 rfl rfl 7 (by decide) wfX5_112 rfl rfl dX5_meetTimes_17 ?_
    refine lv_iconst (v := 1) C.1.1 C.1.2.1 dX5_meetTimes_20 (by decide) ?_
    refine lv_icmp_lt (tgt := 36) C.1.1 C.1.2.1 dX5_meetTimes_21 (by decide) (fun hc => ?_) (fun hc => ?_)
    · replace hf := zIf_t hf hc
      refine lv_iconst (v := 4) C.1.1 C.1.2.1 dX5_meetTimes_36 (by decide) ?_
      cases hf
      rw [← hQ]
      exact zRi C hK hP hD hS dX5_meetTimes_37
    · replace hf := zIf_f hf hc
      refine lv_aload_n C.1.1 C.1.2.1 dX5_meetTimes_24 rfl (lv_at hl 0 rfl) ?_
      refine zGet (.ref (aT 0)) C.1 wuX5 hK hP 0 rfl rfl 0 (by decide) wfX5_12 rfl rfl dX5_meetTimes_25 ?_
      refine zGet (.int (oT 7 0)) C.1 wuX6 hK hP 3 rfl rfl 7 (by decide) wfX5_112 rfl rfl dX5_meetTimes_28 ?_
      refine lv_bipush (v := 50) C.1.1 C.1.2.1 dX5_meetTimes_31 (by decide) ?_
      refine lv_icmp_le (tgt := 38) C.1.1 C.1.2.1 dX5_meetTimes_33 (by decide) (fun hc => ?_) (fun hc => ?_)
      · replace hf := zIf_t hf hc
        refine lv_aload_n C.1.1 C.1.2.1 dX5_meetTimes_38 rfl (lv_at hl 0 rfl) ?_
        refine zGet (.ref (aS 0)) C.1 wuX5 hK hP 0 rfl rfl 1 (by decide) wfX5_21 rfl rfl dX5_meetTimes_39 ?_
        refine lv_aload_n C.1.1 C.1.2.1 dX5_meetTimes_42 rfl (lv_at hl 0 rfl) ?_
        refine zGet (.ref (aT 0)) C.1 wuX5 hK hP 0 rfl rfl 0 (by decide) wfX5_12 rfl rfl dX5_meetTimes_43 ?_
        refine zGet (.int (oT 7 0)) C.1 wuX6 hK hP 3 rfl rfl 7 (by decide) wfX5_112 rfl rfl dX5_meetTimes_46 ?_
        obtain ⟨oS_1, hg, hf⟩ := zB1_el hf
        refine zCVv (As := [.int (oT 7 0)]) (rest := []) (wr := (kX5 cI cB aR (aT 0) (aS 0) oR ++ kX6 cI cB aT oT)) (wn := (kX5 cI cB aR (aT 0) (aS 0) oR ++ kX6 cI cB aT oT ++ kX4 cI cB aS oS_1)) C.1 hK hA hP hD hS [5, 6, 7, 8, 9, 10, 11, 12, 13, 14] [0, 1, 2, 3, 4] [0, 1, 2, 3, 4, 5, 6, 7, 8, 9, 10, 11, 12, 13, 14] 0 (mtX4_repeatLatestBlock l dC dI cI cB aS H.size oS (oT 7 0) hg) (zCwV 1 C.1 wlX5_115 wiX4_repeatLatestBlock ws_X4_repeatLatestBlock wnX4 wkX4_repeatLatestBlock rfl rfl (by decide +kernel) ⟨Nat.le_of_ble_eq_true rfl, Nat.le_of_ble_eq_true rfl⟩) rfl rfl (by decide +kernel) rfl rfl rfl rfl hl.1 (Nat.le_of_ble_eq_true rfl) dX5_meetTimes_49 ⟨Nat.zero_le _, Nat.zero_le _⟩ rfl (fun H locs hP hD hS => ?_)
        refine lv_aload_n C.1.1 C.1.2.1 dX5_meetTimes_52 rfl (lv_at hl 0 rfl) ?_
        refine lv_iconst (v := 2) C.1.1 C.1.2.1 dX5_meetTimes_53 (by decide) ?_
        obtain ⟨oR_2, eoR_2, hf⟩ := zLet_el hf
        refine zPut (ty := .int) (kX5 cI cB aR (aT 0) (aS 0) oR_2 ++ kX6 cI cB aT oT ++ kX4 cI cB aS oS_1) C.1 wuX5 tyX5 tyX5_ok nmX5 hK hP hD hS 0 rfl rfl 4 (by decide) wfX5_32 rfl rfl (by decide +kernel) rfl rfl (Nat.le_of_ble_eq_true rfl) dX5_meetTimes_54 (by rw [eoR_2]; rfl) (fun H locs hP hD hS => ?_)
        refine lv_iconst (v := 0) C.1.1 C.1.2.1 dX5_meetTimes_57 (by decide) ?_
        cases hf
        rw [← hQ]
        exact zRi C hK hP hD hS dX5_meetTimes_58
      · replace hf := zIf_f hf hc
        refine lv_iconst (v := 4) C.1.1 C.1.2.1 dX5_meetTimes_36 (by decide) ?_
        cases hf
        rw [← hQ]
        exact zRi C hK hP hD hS dX5_meetTimes_37
  · replace hf := zIf_f hf hc
    refine lv_iconst (v := 1) C.1.1 C.1.2.1 dX5_meetTimes_11 (by decide) ?_
    cases hf
    rw [← hQ]
    exact zRi C hK hP hD hS dX5_meetTimes_12
def fX5_meetSingle (oR : Rc) (oT : Rc) (p1 : Int32) (p2 : Int32) : Option (Int32 × Rc) :=
  if (oT 4 0) = p1 then (
    zLet (rs oR 4 (fun _ => p2)) fun oR_1 =>
    some ((0 : Int32), oR_1)
  ) else (
    some ((1 : Int32), oR)
  )
abbrev rX5_meetSingle : Room := { frames := 0, cells := 0, slots := 0, locals := 0 }
set_option maxHeartbeats 4000000 in
set_option maxRecDepth 100000 in
theorem mtX5_meetSingle (l : Launch) (dC : Nat → ClassId) (dI : Nat → Nat → Nat) (cI cB : ClassId) (aR aT aS : Nat → Nat) (sz : Nat) (oR : Rc) (oT : Rc) (p1 : Int32) (p2 : Int32) {ov : Int32} {oR' : Rc} (hf : fX5_meetSingle oR oT p1 p2 = some (ov, oR')) : zMi l yX5_meetSingle (Cond.code yX5_meetSingle cX5_meetSingle 3 (some .int) :: lw_g) rX5_meetSingle (dC, dI) [(cI, .int), (cB, .byte)] [.ref (aR 0), .int p1, .int p2] sz (kX5 cI cB aR (aT 0) (aS 0) oR ++ kX6 cI cB aT oT) ov (kX5 cI cB aR (aT 0) (aS 0) oR' ++ kX6 cI cB aT oT) := by
  refine zSt (cc := cX5_meetSingle) (maxL := 3) (ret := (some .int)) (own := RX5) (fun A => zQi (dC, dI) [(cI, .int), (cB, .byte)] A ov (kX5 cI cB aR (aT 0) (aS 0) oR' ++ kX6 cI cB aT oT)) (by decide) rfl rfl (Nat.le_of_ble_eq_true rfl) ?_
  intro p e s m below meth c ls A H locs C hK hA hP hD hS hl
  generalize hQ : MQ below (zQi (dC, dI) [(cI, .int), (cB, .byte)] A ov (kX5 cI cB aR (aT 0) (aS 0) oR' ++ kX6 cI cB aT oT)) _ s 0 0 A = QQ
  generalize ([.ref (aR 0), .int p1, .int p2] : List Value).toArray = args at C hQ ⊢
  have hl : lv_has ls 3 [(0, .ref (aR 0)), (1, .int p1), (2, .int p2)] := hl
  unfold fX5_meetSingle at hf
  refine lv_aload_n C.1.1 C.1.2.1 dX5_meetSingle_0 rfl (lv_at hl 0 rfl) ?_
  refine zGet (.ref (aT 0)) C.1 wuX5 hK hP 0 rfl rfl 0 (by decide) wfX5_12 rfl rfl dX5_meetSingle_1 ?_
  refine zGet (.int (oT 4 0)) C.1 wuX6 hK hP 3 rfl rfl 4 (by decide) wfX5_57 rfl rfl dX5_meetSingle_4 ?_
  refine lv_iload_n C.1.1 C.1.2.1 dX5_meetSingle_7 rfl (lv_at hl 1 rfl) ?_
  refine lv_icmp_eq (tgt := 13) C.1.1 C.1.2.1 dX5_meetSingle_8 (by decide) (fun hc => ?_) (fun hc => ?_)
  · replace hf := zIf_t hf hc
    refine lv_aload_n C.1.1 C.1.2.1 dX5_meetSingle_13 rfl (lv_at hl 0 rfl) ?_
    refine lv_iload_n C.1.1 C.1.2.1 dX5_meetSingle_14 rfl (lv_at hl 2 rfl) ?_
    obtain ⟨oR_1, eoR_1, hf⟩ := zLet_el hf
    refine zPut (ty := .int) (kX5 cI cB aR (aT 0) (aS 0) oR_1 ++ kX6 cI cB aT oT) C.1 wuX5 tyX5 tyX5_ok nmX5 hK hP hD hS 0 rfl rfl 4 (by decide) wfX5_32 rfl rfl (by decide +kernel) rfl rfl (Nat.le_of_ble_eq_true rfl) dX5_meetSingle_15 (by rw [eoR_1]; rfl) (fun H locs hP hD hS => ?_)
    refine lv_iconst (v := 0) C.1.1 C.1.2.1 dX5_meetSingle_18 (by decide) ?_
    cases hf
    rw [← hQ]
    exact zRi C hK hP hD hS dX5_meetSingle_19
  · replace hf := zIf_f hf hc
    refine lv_iconst (v := 1) C.1.1 C.1.2.1 dX5_meetSingle_11 (by decide) ?_
    cases hf
    rw [← hQ]
    exact zRi C hK hP hD hS dX5_meetSingle_12
def fX5_faultOfName (oT : Rc) : Option (Int32) :=
  if (oT 4 0) = (2 : Int32) then (
    if (oT 8 0) = (-1 : Int32) then (
      some (2 : Int32)
    ) else (
      some (0 : Int32)
    )
  ) else (
    some (1 : Int32)
  )
abbrev rX5_faultOfName : Room := { frames := 0, cells := 0, slots := 0, locals := 0 }
set_option maxHeartbeats 4000000 in
set_option maxRecDepth 100000 in
theorem mtX5_faultOfName (l : Launch) (dC : Nat → ClassId) (dI : Nat → Nat → Nat) (cI cB : ClassId) (aR aT aS : Nat → Nat) (sz : Nat) (oR : Rc) (oT : Rc) {ov : Int32} (hf : fX5_faultOfName oT = some ov) : zMi l yX5_faultOfName (Cond.code yX5_faultOfName cX5_faultOfName 1 (some .int) :: lw_g) rX5_faultOfName (dC, dI) [(cI, .int), (cB, .byte)] [.ref (aR 0)] sz (kX5 cI cB aR (aT 0) (aS 0) oR ++ kX6 cI cB aT oT) ov (kX5 cI cB aR (aT 0) (aS 0) oR ++ kX6 cI cB aT oT) := by
  refine zSt (cc := cX5_faultOfName) (maxL := 1) (ret := (some .int)) (own := RX5) (fun A => zQi (dC, dI) [(cI, .int), (cB, .byte)] A ov (kX5 cI cB aR (aT 0) (aS 0) oR ++ kX6 cI cB aT oT)) (by decide) rfl rfl (Nat.le_of_ble_eq_true rfl) ?_
  intro p e s m below meth c ls A H locs C hK hA hP hD hS hl
  generalize hQ : MQ below (zQi (dC, dI) [(cI, .int), (cB, .byte)] A ov (kX5 cI cB aR (aT 0) (aS 0) oR ++ kX6 cI cB aT oT)) _ s 0 0 A = QQ
  generalize ([.ref (aR 0)] : List Value).toArray = args at C hQ ⊢
  have hl : lv_has ls 1 [(0, .ref (aR 0))] := hl
  unfold fX5_faultOfName at hf
  refine lv_aload_n C.1.1 C.1.2.1 dX5_faultOfName_0 rfl (lv_at hl 0 rfl) ?_
  refine zGet (.ref (aT 0)) C.1 wuX5 hK hP 0 rfl rfl 0 (by decide) wfX5_12 rfl rfl dX5_faultOfName_1 ?_
  refine zGet (.int (oT 4 0)) C.1 wuX6 hK hP 3 rfl rfl 4 (by decide) wfX5_57 rfl rfl dX5_faultOfName_4 ?_
  refine lv_iconst (v := 2) C.1.1 C.1.2.1 dX5_faultOfName_7 (by decide) ?_
  refine lv_icmp_eq (tgt := 13) C.1.1 C.1.2.1 dX5_faultOfName_8 (by decide) (fun hc => ?_) (fun hc => ?_)
  · replace hf := zIf_t hf hc
    refine lv_aload_n C.1.1 C.1.2.1 dX5_faultOfName_13 rfl (lv_at hl 0 rfl) ?_
    refine zGet (.ref (aT 0)) C.1 wuX5 hK hP 0 rfl rfl 0 (by decide) wfX5_12 rfl rfl dX5_faultOfName_14 ?_
    refine zGet (.int (oT 8 0)) C.1 wuX6 hK hP 3 rfl rfl 8 (by decide) wfX5_133 rfl rfl dX5_faultOfName_17 ?_
    refine lv_iconst (v := (-1)) C.1.1 C.1.2.1 dX5_faultOfName_20 (by decide) ?_
    refine lv_icmp_ne (tgt := 28) C.1.1 C.1.2.1 dX5_faultOfName_21 (by decide) (fun hc => ?_) (fun hc => ?_)
    · replace hf := zIf_f hf hc
      refine lv_iconst (v := 0) C.1.1 C.1.2.1 dX5_faultOfName_28 (by decide) ?_
      cases hf
      rw [← hQ]
      exact zRi C hK hP hD hS dX5_faultOfName_29
    · replace hf := zIf_t hf hc
      refine lv_iconst (v := 2) C.1.1 C.1.2.1 dX5_faultOfName_24 (by decide) ?_
      refine lv_goto (tgt := 29) C.1.1 C.1.2.1 dX5_faultOfName_25 (by decide) ?_
      cases hf
      rw [← hQ]
      exact zRi C hK hP hD hS dX5_faultOfName_29
  · replace hf := zIf_f hf hc
    refine lv_iconst (v := 1) C.1.1 C.1.2.1 dX5_faultOfName_11 (by decide) ?_
    cases hf
    rw [← hQ]
    exact zRi C hK hP hD hS dX5_faultOfName_12
def fX5_meetOp (oR : Rc) (oS : Rc) (p1 : Int32) : Option (Int32 × Rc × Rc) :=
  if (oS 3 0) < (120 : Int32) then (
    zLet (rs oS 3 (fun _ => ((oS 3 0) + (1 : Int32)))) fun oS_1 =>
    zLet (rs oR 4 (fun _ => p1)) fun oR_2 =>
    some ((0 : Int32), oR_2, oS_1)
  ) else (
    some ((5 : Int32), oR, oS)
  )
abbrev rX5_meetOp : Room := { frames := 0, cells := 0, slots := 0, locals := 0 }
set_option maxHeartbeats 4000000 in
set_option maxRecDepth 100000 in
theorem mtX5_meetOp (l : Launch) (dC : Nat → ClassId) (dI : Nat → Nat → Nat) (cI cB : ClassId) (aR aT aS : Nat → Nat) (sz : Nat) (oR : Rc) (oS : Rc) (p1 : Int32) {ov : Int32} {oR' : Rc} {oS' : Rc} (hf : fX5_meetOp oR oS p1 = some (ov, oR', oS')) : zMi l yX5_meetOp (Cond.code yX5_meetOp cX5_meetOp 2 (some .int) :: lw_g) rX5_meetOp (dC, dI) [(cI, .int), (cB, .byte)] [.ref (aR 0), .int p1] sz (kX5 cI cB aR (aT 0) (aS 0) oR ++ kX4 cI cB aS oS) ov (kX5 cI cB aR (aT 0) (aS 0) oR' ++ kX4 cI cB aS oS') := by
  refine zSt (cc := cX5_meetOp) (maxL := 2) (ret := (some .int)) (own := RX5) (fun A => zQi (dC, dI) [(cI, .int), (cB, .byte)] A ov (kX5 cI cB aR (aT 0) (aS 0) oR' ++ kX4 cI cB aS oS')) (by decide) rfl rfl (Nat.le_of_ble_eq_true rfl) ?_
  intro p e s m below meth c ls A H locs C hK hA hP hD hS hl
  generalize hQ : MQ below (zQi (dC, dI) [(cI, .int), (cB, .byte)] A ov (kX5 cI cB aR (aT 0) (aS 0) oR' ++ kX4 cI cB aS oS')) _ s 0 0 A = QQ
  generalize ([.ref (aR 0), .int p1] : List Value).toArray = args at C hQ ⊢
  have hl : lv_has ls 2 [(0, .ref (aR 0)), (1, .int p1)] := hl
  unfold fX5_meetOp at hf
  refine lv_aload_n C.1.1 C.1.2.1 dX5_meetOp_0 rfl (lv_at hl 0 rfl) ?_
  refine zGet (.ref (aS 0)) C.1 wuX5 hK hP 0 rfl rfl 1 (by decide) wfX5_21 rfl rfl dX5_meetOp_1 ?_
  refine zGet (.int (oS 3 0)) C.1 wuX4 hK hP 3 rfl rfl 3 (by decide) wfX5_136 rfl rfl dX5_meetOp_4 ?_
  refine lv_bipush (v := 120) C.1.1 C.1.2.1 dX5_meetOp_7 (by decide) ?_
  refine lv_icmp_lt (tgt := 14) C.1.1 C.1.2.1 dX5_meetOp_9 (by decide) (fun hc => ?_) (fun hc => ?_)
  · replace hf := zIf_t hf hc
    refine lv_aload_n C.1.1 C.1.2.1 dX5_meetOp_14 rfl (lv_at hl 0 rfl) ?_
    refine zGet (.ref (aS 0)) C.1 wuX5 hK hP 0 rfl rfl 1 (by decide) wfX5_21 rfl rfl dX5_meetOp_15 ?_
    refine lv_dup C.1.1 C.1.2.1 dX5_meetOp_18 rfl ?_
    refine zGet (.int (oS 3 0)) C.1 wuX4 hK hP 3 rfl rfl 3 (by decide) wfX5_136 rfl rfl dX5_meetOp_19 ?_
    refine lv_iconst (v := 1) C.1.1 C.1.2.1 dX5_meetOp_22 (by decide) ?_
    refine lv_iadd C.1.1 C.1.2.1 dX5_meetOp_23 ?_
    obtain ⟨oS_1, eoS_1, hf⟩ := zLet_el hf
    refine zPut (ty := .int) (kX5 cI cB aR (aT 0) (aS 0) oR ++ kX4 cI cB aS oS_1) C.1 wuX4 tyX4 tyX4_ok nmX4 hK hP hD hS 3 rfl rfl 3 (by decide) wfX5_136 rfl rfl (by decide +kernel) rfl rfl (Nat.le_of_ble_eq_true rfl) dX5_meetOp_24 (by rw [eoS_1]; rfl) (fun H locs hP hD hS => ?_)
    refine lv_aload_n C.1.1 C.1.2.1 dX5_meetOp_27 rfl (lv_at hl 0 rfl) ?_
    refine lv_iload_n C.1.1 C.1.2.1 dX5_meetOp_28 rfl (lv_at hl 1 rfl) ?_
    obtain ⟨oR_2, eoR_2, hf⟩ := zLet_el hf
    refine zPut (ty := .int) (kX5 cI cB aR (aT 0) (aS 0) oR_2 ++ kX4 cI cB aS oS_1) C.1 wuX5 tyX5 tyX5_ok nmX5 hK hP hD hS 0 rfl rfl 4 (by decide) wfX5_32 rfl rfl (by decide +kernel) rfl rfl (Nat.le_of_ble_eq_true rfl) dX5_meetOp_29 (by rw [eoR_2]; rfl) (fun H locs hP hD hS => ?_)
    refine lv_iconst (v := 0) C.1.1 C.1.2.1 dX5_meetOp_32 (by decide) ?_
    cases hf
    rw [← hQ]
    exact zRi C hK hP hD hS dX5_meetOp_33
  · replace hf := zIf_f hf hc
    refine lv_iconst (v := 5) C.1.1 C.1.2.1 dX5_meetOp_12 (by decide) ?_
    cases hf
    rw [← hQ]
    exact zRi C hK hP hD hS dX5_meetOp_13
def fX5_meetLineName (oR : Rc) (oT : Rc) : Option (Int32 × Rc) :=
  zLet (rs oR 6 (fun _ => (oT 8 0))) fun oR_1 =>
  zLet (rs oR_1 4 (fun _ => (6 : Int32))) fun oR_2 =>
  zB1 (fX5_faultOfName oT) fun v3 =>
  some (v3, oR_2)
abbrev rX5_meetLineName : Room := { frames := 1, cells := 0, slots := 0, locals := 20 }
set_option maxHeartbeats 4000000 in
set_option maxRecDepth 100000 in
theorem mtX5_meetLineName (l : Launch) (dC : Nat → ClassId) (dI : Nat → Nat → Nat) (cI cB : ClassId) (aR aT aS : Nat → Nat) (sz : Nat) (oR : Rc) (oT : Rc) {ov : Int32} {oR' : Rc} (hf : fX5_meetLineName oR oT = some (ov, oR')) : zMi l yX5_meetLineName (Cond.code yX5_meetLineName cX5_meetLineName 1 (some .int) :: lw_g) rX5_meetLineName (dC, dI) [(cI, .int), (cB, .byte)] [.ref (aR 0)] sz (kX5 cI cB aR (aT 0) (aS 0) oR ++ kX6 cI cB aT oT) ov (kX5 cI cB aR (aT 0) (aS 0) oR' ++ kX6 cI cB aT oT) := by
  refine zSt (cc := cX5_meetLineName) (maxL := 1) (ret := (some .int)) (own := RX5) (fun A => zQi (dC, dI) [(cI, .int), (cB, .byte)] A ov (kX5 cI cB aR (aT 0) (aS 0) oR' ++ kX6 cI cB aT oT)) (by decide) rfl rfl (Nat.le_of_ble_eq_true rfl) ?_
  intro p e s m below meth c ls A H locs C hK hA hP hD hS hl
  generalize hQ : MQ below (zQi (dC, dI) [(cI, .int), (cB, .byte)] A ov (kX5 cI cB aR (aT 0) (aS 0) oR' ++ kX6 cI cB aT oT)) _ s 0 0 A = QQ
  generalize ([.ref (aR 0)] : List Value).toArray = args at C hQ ⊢
  have hl : lv_has ls 1 [(0, .ref (aR 0))] := hl
  unfold fX5_meetLineName at hf
  refine lv_aload_n C.1.1 C.1.2.1 dX5_meetLineName_0 rfl (lv_at hl 0 rfl) ?_
  refine lv_aload_n C.1.1 C.1.2.1 dX5_meetLineName_1 rfl (lv_at hl 0 rfl) ?_
  refine zGet (.ref (aT 0)) C.1 wuX5 hK hP 0 rfl rfl 0 (by decide) wfX5_12 rfl rfl dX5_meetLineName_2 ?_
  refine zGet (.int (oT 8 0)) C.1 wuX6 hK hP 3 rfl rfl 8 (by decide) wfX5_133 rfl rfl dX5_meetLineName_5 ?_
  obtain ⟨oR_1, eoR_1, hf⟩ := zLet_el hf
  refine zPut (ty := .int) (kX5 cI cB aR (aT 0) (aS 0) oR_1 ++ kX6 cI cB aT oT) C.1 wuX5 tyX5 tyX5_ok nmX5 hK hP hD hS 0 rfl rfl 6 (by decide) wfX5_38 rfl rfl (by decide +kernel) rfl rfl (Nat.le_of_ble_eq_true rfl) dX5_meetLineName_8 (by rw [eoR_1]; rfl) (fun H locs hP hD hS => ?_)
  refine lv_aload_n C.1.1 C.1.2.1 dX5_meetLineName_11 rfl (lv_at hl 0 rfl) ?_
  refine lv_bipush (v := 6) C.1.1 C.1.2.1 dX5_meetLineName_12 (by decide) ?_
  obtain ⟨oR_2, eoR_2, hf⟩ := zLet_el hf
  refine zPut (ty := .int) (kX5 cI cB aR (aT 0) (aS 0) oR_2 ++ kX6 cI cB aT oT) C.1 wuX5 tyX5 tyX5_ok nmX5 hK hP hD hS 0 rfl rfl 4 (by decide) wfX5_32 rfl rfl (by decide +kernel) rfl rfl (Nat.le_of_ble_eq_true rfl) dX5_meetLineName_14 (by rw [eoR_2]; rfl) (fun H locs hP hD hS => ?_)
  refine lv_aload_n C.1.1 C.1.2.1 dX5_meetLineName_17 rfl (lv_at hl 0 rfl) ?_
  obtain ⟨v3, hg, hf⟩ := zB1_el hf
  refine zCVi (As := []) (rest := []) (wr := ([] : va_W)) (wn := (kX5 cI cB aR (aT 0) (aS 0) oR_2 ++ kX6 cI cB aT oT)) C.1 hK hA hP hD hS [0, 1, 2, 3, 4] [] [0, 1, 2, 3, 4] 0 (mtX5_faultOfName l dC dI cI cB aR aT aS H.size oR_2 oT hg) (zCwV 0 C.1 wlX5_122 wiX5_faultOfName ws_X5_faultOfName wnX5 wkX5_faultOfName rfl rfl (by decide +kernel) ⟨Nat.le_of_ble_eq_true rfl, Nat.le_of_ble_eq_true rfl⟩) rfl rfl (by decide +kernel) rfl rfl rfl rfl hl.1 (Nat.le_of_ble_eq_true rfl) dX5_meetLineName_18 ⟨Nat.zero_le _, Nat.zero_le _⟩ rfl (fun H locs hP hD hS => ?_)
  cases hf
  rw [← hQ]
  exact zRi C hK hP hD hS dX5_meetLineName_21
def fX5_meetLine (oR : Rc) (oT : Rc) (oS : Rc) : Option (Int32 × Rc × Rc) :=
  zJn (fun (t1 : Int32) =>
      if t1 = 0 then (
        zB1 (fX4_latestBlockIsFull oS) fun v3 =>
        if v3 = 0 then (
          zLet (rs oR 5 (fun _ => (-1 : Int32))) fun oR_4 =>
          if (oT 9 0) = 0 then (
            zB2 (fX5_meetLineName oR_4 oT) fun v5 oR_6 =>
            some (v5, oR_6, oS)
          ) else (
            zB3 (fX5_meetOp oR_4 oS (4 : Int32)) fun v7 oR_8 oS_9 =>
            some (v7, oR_8, oS_9)
          )
        ) else (
          some ((5 : Int32), oR, oS)
        )
      ) else (
        some (t1, oR, oS)
      )
    ) fun J18_2 =>
  if (oT 9 0) = 0 then (
    zB1 (fX5_faultOfName oT) fun v10 =>
    J18_2 v10
  ) else (
    J18_2 (0 : Int32)
  )
abbrev rX5_meetLine : Room := { frames := 2, cells := 0, slots := 0, locals := 41 }
set_option maxHeartbeats 4000000 in
set_option maxRecDepth 100000 in
theorem mtX5_meetLine (l : Launch) (dC : Nat → ClassId) (dI : Nat → Nat → Nat) (cI cB : ClassId) (aR aT aS : Nat → Nat) (sz : Nat) (oR : Rc) (oT : Rc) (oS : Rc) {ov : Int32} {oR' : Rc} {oS' : Rc} (hf : fX5_meetLine oR oT oS = some (ov, oR', oS')) : zMi l yX5_meetLine (Cond.code yX5_meetLine cX5_meetLine 2 (some .int) :: lw_g) rX5_meetLine (dC, dI) [(cI, .int), (cB, .byte)] [.ref (aR 0)] sz (kX5 cI cB aR (aT 0) (aS 0) oR ++ kX6 cI cB aT oT ++ kX4 cI cB aS oS) ov (kX5 cI cB aR (aT 0) (aS 0) oR' ++ kX6 cI cB aT oT ++ kX4 cI cB aS oS') := by
  refine zSt (cc := cX5_meetLine) (maxL := 2) (ret := (some .int)) (own := RX5) (fun A => zQi (dC, dI) [(cI, .int), (cB, .byte)] A ov (kX5 cI cB aR (aT 0) (aS 0) oR' ++ kX6 cI cB aT oT ++ kX4 cI cB aS oS')) (by decide) rfl rfl (Nat.le_of_ble_eq_true rfl) ?_
  intro p e s m below meth c ls A H locs C hK hA hP hD hS hl
  generalize hQ : MQ below (zQi (dC, dI) [(cI, .int), (cB, .byte)] A ov (kX5 cI cB aR (aT 0) (aS 0) oR' ++ kX6 cI cB aT oT ++ kX4 cI cB aS oS')) _ s 0 0 A = QQ
  generalize ([.ref (aR 0)] : List Value).toArray = args at C hQ ⊢
  have hl : lv_has ls 2 [(0, .ref (aR 0))] := hl
  unfold fX5_meetLine at hf
  refine lv_aload_n C.1.1 C.1.2.1 dX5_meetLine_0 rfl (lv_at hl 0 rfl) ?_
  refine zGet (.ref (aT 0)) C.1 wuX5 hK hP 0 rfl rfl 0 (by decide) wfX5_12 rfl rfl dX5_meetLine_1 ?_
  refine zGet (.int (oT 9 0)) C.1 wuX6 hK hP 3 rfl rfl 9 (by decide) wfX5_118 rfl rfl dX5_meetLine_4 ?_
  obtain ⟨J18_2, eJ18_2, hf⟩ := zJn_el hf
  have hJ18_2 : ∀ (t1 : Int32), J18_2 t1 = some (ov, oR', oS') → ∀ (H : Heap) (locs : List Loc), va_P (dC, dI) vwCl (kX5 cI cB aR (aT 0) (aS 0) oR ++ kX6 cI cB aT oT ++ kX4 cI cB aS oS) H → va_D A (kX5 cI cB aR (aT 0) (aS 0) oR ++ kX6 cI cB aT oT ++ kX4 cI cB aS oS) → va_S A s.heap H locs → ∀ (ls : Array Slot), lv_has ls 2 [(0, .ref (aR 0))] → W p l e rX5_meetLine s m args below meth c H locs 0 0 QQ (F0 m 18 ls [.int t1]) := by
    intro t1 hf H locs hP hD hS ls hl
    rw [eJ18_2] at hf
    refine lv_istore_n (lv' := [(1, .int t1), (0, .ref (aR 0))]) C.1.1 C.1.2.1 dX5_meetLine_18 rfl hl (by decide) rfl (fun ls hl => ?_)
    refine lv_iload_n C.1.1 C.1.2.1 dX5_meetLine_19 rfl (lv_at hl 0 rfl) ?_
    refine lv_if_eq (tgt := 25) C.1.1 C.1.2.1 dX5_meetLine_20 (by decide) (fun hc => ?_) (fun hc => ?_)
    · replace hf := zIf_t hf hc
      refine lv_aload_n C.1.1 C.1.2.1 dX5_meetLine_25 rfl (lv_at hl 1 rfl) ?_
      refine zGet (.ref (aS 0)) C.1 wuX5 hK hP 0 rfl rfl 1 (by decide) wfX5_21 rfl rfl dX5_meetLine_26 ?_
      obtain ⟨v3, hg, hf⟩ := zB1_el hf
      refine zCVi (As := []) (rest := []) (wr := (kX5 cI cB aR (aT 0) (aS 0) oR ++ kX6 cI cB aT oT)) (wn := (kX5 cI cB aR (aT 0) (aS 0) oR ++ kX6 cI cB aT oT ++ kX4 cI cB aS oS)) C.1 hK hA hP hD hS [5, 6, 7, 8, 9, 10, 11, 12, 13, 14] [0, 1, 2, 3, 4] [0, 1, 2, 3, 4, 5, 6, 7, 8, 9, 10, 11, 12, 13, 14] 0 (mtX4_latestBlockIsFull l dC dI cI cB aS H.size oS hg) (zCwV 0 C.1 wlX5_125 wiX4_latestBlockIsFull ws_X4_latestBlockIsFull wnX4 wkX4_latestBlockIsFull rfl rfl (by decide +kernel) ⟨Nat.le_of_ble_eq_true rfl, Nat.le_of_ble_eq_true rfl⟩) rfl rfl (by decide +kernel) rfl rfl rfl rfl hl.1 (Nat.le_of_ble_eq_true rfl) dX5_meetLine_29 ⟨Nat.zero_le _, Nat.zero_le _⟩ rfl (fun H locs hP hD hS => ?_)
      refine lv_if_eq (tgt := 37) C.1.1 C.1.2.1 dX5_meetLine_32 (by decide) (fun hc => ?_) (fun hc => ?_)
      · replace hf := zIf_t hf hc
        refine lv_aload_n C.1.1 C.1.2.1 dX5_meetLine_37 rfl (lv_at hl 1 rfl) ?_
        refine lv_iconst (v := (-1)) C.1.1 C.1.2.1 dX5_meetLine_38 (by decide) ?_
        obtain ⟨oR_4, eoR_4, hf⟩ := zLet_el hf
        refine zPut (ty := .int) (kX5 cI cB aR (aT 0) (aS 0) oR_4 ++ kX6 cI cB aT oT ++ kX4 cI cB aS oS) C.1 wuX5 tyX5 tyX5_ok nmX5 hK hP hD hS 0 rfl rfl 5 (by decide) wfX5_35 rfl rfl (by decide +kernel) rfl rfl (Nat.le_of_ble_eq_true rfl) dX5_meetLine_39 (by rw [eoR_4]; rfl) (fun H locs hP hD hS => ?_)
        refine lv_aload_n C.1.1 C.1.2.1 dX5_meetLine_42 rfl (lv_at hl 1 rfl) ?_
        refine zGet (.ref (aT 0)) C.1 wuX5 hK hP 0 rfl rfl 0 (by decide) wfX5_12 rfl rfl dX5_meetLine_43 ?_
        refine zGet (.int (oT 9 0)) C.1 wuX6 hK hP 3 rfl rfl 9 (by decide) wfX5_118 rfl rfl dX5_meetLine_46 ?_
        refine lv_if_eq (tgt := 58) C.1.1 C.1.2.1 dX5_meetLine_49 (by decide) (fun hc => ?_) (fun hc => ?_)
        · replace hf := zIf_t hf hc
          refine lv_aload_n C.1.1 C.1.2.1 dX5_meetLine_58 rfl (lv_at hl 1 rfl) ?_
          obtain ⟨v5, oR_6, hg, hf⟩ := zB2_el hf
          refine zCVi (As := []) (rest := []) (wr := (kX4 cI cB aS oS)) (wn := (kX5 cI cB aR (aT 0) (aS 0) oR_6 ++ kX6 cI cB aT oT ++ kX4 cI cB aS oS)) C.1 hK hA hP hD hS [0, 1, 2, 3, 4] [5, 6, 7, 8, 9, 10, 11, 12, 13, 14] [10, 11, 12, 13, 14, 0, 1, 2, 3, 4, 5, 6, 7, 8, 9] 0 (mtX5_meetLineName l dC dI cI cB aR aT aS H.size oR_4 oT hg) (zCwV 0 C.1 wlX5_92 wiX5_meetLineName ws_X5_meetLineName wnX5 wkX5_meetLineName rfl rfl (by decide +kernel) ⟨Nat.le_of_ble_eq_true rfl, Nat.le_of_ble_eq_true rfl⟩) rfl rfl (by decide +kernel) rfl rfl rfl rfl hl.1 (Nat.le_of_ble_eq_true rfl) dX5_meetLine_59 ⟨Nat.zero_le _, Nat.zero_le _⟩ rfl (fun H locs hP hD hS => ?_)
          cases hf
          rw [← hQ]
          exact zRi C hK hP hD hS dX5_meetLine_62
        · replace hf := zIf_f hf hc
          refine lv_aload_n C.1.1 C.1.2.1 dX5_meetLine_52 rfl (lv_at hl 1 rfl) ?_
          refine lv_iconst (v := 4) C.1.1 C.1.2.1 dX5_meetLine_53 (by decide) ?_
          obtain ⟨v7, oR_8, oS_9, hg, hf⟩ := zB3_el hf
          refine zCVi (As := [.int (4 : Int32)]) (rest := []) (wr := (kX6 cI cB aT oT)) (wn := (kX5 cI cB aR (aT 0) (aS 0) oR_8 ++ kX6 cI cB aT oT ++ kX4 cI cB aS oS_9)) C.1 hK hA hP hD hS [0, 1, 2, 5, 6, 7, 8, 9, 10, 11, 12, 13, 14] [3, 4] [2, 3, 4, 0, 1, 5, 6, 7, 8, 9, 10, 11, 12, 13, 14] 0 (mtX5_meetOp l dC dI cI cB aR aT aS H.size oR_4 oS (4 : Int32) hg) (zCwV 1 C.1 wlX5_129 wiX5_meetOp ws_X5_meetOp wnX5 wkX5_meetOp rfl rfl (by decide +kernel) ⟨Nat.le_of_ble_eq_true rfl, Nat.le_of_ble_eq_true rfl⟩) rfl rfl (by decide +kernel) rfl rfl rfl rfl hl.1 (Nat.le_of_ble_eq_true rfl) dX5_meetLine_54 ⟨Nat.zero_le _, Nat.zero_le _⟩ rfl (fun H locs hP hD hS => ?_)
          cases hf
          rw [← hQ]
          exact zRi C hK hP hD hS dX5_meetLine_57
      · replace hf := zIf_f hf hc
        refine lv_iconst (v := 5) C.1.1 C.1.2.1 dX5_meetLine_35 (by decide) ?_
        cases hf
        rw [← hQ]
        exact zRi C hK hP hD hS dX5_meetLine_36
    · replace hf := zIf_f hf hc
      refine lv_iload_n C.1.1 C.1.2.1 dX5_meetLine_23 rfl (lv_at hl 0 rfl) ?_
      cases hf
      rw [← hQ]
      exact zRi C hK hP hD hS dX5_meetLine_24
  refine lv_if_eq (tgt := 14) C.1.1 C.1.2.1 dX5_meetLine_7 (by decide) (fun hc => ?_) (fun hc => ?_)
  · replace hf := zIf_t hf hc
    refine lv_aload_n C.1.1 C.1.2.1 dX5_meetLine_14 rfl (lv_at hl 0 rfl) ?_
    obtain ⟨v10, hg, hf⟩ := zB1_el hf
    refine zCVi (As := []) (rest := []) (wr := (kX4 cI cB aS oS)) (wn := (kX5 cI cB aR (aT 0) (aS 0) oR ++ kX6 cI cB aT oT ++ kX4 cI cB aS oS)) C.1 hK hA hP hD hS [0, 1, 2, 3, 4] [5, 6, 7, 8, 9, 10, 11, 12, 13, 14] [10, 11, 12, 13, 14, 0, 1, 2, 3, 4, 5, 6, 7, 8, 9] 0 (mtX5_faultOfName l dC dI cI cB aR aT aS H.size oR oT hg) (zCwV 0 C.1 wlX5_122 wiX5_faultOfName ws_X5_faultOfName wnX5 wkX5_faultOfName rfl rfl (by decide +kernel) ⟨Nat.le_of_ble_eq_true rfl, Nat.le_of_ble_eq_true rfl⟩) rfl rfl (by decide +kernel) rfl rfl rfl rfl hl.1 (Nat.le_of_ble_eq_true rfl) dX5_meetLine_15 ⟨Nat.zero_le _, Nat.zero_le _⟩ rfl (fun H locs hP hD hS => ?_)
    exact hJ18_2 v10 hf H locs hP hD hS ls (lv_sub hl [0] rfl)
  · replace hf := zIf_f hf hc
    refine lv_iconst (v := 0) C.1.1 C.1.2.1 dX5_meetLine_10 (by decide) ?_
    refine lv_goto (tgt := 18) C.1.1 C.1.2.1 dX5_meetLine_11 (by decide) ?_
    exact hJ18_2 (0 : Int32) hf H locs hP hD hS ls (lv_sub hl [0] rfl)
def fX5_meetIfName (oR : Rc) (oT : Rc) : Option (Int32 × Rc) :=
  zLet (rs oR 5 (fun _ => (oT 8 0))) fun oR_1 =>
  zLet (rs oR_1 4 (fun _ => (5 : Int32))) fun oR_2 =>
  zB1 (fX5_faultOfName oT) fun v3 =>
  some (v3, oR_2)
abbrev rX5_meetIfName : Room := { frames := 1, cells := 0, slots := 0, locals := 20 }
set_option maxHeartbeats 4000000 in
set_option maxRecDepth 100000 in
theorem mtX5_meetIfName (l : Launch) (dC : Nat → ClassId) (dI : Nat → Nat → Nat) (cI cB : ClassId) (aR aT aS : Nat → Nat) (sz : Nat) (oR : Rc) (oT : Rc) {ov : Int32} {oR' : Rc} (hf : fX5_meetIfName oR oT = some (ov, oR')) : zMi l yX5_meetIfName (Cond.code yX5_meetIfName cX5_meetIfName 1 (some .int) :: lw_g) rX5_meetIfName (dC, dI) [(cI, .int), (cB, .byte)] [.ref (aR 0)] sz (kX5 cI cB aR (aT 0) (aS 0) oR ++ kX6 cI cB aT oT) ov (kX5 cI cB aR (aT 0) (aS 0) oR' ++ kX6 cI cB aT oT) := by
  refine zSt (cc := cX5_meetIfName) (maxL := 1) (ret := (some .int)) (own := RX5) (fun A => zQi (dC, dI) [(cI, .int), (cB, .byte)] A ov (kX5 cI cB aR (aT 0) (aS 0) oR' ++ kX6 cI cB aT oT)) (by decide) rfl rfl (Nat.le_of_ble_eq_true rfl) ?_
  intro p e s m below meth c ls A H locs C hK hA hP hD hS hl
  generalize hQ : MQ below (zQi (dC, dI) [(cI, .int), (cB, .byte)] A ov (kX5 cI cB aR (aT 0) (aS 0) oR' ++ kX6 cI cB aT oT)) _ s 0 0 A = QQ
  generalize ([.ref (aR 0)] : List Value).toArray = args at C hQ ⊢
  have hl : lv_has ls 1 [(0, .ref (aR 0))] := hl
  unfold fX5_meetIfName at hf
  refine lv_aload_n C.1.1 C.1.2.1 dX5_meetIfName_0 rfl (lv_at hl 0 rfl) ?_
  refine lv_aload_n C.1.1 C.1.2.1 dX5_meetIfName_1 rfl (lv_at hl 0 rfl) ?_
  refine zGet (.ref (aT 0)) C.1 wuX5 hK hP 0 rfl rfl 0 (by decide) wfX5_12 rfl rfl dX5_meetIfName_2 ?_
  refine zGet (.int (oT 8 0)) C.1 wuX6 hK hP 3 rfl rfl 8 (by decide) wfX5_133 rfl rfl dX5_meetIfName_5 ?_
  obtain ⟨oR_1, eoR_1, hf⟩ := zLet_el hf
  refine zPut (ty := .int) (kX5 cI cB aR (aT 0) (aS 0) oR_1 ++ kX6 cI cB aT oT) C.1 wuX5 tyX5 tyX5_ok nmX5 hK hP hD hS 0 rfl rfl 5 (by decide) wfX5_35 rfl rfl (by decide +kernel) rfl rfl (Nat.le_of_ble_eq_true rfl) dX5_meetIfName_8 (by rw [eoR_1]; rfl) (fun H locs hP hD hS => ?_)
  refine lv_aload_n C.1.1 C.1.2.1 dX5_meetIfName_11 rfl (lv_at hl 0 rfl) ?_
  refine lv_iconst (v := 5) C.1.1 C.1.2.1 dX5_meetIfName_12 (by decide) ?_
  obtain ⟨oR_2, eoR_2, hf⟩ := zLet_el hf
  refine zPut (ty := .int) (kX5 cI cB aR (aT 0) (aS 0) oR_2 ++ kX6 cI cB aT oT) C.1 wuX5 tyX5 tyX5_ok nmX5 hK hP hD hS 0 rfl rfl 4 (by decide) wfX5_32 rfl rfl (by decide +kernel) rfl rfl (Nat.le_of_ble_eq_true rfl) dX5_meetIfName_13 (by rw [eoR_2]; rfl) (fun H locs hP hD hS => ?_)
  refine lv_aload_n C.1.1 C.1.2.1 dX5_meetIfName_16 rfl (lv_at hl 0 rfl) ?_
  obtain ⟨v3, hg, hf⟩ := zB1_el hf
  refine zCVi (As := []) (rest := []) (wr := ([] : va_W)) (wn := (kX5 cI cB aR (aT 0) (aS 0) oR_2 ++ kX6 cI cB aT oT)) C.1 hK hA hP hD hS [0, 1, 2, 3, 4] [] [0, 1, 2, 3, 4] 0 (mtX5_faultOfName l dC dI cI cB aR aT aS H.size oR_2 oT hg) (zCwV 0 C.1 wlX5_122 wiX5_faultOfName ws_X5_faultOfName wnX5 wkX5_faultOfName rfl rfl (by decide +kernel) ⟨Nat.le_of_ble_eq_true rfl, Nat.le_of_ble_eq_true rfl⟩) rfl rfl (by decide +kernel) rfl rfl rfl rfl hl.1 (Nat.le_of_ble_eq_true rfl) dX5_meetIfName_17 ⟨Nat.zero_le _, Nat.zero_le _⟩ rfl (fun H locs hP hD hS => ?_)
  cases hf
  rw [← hQ]
  exact zRi C hK hP hD hS dX5_meetIfName_20
def fX5_beginSum (oR : Rc) : Option (Rc) :=
  zGd (inb (oR 7 0) 9) <|
  zLet (rs oR 8 (upd (oR 8) (oR 7 0).toNatClampNeg (0 : Int32))) fun oR_1 =>
  zGd (inb (oR_1 7 0) 9) <|
  zLet (rs oR_1 9 (upd (oR_1 9) (oR_1 7 0).toNatClampNeg (0 : Int32))) fun oR_2 =>
  some oR_2
abbrev rX5_beginSum : Room := { frames := 0, cells := 0, slots := 0, locals := 0 }
set_option maxHeartbeats 4000000 in
set_option maxRecDepth 100000 in
theorem mtX5_beginSum (l : Launch) (dC : Nat → ClassId) (dI : Nat → Nat → Nat) (cI cB : ClassId) (aR aT aS : Nat → Nat) (sz : Nat) (oR : Rc) {oR' : Rc} (hf : fX5_beginSum oR = some oR') : zMv l yX5_beginSum (Cond.code yX5_beginSum cX5_beginSum 1 none :: lw_g) rX5_beginSum (dC, dI) [(cI, .int), (cB, .byte)] [.ref (aR 0)] sz (kX5 cI cB aR (aT 0) (aS 0) oR) (kX5 cI cB aR (aT 0) (aS 0) oR') := by
  refine zSt (cc := cX5_beginSum) (maxL := 1) (ret := none) (own := RX5) (fun A => zQv (dC, dI) [(cI, .int), (cB, .byte)] A (kX5 cI cB aR (aT 0) (aS 0) oR')) (by decide) rfl rfl (Nat.le_of_ble_eq_true rfl) ?_
  intro p e s m below meth c ls A H locs C hK hA hP hD hS hl
  generalize hQ : MQ below (zQv (dC, dI) [(cI, .int), (cB, .byte)] A (kX5 cI cB aR (aT 0) (aS 0) oR')) _ s 0 0 A = QQ
  generalize ([.ref (aR 0)] : List Value).toArray = args at C hQ ⊢
  have hl : lv_has ls 1 [(0, .ref (aR 0))] := hl
  unfold fX5_beginSum at hf
  refine lv_aload_n C.1.1 C.1.2.1 dX5_beginSum_0 rfl (lv_at hl 0 rfl) ?_
  refine zGet (.ref (aR 1)) C.1 wuX5 hK hP 0 rfl rfl 8 (by decide) wfX5_44 rfl rfl dX5_beginSum_1 ?_
  refine lv_aload_n C.1.1 C.1.2.1 dX5_beginSum_4 rfl (lv_at hl 0 rfl) ?_
  refine zGet (.int (oR 7 0)) C.1 wuX5 hK hP 0 rfl rfl 7 (by decide) wfX5_41 rfl rfl dX5_beginSum_5 ?_
  refine lv_iconst (v := 0) C.1.1 C.1.2.1 dX5_beginSum_8 (by decide) ?_
  obtain ⟨hib, hf⟩ := zGd_el hf
  obtain ⟨oR_1, eoR_1, hf⟩ := zLet_el hf
  refine zIast (kX5 cI cB aR (aT 0) (aS 0) oR_1) C.1 hK hP hD hS 1 0 rfl rfl hib dX5_beginSum_9 (by rw [eoR_1]; rfl) (fun H locs hP hD hS => ?_)
  refine lv_aload_n C.1.1 C.1.2.1 dX5_beginSum_10 rfl (lv_at hl 0 rfl) ?_
  refine zGet (.ref (aR 2)) C.1 wuX5 hK hP 0 rfl rfl 9 (by decide) wfX5_48 rfl rfl dX5_beginSum_11 ?_
  refine lv_aload_n C.1.1 C.1.2.1 dX5_beginSum_14 rfl (lv_at hl 0 rfl) ?_
  refine zGet (.int (oR_1 7 0)) C.1 wuX5 hK hP 0 rfl rfl 7 (by decide) wfX5_41 rfl rfl dX5_beginSum_15 ?_
  refine lv_iconst (v := 0) C.1.1 C.1.2.1 dX5_beginSum_18 (by decide) ?_
  obtain ⟨hib, hf⟩ := zGd_el hf
  obtain ⟨oR_2, eoR_2, hf⟩ := zLet_el hf
  refine zIast (kX5 cI cB aR (aT 0) (aS 0) oR_2) C.1 hK hP hD hS 2 0 rfl rfl hib dX5_beginSum_19 (by rw [eoR_2]; rfl) (fun H locs hP hD hS => ?_)
  cases hf
  rw [← hQ]
  exact zRv C hK hP hD hS dX5_beginSum_20
def fX5_meetEquals (oR : Rc) (oT : Rc) : Option (Int32 × Rc) :=
  zLet (rs oR 7 (fun _ => (0 : Int32))) fun oR_1 =>
  zB1 (fX5_beginSum oR_1) fun oR_2 =>
  zB2 (fX5_meetSingle oR_2 oT (61 : Int32) (7 : Int32)) fun v3 oR_4 =>
  some (v3, oR_4)
abbrev rX5_meetEquals : Room := { frames := 1, cells := 0, slots := 0, locals := 22 }
set_option maxHeartbeats 4000000 in
set_option maxRecDepth 100000 in
theorem mtX5_meetEquals (l : Launch) (dC : Nat → ClassId) (dI : Nat → Nat → Nat) (cI cB : ClassId) (aR aT aS : Nat → Nat) (sz : Nat) (oR : Rc) (oT : Rc) {ov : Int32} {oR' : Rc} (hf : fX5_meetEquals oR oT = some (ov, oR')) : zMi l yX5_meetEquals (Cond.code yX5_meetEquals cX5_meetEquals 1 (some .int) :: lw_g) rX5_meetEquals (dC, dI) [(cI, .int), (cB, .byte)] [.ref (aR 0)] sz (kX5 cI cB aR (aT 0) (aS 0) oR ++ kX6 cI cB aT oT) ov (kX5 cI cB aR (aT 0) (aS 0) oR' ++ kX6 cI cB aT oT) := by
  refine zSt (cc := cX5_meetEquals) (maxL := 1) (ret := (some .int)) (own := RX5) (fun A => zQi (dC, dI) [(cI, .int), (cB, .byte)] A ov (kX5 cI cB aR (aT 0) (aS 0) oR' ++ kX6 cI cB aT oT)) (by decide) rfl rfl (Nat.le_of_ble_eq_true rfl) ?_
  intro p e s m below meth c ls A H locs C hK hA hP hD hS hl
  generalize hQ : MQ below (zQi (dC, dI) [(cI, .int), (cB, .byte)] A ov (kX5 cI cB aR (aT 0) (aS 0) oR' ++ kX6 cI cB aT oT)) _ s 0 0 A = QQ
  generalize ([.ref (aR 0)] : List Value).toArray = args at C hQ ⊢
  have hl : lv_has ls 1 [(0, .ref (aR 0))] := hl
  unfold fX5_meetEquals at hf
  refine lv_aload_n C.1.1 C.1.2.1 dX5_meetEquals_0 rfl (lv_at hl 0 rfl) ?_
  refine lv_iconst (v := 0) C.1.1 C.1.2.1 dX5_meetEquals_1 (by decide) ?_
  obtain ⟨oR_1, eoR_1, hf⟩ := zLet_el hf
  refine zPut (ty := .int) (kX5 cI cB aR (aT 0) (aS 0) oR_1 ++ kX6 cI cB aT oT) C.1 wuX5 tyX5 tyX5_ok nmX5 hK hP hD hS 0 rfl rfl 7 (by decide) wfX5_41 rfl rfl (by decide +kernel) rfl rfl (Nat.le_of_ble_eq_true rfl) dX5_meetEquals_2 (by rw [eoR_1]; rfl) (fun H locs hP hD hS => ?_)
  refine lv_aload_n C.1.1 C.1.2.1 dX5_meetEquals_5 rfl (lv_at hl 0 rfl) ?_
  obtain ⟨oR_2, hg, hf⟩ := zB1_el hf
  refine zCVv (As := []) (rest := []) (wr := (kX6 cI cB aT oT)) (wn := (kX5 cI cB aR (aT 0) (aS 0) oR_2 ++ kX6 cI cB aT oT)) C.1 hK hA hP hD hS [0, 1, 2] [3, 4] [2, 3, 4, 0, 1] 0 (mtX5_beginSum l dC dI cI cB aR aT aS H.size oR_1 hg) (zCwV 0 C.1 wlX5_139 wiX5_beginSum ws_X5_beginSum wnX5 wkX5_beginSum rfl rfl (by decide +kernel) ⟨Nat.le_of_ble_eq_true rfl, Nat.le_of_ble_eq_true rfl⟩) rfl rfl (by decide +kernel) rfl rfl rfl rfl hl.1 (Nat.le_of_ble_eq_true rfl) dX5_meetEquals_6 ⟨Nat.zero_le _, Nat.zero_le _⟩ rfl (fun H locs hP hD hS => ?_)
  refine lv_aload_n C.1.1 C.1.2.1 dX5_meetEquals_9 rfl (lv_at hl 0 rfl) ?_
  refine lv_bipush (v := 61) C.1.1 C.1.2.1 dX5_meetEquals_10 (by decide) ?_
  refine lv_bipush (v := 7) C.1.1 C.1.2.1 dX5_meetEquals_12 (by decide) ?_
  obtain ⟨v3, oR_4, hg, hf⟩ := zB2_el hf
  refine zCVi (As := [.int (61 : Int32), .int (7 : Int32)]) (rest := []) (wr := ([] : va_W)) (wn := (kX5 cI cB aR (aT 0) (aS 0) oR_4 ++ kX6 cI cB aT oT)) C.1 hK hA hP hD hS [0, 1, 2, 3, 4] [] [0, 1, 2, 3, 4] 0 (mtX5_meetSingle l dC dI cI cB aR aT aS H.size oR_2 oT (61 : Int32) (7 : Int32) hg) (zCwV 2 C.1 wlX5_82 wiX5_meetSingle ws_X5_meetSingle wnX5 wkX5_meetSingle rfl rfl (by decide +kernel) ⟨Nat.le_of_ble_eq_true rfl, Nat.le_of_ble_eq_true rfl⟩) rfl rfl (by decide +kernel) rfl rfl rfl rfl hl.1 (Nat.le_of_ble_eq_true rfl) dX5_meetEquals_14 ⟨Nat.zero_le _, Nat.zero_le _⟩ rfl (fun H locs hP hD hS => ?_)
  cases hf
  rw [← hQ]
  exact zRi C hK hP hD hS dX5_meetEquals_17
def fX5_meetTurn (oR : Rc) (oS : Rc) : Option (Int32 × Rc × Rc) :=
  zGd (inb (oR 7 0) 9) <|
  zGd (inb (oR 7 0) 9) <|
  zLet (rs oR 9 (upd (oR 9) (oR 7 0).toNatClampNeg ((oR 9 (oR 7 0).toNatClampNeg) + (1 : Int32)))) fun oR_1 =>
  zB3 (fX5_meetOp oR_1 oS (7 : Int32)) fun v2 oR_3 oS_4 =>
  some (v2, oR_3, oS_4)
abbrev rX5_meetTurn : Room := { frames := 1, cells := 0, slots := 0, locals := 21 }
set_option maxHeartbeats 4000000 in
set_option maxRecDepth 100000 in
theorem mtX5_meetTurn (l : Launch) (dC : Nat → ClassId) (dI : Nat → Nat → Nat) (cI cB : ClassId) (aR aT aS : Nat → Nat) (sz : Nat) (oR : Rc) (oS : Rc) {ov : Int32} {oR' : Rc} {oS' : Rc} (hf : fX5_meetTurn oR oS = some (ov, oR', oS')) : zMi l yX5_meetTurn (Cond.code yX5_meetTurn cX5_meetTurn 1 (some .int) :: lw_g) rX5_meetTurn (dC, dI) [(cI, .int), (cB, .byte)] [.ref (aR 0)] sz (kX5 cI cB aR (aT 0) (aS 0) oR ++ kX4 cI cB aS oS) ov (kX5 cI cB aR (aT 0) (aS 0) oR' ++ kX4 cI cB aS oS') := by
  refine zSt (cc := cX5_meetTurn) (maxL := 1) (ret := (some .int)) (own := RX5) (fun A => zQi (dC, dI) [(cI, .int), (cB, .byte)] A ov (kX5 cI cB aR (aT 0) (aS 0) oR' ++ kX4 cI cB aS oS')) (by decide) rfl rfl (Nat.le_of_ble_eq_true rfl) ?_
  intro p e s m below meth c ls A H locs C hK hA hP hD hS hl
  generalize hQ : MQ below (zQi (dC, dI) [(cI, .int), (cB, .byte)] A ov (kX5 cI cB aR (aT 0) (aS 0) oR' ++ kX4 cI cB aS oS')) _ s 0 0 A = QQ
  generalize ([.ref (aR 0)] : List Value).toArray = args at C hQ ⊢
  have hl : lv_has ls 1 [(0, .ref (aR 0))] := hl
  unfold fX5_meetTurn at hf
  refine lv_aload_n C.1.1 C.1.2.1 dX5_meetTurn_0 rfl (lv_at hl 0 rfl) ?_
  refine zGet (.ref (aR 2)) C.1 wuX5 hK hP 0 rfl rfl 9 (by decide) wfX5_48 rfl rfl dX5_meetTurn_1 ?_
  refine lv_aload_n C.1.1 C.1.2.1 dX5_meetTurn_4 rfl (lv_at hl 0 rfl) ?_
  refine zGet (.int (oR 7 0)) C.1 wuX5 hK hP 0 rfl rfl 7 (by decide) wfX5_41 rfl rfl dX5_meetTurn_5 ?_
  refine lv_dup2_11 C.1.1 C.1.2.1 dX5_meetTurn_8 rfl rfl ?_
  obtain ⟨hib, hf⟩ := zGd_el hf
  refine va_iald C.1.1 C.1.2.1 hK.1 hP 2 0 rfl rfl hib dX5_meetTurn_9 ?_
  refine lv_iconst (v := 1) C.1.1 C.1.2.1 dX5_meetTurn_10 (by decide) ?_
  refine lv_iadd C.1.1 C.1.2.1 dX5_meetTurn_11 ?_
  obtain ⟨hib, hf⟩ := zGd_el hf
  obtain ⟨oR_1, eoR_1, hf⟩ := zLet_el hf
  refine zIast (kX5 cI cB aR (aT 0) (aS 0) oR_1 ++ kX4 cI cB aS oS) C.1 hK hP hD hS 2 0 rfl rfl hib dX5_meetTurn_12 (by rw [eoR_1]; rfl) (fun H locs hP hD hS => ?_)
  refine lv_aload_n C.1.1 C.1.2.1 dX5_meetTurn_13 rfl (lv_at hl 0 rfl) ?_
  refine lv_bipush (v := 7) C.1.1 C.1.2.1 dX5_meetTurn_14 (by decide) ?_
  obtain ⟨v2, oR_3, oS_4, hg, hf⟩ := zB3_el hf
  refine zCVi (As := [.int (7 : Int32)]) (rest := []) (wr := ([] : va_W)) (wn := (kX5 cI cB aR (aT 0) (aS 0) oR_3 ++ kX4 cI cB aS oS_4)) C.1 hK hA hP hD hS [0, 1, 2, 3, 4, 5, 6, 7, 8, 9, 10, 11, 12] [] [0, 1, 2, 3, 4, 5, 6, 7, 8, 9, 10, 11, 12] 0 (mtX5_meetOp l dC dI cI cB aR aT aS H.size oR_1 oS (7 : Int32) hg) (zCwV 1 C.1 wlX5_129 wiX5_meetOp ws_X5_meetOp wnX5 wkX5_meetOp rfl rfl (by decide +kernel) ⟨Nat.le_of_ble_eq_true rfl, Nat.le_of_ble_eq_true rfl⟩) rfl rfl (by decide +kernel) rfl rfl rfl rfl hl.1 (Nat.le_of_ble_eq_true rfl) dX5_meetTurn_16 ⟨Nat.zero_le _, Nat.zero_le _⟩ rfl (fun H locs hP hD hS => ?_)
  cases hf
  rw [← hQ]
  exact zRi C hK hP hD hS dX5_meetTurn_19
def fX5_meetOpening (oR : Rc) : Option (Int32 × Rc) :=
  if (oR 7 0) < (8 : Int32) then (
    zLet (rs oR 7 (fun _ => ((oR 7 0) + (1 : Int32)))) fun oR_1 =>
    zB1 (fX5_beginSum oR_1) fun oR_2 =>
    some ((0 : Int32), oR_2)
  ) else (
    some ((5 : Int32), oR)
  )
abbrev rX5_meetOpening : Room := { frames := 1, cells := 0, slots := 0, locals := 20 }
set_option maxHeartbeats 4000000 in
set_option maxRecDepth 100000 in
theorem mtX5_meetOpening (l : Launch) (dC : Nat → ClassId) (dI : Nat → Nat → Nat) (cI cB : ClassId) (aR aT aS : Nat → Nat) (sz : Nat) (oR : Rc) {ov : Int32} {oR' : Rc} (hf : fX5_meetOpening oR = some (ov, oR')) : zMi l yX5_meetOpening (Cond.code yX5_meetOpening cX5_meetOpening 1 (some .int) :: lw_g) rX5_meetOpening (dC, dI) [(cI, .int), (cB, .byte)] [.ref (aR 0)] sz (kX5 cI cB aR (aT 0) (aS 0) oR) ov (kX5 cI cB aR (aT 0) (aS 0) oR') := by
  refine zSt (cc := cX5_meetOpening) (maxL := 1) (ret := (some .int)) (own := RX5) (fun A => zQi (dC, dI) [(cI, .int), (cB, .byte)] A ov (kX5 cI cB aR (aT 0) (aS 0) oR')) (by decide) rfl rfl (Nat.le_of_ble_eq_true rfl) ?_
  intro p e s m below meth c ls A H locs C hK hA hP hD hS hl
  generalize hQ : MQ below (zQi (dC, dI) [(cI, .int), (cB, .byte)] A ov (kX5 cI cB aR (aT 0) (aS 0) oR')) _ s 0 0 A = QQ
  generalize ([.ref (aR 0)] : List Value).toArray = args at C hQ ⊢
  have hl : lv_has ls 1 [(0, .ref (aR 0))] := hl
  unfold fX5_meetOpening at hf
  refine lv_aload_n C.1.1 C.1.2.1 dX5_meetOpening_0 rfl (lv_at hl 0 rfl) ?_
  refine zGet (.int (oR 7 0)) C.1 wuX5 hK hP 0 rfl rfl 7 (by decide) wfX5_41 rfl rfl dX5_meetOpening_1 ?_
  refine lv_bipush (v := 8) C.1.1 C.1.2.1 dX5_meetOpening_4 (by decide) ?_
  refine lv_icmp_lt (tgt := 11) C.1.1 C.1.2.1 dX5_meetOpening_6 (by decide) (fun hc => ?_) (fun hc => ?_)
  · replace hf := zIf_t hf hc
    refine lv_aload_n C.1.1 C.1.2.1 dX5_meetOpening_11 rfl (lv_at hl 0 rfl) ?_
    refine lv_dup C.1.1 C.1.2.1 dX5_meetOpening_12 rfl ?_
    refine zGet (.int (oR 7 0)) C.1 wuX5 hK hP 0 rfl rfl 7 (by decide) wfX5_41 rfl rfl dX5_meetOpening_13 ?_
    refine lv_iconst (v := 1) C.1.1 C.1.2.1 dX5_meetOpening_16 (by decide) ?_
    refine lv_iadd C.1.1 C.1.2.1 dX5_meetOpening_17 ?_
    obtain ⟨oR_1, eoR_1, hf⟩ := zLet_el hf
    refine zPut (ty := .int) (kX5 cI cB aR (aT 0) (aS 0) oR_1) C.1 wuX5 tyX5 tyX5_ok nmX5 hK hP hD hS 0 rfl rfl 7 (by decide) wfX5_41 rfl rfl (by decide +kernel) rfl rfl (Nat.le_of_ble_eq_true rfl) dX5_meetOpening_18 (by rw [eoR_1]; rfl) (fun H locs hP hD hS => ?_)
    refine lv_aload_n C.1.1 C.1.2.1 dX5_meetOpening_21 rfl (lv_at hl 0 rfl) ?_
    obtain ⟨oR_2, hg, hf⟩ := zB1_el hf
    refine zCVv (As := []) (rest := []) (wr := ([] : va_W)) (wn := (kX5 cI cB aR (aT 0) (aS 0) oR_2)) C.1 hK hA hP hD hS [0, 1, 2] [] [0, 1, 2] 0 (mtX5_beginSum l dC dI cI cB aR aT aS H.size oR_1 hg) (zCwV 0 C.1 wlX5_139 wiX5_beginSum ws_X5_beginSum wnX5 wkX5_beginSum rfl rfl (by decide +kernel) ⟨Nat.le_of_ble_eq_true rfl, Nat.le_of_ble_eq_true rfl⟩) rfl rfl (by decide +kernel) rfl rfl rfl rfl hl.1 (Nat.le_of_ble_eq_true rfl) dX5_meetOpening_22 ⟨Nat.zero_le _, Nat.zero_le _⟩ rfl (fun H locs hP hD hS => ?_)
    refine lv_iconst (v := 0) C.1.1 C.1.2.1 dX5_meetOpening_25 (by decide) ?_
    cases hf
    rw [← hQ]
    exact zRi C hK hP hD hS dX5_meetOpening_26
  · replace hf := zIf_f hf hc
    refine lv_iconst (v := 5) C.1.1 C.1.2.1 dX5_meetOpening_9 (by decide) ?_
    cases hf
    rw [← hQ]
    exact zRi C hK hP hD hS dX5_meetOpening_10
def fX5_endPart_L2 (oR : Rc) (J31_2 : Rc → Option (Rc × Rc)) (n : Nat) (x8 : Int32) (oS_9 : Rc) : Option (Rc × Rc) := zLp2 (fun (go10 : Int32 → Rc → Option (Rc × Rc)) (x8 : Int32) (oS_9 : Rc) =>
    zGd (inb (oR 7 0) 9) <|
    if (oR 9 (oR 7 0).toNatClampNeg) ≤ x8 then (
      J31_2 oS_9
    ) else (
      zB1 (fX4_addStep oS_9 (126 : Int32) (0 : Int32)) fun oS_11 =>
      zLet (x8 + 1) fun x12 =>
      go10 x12 oS_11
    )
  ) n x8 oS_9
def fX5_endPart (NN : Nat) (oR : Rc) (oS : Rc) : Option (Rc × Rc) :=
  zJn (fun (oS_1 : Rc) =>
      zGd (inb (oR 7 0) 9) <|
      zLet (rs oR 9 (upd (oR 9) (oR 7 0).toNatClampNeg (0 : Int32))) fun oR_3 =>
      zGd (inb (oR_3 7 0) 9) <|
      zJn (fun (oS_4 : Rc) =>
          zLet (rs oR_3 4 (fun _ => (8 : Int32))) fun oR_6 =>
          some (oR_6, oS_4)
        ) fun J70_5 =>
      if (oR_3 8 (oR_3 7 0).toNatClampNeg) = 0 then (
        J70_5 oS_1
      ) else (
        zGd (inb (oR_3 7 0) 9) <|
        zB1 (fX4_addStep oS_1 (oR_3 8 (oR_3 7 0).toNatClampNeg) (0 : Int32)) fun oS_7 =>
        J70_5 oS_7
      )
    ) fun J31_2 =>
  fX5_endPart_L2 oR J31_2 NN (0 : Int32) oS
abbrev rX5_endPart : Room := { frames := 1, cells := 0, slots := 0, locals := 22 }
set_option maxHeartbeats 4000000 in
set_option maxRecDepth 100000 in
theorem mtX5_endPart (l : Launch) (dC : Nat → ClassId) (dI : Nat → Nat → Nat) (cI cB : ClassId) (aR aT aS : Nat → Nat) (sz : Nat) (NN : Nat) (oR : Rc) (oS : Rc) {oR' : Rc} {oS' : Rc} (hf : fX5_endPart NN oR oS = some (oR', oS')) : zMv l yX5_endPart (Cond.code yX5_endPart cX5_endPart 2 none :: lw_g) rX5_endPart (dC, dI) [(cI, .int), (cB, .byte)] [.ref (aR 0)] sz (kX5 cI cB aR (aT 0) (aS 0) oR ++ kX4 cI cB aS oS) (kX5 cI cB aR (aT 0) (aS 0) oR' ++ kX4 cI cB aS oS') := by
  refine zSt (cc := cX5_endPart) (maxL := 2) (ret := none) (own := RX5) (fun A => zQv (dC, dI) [(cI, .int), (cB, .byte)] A (kX5 cI cB aR (aT 0) (aS 0) oR' ++ kX4 cI cB aS oS')) (by decide) rfl rfl (Nat.le_of_ble_eq_true rfl) ?_
  intro p e s m below meth c ls A H locs C hK hA hP hD hS hl
  generalize hQ : MQ below (zQv (dC, dI) [(cI, .int), (cB, .byte)] A (kX5 cI cB aR (aT 0) (aS 0) oR' ++ kX4 cI cB aS oS')) _ s 0 0 A = QQ
  generalize ([.ref (aR 0)] : List Value).toArray = args at C hQ ⊢
  have hl : lv_has ls 2 [(0, .ref (aR 0))] := hl
  unfold fX5_endPart at hf
  refine lv_iconst (v := 0) C.1.1 C.1.2.1 dX5_endPart_0 (by decide) ?_
  refine lv_istore_n (lv' := [(1, .int (0 : Int32)), (0, .ref (aR 0))]) C.1.1 C.1.2.1 dX5_endPart_1 rfl hl (by decide) rfl (fun ls hl => ?_)
  obtain ⟨J31_2, eJ31_2, hf⟩ := zJn_el hf
  have hJ31_2 : ∀ (oS_1 : Rc), J31_2 oS_1 = some (oR', oS') → ∀ (H : Heap) (locs : List Loc), va_P (dC, dI) vwCl (kX5 cI cB aR (aT 0) (aS 0) oR ++ kX4 cI cB aS oS_1) H → va_D A (kX5 cI cB aR (aT 0) (aS 0) oR ++ kX4 cI cB aS oS_1) → va_S A s.heap H locs → ∀ (ls : Array Slot), lv_has ls 2 [(0, .ref (aR 0))] → W p l e rX5_endPart s m args below meth c H locs 0 0 QQ (F0 m 31 ls []) := by
    intro oS_1 hf H locs hP hD hS ls hl
    rw [eJ31_2] at hf
    refine lv_aload_n C.1.1 C.1.2.1 dX5_endPart_31 rfl (lv_at hl 0 rfl) ?_
    refine zGet (.ref (aR 2)) C.1 wuX5 hK hP 0 rfl rfl 9 (by decide) wfX5_48 rfl rfl dX5_endPart_32 ?_
    refine lv_aload_n C.1.1 C.1.2.1 dX5_endPart_35 rfl (lv_at hl 0 rfl) ?_
    refine zGet (.int (oR 7 0)) C.1 wuX5 hK hP 0 rfl rfl 7 (by decide) wfX5_41 rfl rfl dX5_endPart_36 ?_
    refine lv_iconst (v := 0) C.1.1 C.1.2.1 dX5_endPart_39 (by decide) ?_
    obtain ⟨hib, hf⟩ := zGd_el hf
    obtain ⟨oR_3, eoR_3, hf⟩ := zLet_el hf
    refine zIast (kX5 cI cB aR (aT 0) (aS 0) oR_3 ++ kX4 cI cB aS oS_1) C.1 hK hP hD hS 2 0 rfl rfl hib dX5_endPart_40 (by rw [eoR_3]; rfl) (fun H locs hP hD hS => ?_)
    refine lv_aload_n C.1.1 C.1.2.1 dX5_endPart_41 rfl (lv_at hl 0 rfl) ?_
    refine zGet (.ref (aR 1)) C.1 wuX5 hK hP 0 rfl rfl 8 (by decide) wfX5_44 rfl rfl dX5_endPart_42 ?_
    refine lv_aload_n C.1.1 C.1.2.1 dX5_endPart_45 rfl (lv_at hl 0 rfl) ?_
    refine zGet (.int (oR_3 7 0)) C.1 wuX5 hK hP 0 rfl rfl 7 (by decide) wfX5_41 rfl rfl dX5_endPart_46 ?_
    obtain ⟨hib, hf⟩ := zGd_el hf
    refine va_iald C.1.1 C.1.2.1 hK.1 hP 1 0 rfl rfl hib dX5_endPart_49 ?_
    obtain ⟨J70_5, eJ70_5, hf⟩ := zJn_el hf
    have hJ70_5 : ∀ (oS_4 : Rc), J70_5 oS_4 = some (oR', oS') → ∀ (H : Heap) (locs : List Loc), va_P (dC, dI) vwCl (kX5 cI cB aR (aT 0) (aS 0) oR_3 ++ kX4 cI cB aS oS_4) H → va_D A (kX5 cI cB aR (aT 0) (aS 0) oR_3 ++ kX4 cI cB aS oS_4) → va_S A s.heap H locs → ∀ (ls : Array Slot), lv_has ls 2 [(0, .ref (aR 0))] → W p l e rX5_endPart s m args below meth c H locs 0 0 QQ (F0 m 70 ls []) := by
      intro oS_4 hf H locs hP hD hS ls hl
      rw [eJ70_5] at hf
      refine lv_aload_n C.1.1 C.1.2.1 dX5_endPart_70 rfl (lv_at hl 0 rfl) ?_
      refine lv_bipush (v := 8) C.1.1 C.1.2.1 dX5_endPart_71 (by decide) ?_
      obtain ⟨oR_6, eoR_6, hf⟩ := zLet_el hf
      refine zPut (ty := .int) (kX5 cI cB aR (aT 0) (aS 0) oR_6 ++ kX4 cI cB aS oS_4) C.1 wuX5 tyX5 tyX5_ok nmX5 hK hP hD hS 0 rfl rfl 4 (by decide) wfX5_32 rfl rfl (by decide +kernel) rfl rfl (Nat.le_of_ble_eq_true rfl) dX5_endPart_73 (by rw [eoR_6]; rfl) (fun H locs hP hD hS => ?_)
      cases hf
      rw [← hQ]
      exact zRv C hK hP hD hS dX5_endPart_76
    refine lv_if_eq (tgt := 70) C.1.1 C.1.2.1 dX5_endPart_50 (by decide) (fun hc => ?_) (fun hc => ?_)
    · replace hf := zIf_t hf hc
      exact hJ70_5 oS_1 hf H locs hP hD hS ls (lv_sub hl [0] rfl)
    · replace hf := zIf_f hf hc
      refine lv_aload_n C.1.1 C.1.2.1 dX5_endPart_53 rfl (lv_at hl 0 rfl) ?_
      refine zGet (.ref (aS 0)) C.1 wuX5 hK hP 0 rfl rfl 1 (by decide) wfX5_21 rfl rfl dX5_endPart_54 ?_
      refine lv_aload_n C.1.1 C.1.2.1 dX5_endPart_57 rfl (lv_at hl 0 rfl) ?_
      refine zGet (.ref (aR 1)) C.1 wuX5 hK hP 0 rfl rfl 8 (by decide) wfX5_44 rfl rfl dX5_endPart_58 ?_
      refine lv_aload_n C.1.1 C.1.2.1 dX5_endPart_61 rfl (lv_at hl 0 rfl) ?_
      refine zGet (.int (oR_3 7 0)) C.1 wuX5 hK hP 0 rfl rfl 7 (by decide) wfX5_41 rfl rfl dX5_endPart_62 ?_
      obtain ⟨hib, hf⟩ := zGd_el hf
      refine va_iald C.1.1 C.1.2.1 hK.1 hP 1 0 rfl rfl hib dX5_endPart_65 ?_
      refine lv_iconst (v := 0) C.1.1 C.1.2.1 dX5_endPart_66 (by decide) ?_
      obtain ⟨oS_7, hg, hf⟩ := zB1_el hf
      refine zCVv (As := [.int (oR_3 8 (oR_3 7 0).toNatClampNeg), .int (0 : Int32)]) (rest := []) (wr := (kX5 cI cB aR (aT 0) (aS 0) oR_3)) (wn := (kX5 cI cB aR (aT 0) (aS 0) oR_3 ++ kX4 cI cB aS oS_7)) C.1 hK hA hP hD hS [3, 4, 5, 6, 7, 8, 9, 10, 11, 12] [0, 1, 2] [0, 1, 2, 3, 4, 5, 6, 7, 8, 9, 10, 11, 12] 0 (mtX4_addStep l dC dI cI cB aS H.size oS_1 (oR_3 8 (oR_3 7 0).toNatClampNeg) (0 : Int32) hg) (zCwV 2 C.1 wlX5_155 wiX4_addStep ws_X4_addStep wnX4 wkX4_addStep rfl rfl (by decide +kernel) ⟨Nat.le_of_ble_eq_true rfl, Nat.le_of_ble_eq_true rfl⟩) rfl rfl (by decide +kernel) rfl rfl rfl rfl hl.1 (Nat.le_of_ble_eq_true rfl) dX5_endPart_67 ⟨Nat.zero_le _, Nat.zero_le _⟩ rfl (fun H locs hP hD hS => ?_)
      exact hJ70_5 oS_7 hf H locs hP hD hS ls (lv_sub hl [0] rfl)
  refine zLp2_ind (o := (oR', oS')) (P := fun (x8 : Int32) (oS_9 : Rc) => ∀ (H : Heap) (locs : List Loc), va_P (dC, dI) vwCl (kX5 cI cB aR (aT 0) (aS 0) oR ++ kX4 cI cB aS oS_9) H → va_D A (kX5 cI cB aR (aT 0) (aS 0) oR ++ kX4 cI cB aS oS_9) → va_S A s.heap H locs → ∀ (ls : Array Slot), lv_has ls 2 [(0, .ref (aR 0)), (1, .int x8)] → W p l e rX5_endPart s m args below meth c H locs 0 0 QQ (F0 m 2 ls [])) (fun go10 ihgo10 x8 oS_9 hf H locs hP hD hS ls hl => ?_) _ (0 : Int32) oS hf H locs hP hD hS ls (lv_sub hl [1, 0] rfl)
  refine lv_iload_n C.1.1 C.1.2.1 dX5_endPart_2 rfl (lv_at hl 1 rfl) ?_
  refine lv_aload_n C.1.1 C.1.2.1 dX5_endPart_3 rfl (lv_at hl 0 rfl) ?_
  refine zGet (.ref (aR 2)) C.1 wuX5 hK hP 0 rfl rfl 9 (by decide) wfX5_48 rfl rfl dX5_endPart_4 ?_
  refine lv_aload_n C.1.1 C.1.2.1 dX5_endPart_7 rfl (lv_at hl 0 rfl) ?_
  refine zGet (.int (oR 7 0)) C.1 wuX5 hK hP 0 rfl rfl 7 (by decide) wfX5_41 rfl rfl dX5_endPart_8 ?_
  obtain ⟨hib, hf⟩ := zGd_el hf
  refine va_iald C.1.1 C.1.2.1 hK.1 hP 2 0 rfl rfl hib dX5_endPart_11 ?_
  refine lv_icmp_ge (tgt := 31) C.1.1 C.1.2.1 dX5_endPart_12 (by decide) (fun hc => ?_) (fun hc => ?_)
  · replace hf := zIf_t hf hc
    exact hJ31_2 oS_9 hf H locs hP hD hS ls (lv_sub hl [0] rfl)
  · replace hf := zIf_f hf hc
    refine lv_aload_n C.1.1 C.1.2.1 dX5_endPart_15 rfl (lv_at hl 0 rfl) ?_
    refine zGet (.ref (aS 0)) C.1 wuX5 hK hP 0 rfl rfl 1 (by decide) wfX5_21 rfl rfl dX5_endPart_16 ?_
    refine lv_bipush (v := 126) C.1.1 C.1.2.1 dX5_endPart_19 (by decide) ?_
    refine lv_iconst (v := 0) C.1.1 C.1.2.1 dX5_endPart_21 (by decide) ?_
    obtain ⟨oS_11, hg, hf⟩ := zB1_el hf
    refine zCVv (As := [.int (126 : Int32), .int (0 : Int32)]) (rest := []) (wr := (kX5 cI cB aR (aT 0) (aS 0) oR)) (wn := (kX5 cI cB aR (aT 0) (aS 0) oR ++ kX4 cI cB aS oS_11)) C.1 hK hA hP hD hS [3, 4, 5, 6, 7, 8, 9, 10, 11, 12] [0, 1, 2] [0, 1, 2, 3, 4, 5, 6, 7, 8, 9, 10, 11, 12] 0 (mtX4_addStep l dC dI cI cB aS H.size oS_9 (126 : Int32) (0 : Int32) hg) (zCwV 2 C.1 wlX5_155 wiX4_addStep ws_X4_addStep wnX4 wkX4_addStep rfl rfl (by decide +kernel) ⟨Nat.le_of_ble_eq_true rfl, Nat.le_of_ble_eq_true rfl⟩) rfl rfl (by decide +kernel) rfl rfl rfl rfl hl.1 (Nat.le_of_ble_eq_true rfl) dX5_endPart_22 ⟨Nat.zero_le _, Nat.zero_le _⟩ rfl (fun H locs hP hD hS => ?_)
    obtain ⟨x12, ex12, hf⟩ := zLet_el hf
    refine lv_iinc (v := x12) (lv' := [(1, .int x12), (0, .ref (aR 0))]) C.1.1 C.1.2.1 dX5_endPart_25 hl (k := 1) rfl (by rw [ex12]; rfl) (by decide) rfl (fun ls hl => ?_)
    refine lv_goto (tgt := 2) C.1.1 C.1.2.1 dX5_endPart_28 (by decide) ?_
    exact ihgo10 x12 oS_11 hf H locs hP hD hS ls (lv_sub hl [1, 0] rfl)
def fX5_meetWhole (NN : Nat) (oR : Rc) (oT : Rc) (oS : Rc) : Option (Int32 × Rc × Rc) :=
  if (oT 7 0) ≤ (65535 : Int32) then (
    zB1 (fX4_addStep oS (3 : Int32) (oT 7 0)) fun oS_1 =>
    zB2 (fX5_endPart NN oR oS_1) fun oR_2 oS_3 =>
    some ((0 : Int32), oR_2, oS_3)
  ) else (
    some ((4 : Int32), oR, oS)
  )
abbrev rX5_meetWhole : Room := { frames := 2, cells := 0, slots := 0, locals := 43 }
set_option maxHeartbeats 4000000 in
set_option maxRecDepth 100000 in
theorem mtX5_meetWhole (l : Launch) (dC : Nat → ClassId) (dI : Nat → Nat → Nat) (cI cB : ClassId) (aR aT aS : Nat → Nat) (sz : Nat) (NN : Nat) (oR : Rc) (oT : Rc) (oS : Rc) {ov : Int32} {oR' : Rc} {oS' : Rc} (hf : fX5_meetWhole NN oR oT oS = some (ov, oR', oS')) : zMi l yX5_meetWhole (Cond.code yX5_meetWhole cX5_meetWhole 1 (some .int) :: lw_g) rX5_meetWhole (dC, dI) [(cI, .int), (cB, .byte)] [.ref (aR 0)] sz (kX5 cI cB aR (aT 0) (aS 0) oR ++ kX6 cI cB aT oT ++ kX4 cI cB aS oS) ov (kX5 cI cB aR (aT 0) (aS 0) oR' ++ kX6 cI cB aT oT ++ kX4 cI cB aS oS') := by
  refine zSt (cc := cX5_meetWhole) (maxL := 1) (ret := (some .int)) (own := RX5) (fun A => zQi (dC, dI) [(cI, .int), (cB, .byte)] A ov (kX5 cI cB aR (aT 0) (aS 0) oR' ++ kX6 cI cB aT oT ++ kX4 cI cB aS oS')) (by decide) rfl rfl (Nat.le_of_ble_eq_true rfl) ?_
  intro p e s m below meth c ls A H locs C hK hA hP hD hS hl
  generalize hQ : MQ below (zQi (dC, dI) [(cI, .int), (cB, .byte)] A ov (kX5 cI cB aR (aT 0) (aS 0) oR' ++ kX6 cI cB aT oT ++ kX4 cI cB aS oS')) _ s 0 0 A = QQ
  generalize ([.ref (aR 0)] : List Value).toArray = args at C hQ ⊢
  have hl : lv_has ls 1 [(0, .ref (aR 0))] := hl
  unfold fX5_meetWhole at hf
  refine lv_aload_n C.1.1 C.1.2.1 dX5_meetWhole_0 rfl (lv_at hl 0 rfl) ?_
  refine zGet (.ref (aT 0)) C.1 wuX5 hK hP 0 rfl rfl 0 (by decide) wfX5_12 rfl rfl dX5_meetWhole_1 ?_
  refine zGet (.int (oT 7 0)) C.1 wuX6 hK hP 3 rfl rfl 7 (by decide) wfX5_112 rfl rfl dX5_meetWhole_4 ?_
  refine lv_ldc C.1.1 C.1.2.1 C.1.2.2.2.1 (C.1.2.2.2.2 _ wcX5_154) dX5_meetWhole_7 ?_
  refine lv_icmp_le (tgt := 14) C.1.1 C.1.2.1 dX5_meetWhole_9 (by decide) (fun hc => ?_) (fun hc => ?_)
  · replace hf := zIf_t hf hc
    refine lv_aload_n C.1.1 C.1.2.1 dX5_meetWhole_14 rfl (lv_at hl 0 rfl) ?_
    refine zGet (.ref (aS 0)) C.1 wuX5 hK hP 0 rfl rfl 1 (by decide) wfX5_21 rfl rfl dX5_meetWhole_15 ?_
    refine lv_iconst (v := 3) C.1.1 C.1.2.1 dX5_meetWhole_18 (by decide) ?_
    refine lv_aload_n C.1.1 C.1.2.1 dX5_meetWhole_19 rfl (lv_at hl 0 rfl) ?_
    refine zGet (.ref (aT 0)) C.1 wuX5 hK hP 0 rfl rfl 0 (by decide) wfX5_12 rfl rfl dX5_meetWhole_20 ?_
    refine zGet (.int (oT 7 0)) C.1 wuX6 hK hP 3 rfl rfl 7 (by decide) wfX5_112 rfl rfl dX5_meetWhole_23 ?_
    obtain ⟨oS_1, hg, hf⟩ := zB1_el hf
    refine zCVv (As := [.int (3 : Int32), .int (oT 7 0)]) (rest := []) (wr := (kX5 cI cB aR (aT 0) (aS 0) oR ++ kX6 cI cB aT oT)) (wn := (kX5 cI cB aR (aT 0) (aS 0) oR ++ kX6 cI cB aT oT ++ kX4 cI cB aS oS_1)) C.1 hK hA hP hD hS [5, 6, 7, 8, 9, 10, 11, 12, 13, 14] [0, 1, 2, 3, 4] [0, 1, 2, 3, 4, 5, 6, 7, 8, 9, 10, 11, 12, 13, 14] 0 (mtX4_addStep l dC dI cI cB aS H.size oS (3 : Int32) (oT 7 0) hg) (zCwV 2 C.1 wlX5_155 wiX4_addStep ws_X4_addStep wnX4 wkX4_addStep rfl rfl (by decide +kernel) ⟨Nat.le_of_ble_eq_true rfl, Nat.le_of_ble_eq_true rfl⟩) rfl rfl (by decide +kernel) rfl rfl rfl rfl hl.1 (Nat.le_of_ble_eq_true rfl) dX5_meetWhole_26 ⟨Nat.zero_le _, Nat.zero_le _⟩ rfl (fun H locs hP hD hS => ?_)
    refine lv_aload_n C.1.1 C.1.2.1 dX5_meetWhole_29 rfl (lv_at hl 0 rfl) ?_
    obtain ⟨oR_2, oS_3, hg, hf⟩ := zB2_el hf
    refine zCVv (As := []) (rest := []) (wr := (kX6 cI cB aT oT)) (wn := (kX5 cI cB aR (aT 0) (aS 0) oR_2 ++ kX6 cI cB aT oT ++ kX4 cI cB aS oS_3)) C.1 hK hA hP hD hS [0, 1, 2, 5, 6, 7, 8, 9, 10, 11, 12, 13, 14] [3, 4] [2, 3, 4, 0, 1, 5, 6, 7, 8, 9, 10, 11, 12, 13, 14] 0 (mtX5_endPart l dC dI cI cB aR aT aS H.size NN oR oS_1 hg) (zCwV 0 C.1 wlX5_159 wiX5_endPart ws_X5_endPart wnX5 wkX5_endPart rfl rfl (by decide +kernel) ⟨Nat.le_of_ble_eq_true rfl, Nat.le_of_ble_eq_true rfl⟩) rfl rfl (by decide +kernel) rfl rfl rfl rfl hl.1 (Nat.le_of_ble_eq_true rfl) dX5_meetWhole_30 ⟨Nat.zero_le _, Nat.zero_le _⟩ rfl (fun H locs hP hD hS => ?_)
    refine lv_iconst (v := 0) C.1.1 C.1.2.1 dX5_meetWhole_33 (by decide) ?_
    cases hf
    rw [← hQ]
    exact zRi C hK hP hD hS dX5_meetWhole_34
  · replace hf := zIf_f hf hc
    refine lv_iconst (v := 4) C.1.1 C.1.2.1 dX5_meetWhole_12 (by decide) ?_
    cases hf
    rw [← hQ]
    exact zRi C hK hP hD hS dX5_meetWhole_13
def fX5_meetAskedName (NN : Nat) (oR : Rc) (oT : Rc) (oS : Rc) : Option (Int32 × Rc × Rc) :=
  zB1 (fX5_faultOfName oT) fun v1 =>
  if v1 = 0 then (
    zB1 (fX4_addStep oS (4 : Int32) (oT 8 0)) fun oS_2 =>
    zB2 (fX5_endPart NN oR oS_2) fun oR_3 oS_4 =>
    some (v1, oR_3, oS_4)
  ) else (
    some (v1, oR, oS)
  )
abbrev rX5_meetAskedName : Room := { frames := 2, cells := 0, slots := 0, locals := 43 }
set_option maxHeartbeats 4000000 in
set_option maxRecDepth 100000 in
theorem mtX5_meetAskedName (l : Launch) (dC : Nat → ClassId) (dI : Nat → Nat → Nat) (cI cB : ClassId) (aR aT aS : Nat → Nat) (sz : Nat) (NN : Nat) (oR : Rc) (oT : Rc) (oS : Rc) {ov : Int32} {oR' : Rc} {oS' : Rc} (hf : fX5_meetAskedName NN oR oT oS = some (ov, oR', oS')) : zMi l yX5_meetAskedName (Cond.code yX5_meetAskedName cX5_meetAskedName 2 (some .int) :: lw_g) rX5_meetAskedName (dC, dI) [(cI, .int), (cB, .byte)] [.ref (aR 0)] sz (kX5 cI cB aR (aT 0) (aS 0) oR ++ kX6 cI cB aT oT ++ kX4 cI cB aS oS) ov (kX5 cI cB aR (aT 0) (aS 0) oR' ++ kX6 cI cB aT oT ++ kX4 cI cB aS oS') := by
  refine zSt (cc := cX5_meetAskedName) (maxL := 2) (ret := (some .int)) (own := RX5) (fun A => zQi (dC, dI) [(cI, .int), (cB, .byte)] A ov (kX5 cI cB aR (aT 0) (aS 0) oR' ++ kX6 cI cB aT oT ++ kX4 cI cB aS oS')) (by decide) rfl rfl (Nat.le_of_ble_eq_true rfl) ?_
  intro p e s m below meth c ls A H locs C hK hA hP hD hS hl
  generalize hQ : MQ below (zQi (dC, dI) [(cI, .int), (cB, .byte)] A ov (kX5 cI cB aR (aT 0) (aS 0) oR' ++ kX6 cI cB aT oT ++ kX4 cI cB aS oS')) _ s 0 0 A = QQ
  generalize ([.ref (aR 0)] : List Value).toArray = args at C hQ ⊢
  have hl : lv_has ls 2 [(0, .ref (aR 0))] := hl
  unfold fX5_meetAskedName at hf
  refine lv_aload_n C.1.1 C.1.2.1 dX5_meetAskedName_0 rfl (lv_at hl 0 rfl) ?_
  obtain ⟨v1, hg, hf⟩ := zB1_el hf
  refine zCVi (As := []) (rest := []) (wr := (kX4 cI cB aS oS)) (wn := (kX5 cI cB aR (aT 0) (aS 0) oR ++ kX6 cI cB aT oT ++ kX4 cI cB aS oS)) C.1 hK hA hP hD hS [0, 1, 2, 3, 4] [5, 6, 7, 8, 9, 10, 11, 12, 13, 14] [10, 11, 12, 13, 14, 0, 1, 2, 3, 4, 5, 6, 7, 8, 9] 0 (mtX5_faultOfName l dC dI cI cB aR aT aS H.size oR oT hg) (zCwV 0 C.1 wlX5_122 wiX5_faultOfName ws_X5_faultOfName wnX5 wkX5_faultOfName rfl rfl (by decide +kernel) ⟨Nat.le_of_ble_eq_true rfl, Nat.le_of_ble_eq_true rfl⟩) rfl rfl (by decide +kernel) rfl rfl rfl rfl hl.1 (Nat.le_of_ble_eq_true rfl) dX5_meetAskedName_1 ⟨Nat.zero_le _, Nat.zero_le _⟩ rfl (fun H locs hP hD hS => ?_)
  refine lv_istore_n (lv' := [(1, .int v1), (0, .ref (aR 0))]) C.1.1 C.1.2.1 dX5_meetAskedName_4 rfl hl (by decide) rfl (fun ls hl => ?_)
  refine lv_iload_n C.1.1 C.1.2.1 dX5_meetAskedName_5 rfl (lv_at hl 0 rfl) ?_
  refine lv_if_ne (tgt := 28) C.1.1 C.1.2.1 dX5_meetAskedName_6 (by decide) (fun hc => ?_) (fun hc => ?_)
  · replace hf := zIf_f hf hc
    refine lv_iload_n C.1.1 C.1.2.1 dX5_meetAskedName_28 rfl (lv_at hl 0 rfl) ?_
    cases hf
    rw [← hQ]
    exact zRi C hK hP hD hS dX5_meetAskedName_29
  · replace hf := zIf_t hf hc
    refine lv_aload_n C.1.1 C.1.2.1 dX5_meetAskedName_9 rfl (lv_at hl 1 rfl) ?_
    refine zGet (.ref (aS 0)) C.1 wuX5 hK hP 0 rfl rfl 1 (by decide) wfX5_21 rfl rfl dX5_meetAskedName_10 ?_
    refine lv_iconst (v := 4) C.1.1 C.1.2.1 dX5_meetAskedName_13 (by decide) ?_
    refine lv_aload_n C.1.1 C.1.2.1 dX5_meetAskedName_14 rfl (lv_at hl 1 rfl) ?_
    refine zGet (.ref (aT 0)) C.1 wuX5 hK hP 0 rfl rfl 0 (by decide) wfX5_12 rfl rfl dX5_meetAskedName_15 ?_
    refine zGet (.int (oT 8 0)) C.1 wuX6 hK hP 3 rfl rfl 8 (by decide) wfX5_133 rfl rfl dX5_meetAskedName_18 ?_
    obtain ⟨oS_2, hg, hf⟩ := zB1_el hf
    refine zCVv (As := [.int (4 : Int32), .int (oT 8 0)]) (rest := []) (wr := (kX5 cI cB aR (aT 0) (aS 0) oR ++ kX6 cI cB aT oT)) (wn := (kX5 cI cB aR (aT 0) (aS 0) oR ++ kX6 cI cB aT oT ++ kX4 cI cB aS oS_2)) C.1 hK hA hP hD hS [5, 6, 7, 8, 9, 10, 11, 12, 13, 14] [0, 1, 2, 3, 4] [0, 1, 2, 3, 4, 5, 6, 7, 8, 9, 10, 11, 12, 13, 14] 0 (mtX4_addStep l dC dI cI cB aS H.size oS (4 : Int32) (oT 8 0) hg) (zCwV 2 C.1 wlX5_155 wiX4_addStep ws_X4_addStep wnX4 wkX4_addStep rfl rfl (by decide +kernel) ⟨Nat.le_of_ble_eq_true rfl, Nat.le_of_ble_eq_true rfl⟩) rfl rfl (by decide +kernel) rfl rfl rfl rfl hl.1 (Nat.le_of_ble_eq_true rfl) dX5_meetAskedName_21 ⟨Nat.zero_le _, Nat.zero_le _⟩ rfl (fun H locs hP hD hS => ?_)
    refine lv_aload_n C.1.1 C.1.2.1 dX5_meetAskedName_24 rfl (lv_at hl 1 rfl) ?_
    obtain ⟨oR_3, oS_4, hg, hf⟩ := zB2_el hf
    refine zCVv (As := []) (rest := []) (wr := (kX6 cI cB aT oT)) (wn := (kX5 cI cB aR (aT 0) (aS 0) oR_3 ++ kX6 cI cB aT oT ++ kX4 cI cB aS oS_4)) C.1 hK hA hP hD hS [0, 1, 2, 5, 6, 7, 8, 9, 10, 11, 12, 13, 14] [3, 4] [2, 3, 4, 0, 1, 5, 6, 7, 8, 9, 10, 11, 12, 13, 14] 0 (mtX5_endPart l dC dI cI cB aR aT aS H.size NN oR oS_2 hg) (zCwV 0 C.1 wlX5_159 wiX5_endPart ws_X5_endPart wnX5 wkX5_endPart rfl rfl (by decide +kernel) ⟨Nat.le_of_ble_eq_true rfl, Nat.le_of_ble_eq_true rfl⟩) rfl rfl (by decide +kernel) rfl rfl rfl rfl hl.1 (Nat.le_of_ble_eq_true rfl) dX5_meetAskedName_25 ⟨Nat.zero_le _, Nat.zero_le _⟩ rfl (fun H locs hP hD hS => ?_)
    refine lv_iload_n C.1.1 C.1.2.1 dX5_meetAskedName_28 rfl (lv_at hl 0 rfl) ?_
    cases hf
    rw [← hQ]
    exact zRi C hK hP hD hS dX5_meetAskedName_29
def fX5_meetPart (NN : Nat) (oR : Rc) (oT : Rc) (oS : Rc) : Option (Int32 × Rc × Rc) :=
  zLet (oT 4 0) fun x1 =>
  if x1 = 3 then (
    zB3 (fX5_meetWhole NN oR oT oS) fun v3 oR_4 oS_5 =>
    some (v3, oR_4, oS_5)
  ) else (
    if x1 = 40 then (
      zB2 (fX5_meetOpening oR) fun v7 oR_8 =>
      some (v7, oR_8, oS)
    ) else (
      if x1 = 126 then (
        zB3 (fX5_meetTurn oR oS) fun v10 oR_11 oS_12 =>
        some (v10, oR_11, oS_12)
      ) else (
        zB3 (fX5_meetAskedName NN oR oT oS) fun v13 oR_14 oS_15 =>
        some (v13, oR_14, oS_15)
      )
    )
  )
abbrev rX5_meetPart : Room := { frames := 3, cells := 0, slots := 0, locals := 64 }
set_option maxHeartbeats 4000000 in
set_option maxRecDepth 100000 in
theorem mtX5_meetPart (l : Launch) (dC : Nat → ClassId) (dI : Nat → Nat → Nat) (cI cB : ClassId) (aR aT aS : Nat → Nat) (sz : Nat) (NN : Nat) (oR : Rc) (oT : Rc) (oS : Rc) {ov : Int32} {oR' : Rc} {oS' : Rc} (hf : fX5_meetPart NN oR oT oS = some (ov, oR', oS')) : zMi l yX5_meetPart (Cond.code yX5_meetPart cX5_meetPart 1 (some .int) :: lw_g) rX5_meetPart (dC, dI) [(cI, .int), (cB, .byte)] [.ref (aR 0)] sz (kX5 cI cB aR (aT 0) (aS 0) oR ++ kX6 cI cB aT oT ++ kX4 cI cB aS oS) ov (kX5 cI cB aR (aT 0) (aS 0) oR' ++ kX6 cI cB aT oT ++ kX4 cI cB aS oS') := by
  refine zSt (cc := cX5_meetPart) (maxL := 1) (ret := (some .int)) (own := RX5) (fun A => zQi (dC, dI) [(cI, .int), (cB, .byte)] A ov (kX5 cI cB aR (aT 0) (aS 0) oR' ++ kX6 cI cB aT oT ++ kX4 cI cB aS oS')) (by decide) rfl rfl (Nat.le_of_ble_eq_true rfl) ?_
  intro p e s m below meth c ls A H locs C hK hA hP hD hS hl
  generalize hQ : MQ below (zQi (dC, dI) [(cI, .int), (cB, .byte)] A ov (kX5 cI cB aR (aT 0) (aS 0) oR' ++ kX6 cI cB aT oT ++ kX4 cI cB aS oS')) _ s 0 0 A = QQ
  generalize ([.ref (aR 0)] : List Value).toArray = args at C hQ ⊢
  have hl : lv_has ls 1 [(0, .ref (aR 0))] := hl
  unfold fX5_meetPart at hf
  refine lv_aload_n C.1.1 C.1.2.1 dX5_meetPart_0 rfl (lv_at hl 0 rfl) ?_
  refine zGet (.ref (aT 0)) C.1 wuX5 hK hP 0 rfl rfl 0 (by decide) wfX5_12 rfl rfl dX5_meetPart_1 ?_
  refine zGet (.int (oT 4 0)) C.1 wuX6 hK hP 3 rfl rfl 4 (by decide) wfX5_57 rfl rfl dX5_meetPart_4 ?_
  refine lv_topi (fun x1 ex1 => ?_)
  replace hf := zLet_at hf ex1
  rcases Classical.em (x1 = 3) with hk2 | hk2
  · replace hf := zIf_t hf hk2
    refine lv_lookup (off := 43) (tgt := 50) C.1.1 C.1.2.1 dX5_meetPart_7 (by decide +kernel) (by rw [hk2] <;> decide +kernel) (by decide) ?_
    refine lv_aload_n C.1.1 C.1.2.1 dX5_meetPart_50 rfl (lv_at hl 0 rfl) ?_
    obtain ⟨v3, oR_4, oS_5, hg, hf⟩ := zB3_el hf
    refine zCVi (As := []) (rest := []) (wr := ([] : va_W)) (wn := (kX5 cI cB aR (aT 0) (aS 0) oR_4 ++ kX6 cI cB aT oT ++ kX4 cI cB aS oS_5)) C.1 hK hA hP hD hS [0, 1, 2, 3, 4, 5, 6, 7, 8, 9, 10, 11, 12, 13, 14] [] [0, 1, 2, 3, 4, 5, 6, 7, 8, 9, 10, 11, 12, 13, 14] 0 (mtX5_meetWhole l dC dI cI cB aR aT aS H.size NN oR oT oS hg) (zCwV 0 C.1 wlX5_148 wiX5_meetWhole ws_X5_meetWhole wnX5 wkX5_meetWhole rfl rfl (by decide +kernel) ⟨Nat.le_of_ble_eq_true rfl, Nat.le_of_ble_eq_true rfl⟩) rfl rfl (by decide +kernel) rfl rfl rfl rfl hl.1 (Nat.le_of_ble_eq_true rfl) dX5_meetPart_51 ⟨Nat.zero_le _, Nat.zero_le _⟩ rfl (fun H locs hP hD hS => ?_)
    cases hf
    rw [← hQ]
    exact zRi C hK hP hD hS dX5_meetPart_54
  · replace hf := zIf_f hf hk2
    rcases Classical.em (x1 = 40) with hk6 | hk6
    · replace hf := zIf_t hf hk6
      refine lv_lookup (off := 38) (tgt := 45) C.1.1 C.1.2.1 dX5_meetPart_7 (by decide +kernel) (by rw [hk6] <;> decide +kernel) (by decide) ?_
      refine lv_aload_n C.1.1 C.1.2.1 dX5_meetPart_45 rfl (lv_at hl 0 rfl) ?_
      obtain ⟨v7, oR_8, hg, hf⟩ := zB2_el hf
      refine zCVi (As := []) (rest := []) (wr := (kX6 cI cB aT oT ++ kX4 cI cB aS oS)) (wn := (kX5 cI cB aR (aT 0) (aS 0) oR_8 ++ kX6 cI cB aT oT ++ kX4 cI cB aS oS)) C.1 hK hA hP hD hS [0, 1, 2] [3, 4, 5, 6, 7, 8, 9, 10, 11, 12, 13, 14] [12, 13, 14, 0, 1, 2, 3, 4, 5, 6, 7, 8, 9, 10, 11] 0 (mtX5_meetOpening l dC dI cI cB aR aT aS H.size oR hg) (zCwV 0 C.1 wlX5_145 wiX5_meetOpening ws_X5_meetOpening wnX5 wkX5_meetOpening rfl rfl (by decide +kernel) ⟨Nat.le_of_ble_eq_true rfl, Nat.le_of_ble_eq_true rfl⟩) rfl rfl (by decide +kernel) rfl rfl rfl rfl hl.1 (Nat.le_of_ble_eq_true rfl) dX5_meetPart_46 ⟨Nat.zero_le _, Nat.zero_le _⟩ rfl (fun H locs hP hD hS => ?_)
      cases hf
      rw [← hQ]
      exact zRi C hK hP hD hS dX5_meetPart_49
    · replace hf := zIf_f hf hk6
      rcases Classical.em (x1 = 126) with hk9 | hk9
      · replace hf := zIf_t hf hk9
        refine lv_lookup (off := 33) (tgt := 40) C.1.1 C.1.2.1 dX5_meetPart_7 (by decide +kernel) (by rw [hk9] <;> decide +kernel) (by decide) ?_
        refine lv_aload_n C.1.1 C.1.2.1 dX5_meetPart_40 rfl (lv_at hl 0 rfl) ?_
        obtain ⟨v10, oR_11, oS_12, hg, hf⟩ := zB3_el hf
        refine zCVi (As := []) (rest := []) (wr := (kX6 cI cB aT oT)) (wn := (kX5 cI cB aR (aT 0) (aS 0) oR_11 ++ kX6 cI cB aT oT ++ kX4 cI cB aS oS_12)) C.1 hK hA hP hD hS [0, 1, 2, 5, 6, 7, 8, 9, 10, 11, 12, 13, 14] [3, 4] [2, 3, 4, 0, 1, 5, 6, 7, 8, 9, 10, 11, 12, 13, 14] 0 (mtX5_meetTurn l dC dI cI cB aR aT aS H.size oR oS hg) (zCwV 0 C.1 wlX5_142 wiX5_meetTurn ws_X5_meetTurn wnX5 wkX5_meetTurn rfl rfl (by decide +kernel) ⟨Nat.le_of_ble_eq_true rfl, Nat.le_of_ble_eq_true rfl⟩) rfl rfl (by decide +kernel) rfl rfl rfl rfl hl.1 (Nat.le_of_ble_eq_true rfl) dX5_meetPart_41 ⟨Nat.zero_le _, Nat.zero_le _⟩ rfl (fun H locs hP hD hS => ?_)
        cases hf
        rw [← hQ]
        exact zRi C hK hP hD hS dX5_meetPart_44
      · replace hf := zIf_f hf hk9
        refine lv_lookup (off := 48) (tgt := 55) C.1.1 C.1.2.1 dX5_meetPart_7 (by decide +kernel) (by simp only [List.toList_toArray]; rw [lv_osw hk2 (by decide), lv_osw hk6 (by decide), lv_osw hk9 (by decide)] <;> rfl) (by decide) ?_
        refine lv_aload_n C.1.1 C.1.2.1 dX5_meetPart_55 rfl (lv_at hl 0 rfl) ?_
        obtain ⟨v13, oR_14, oS_15, hg, hf⟩ := zB3_el hf
        refine zCVi (As := []) (rest := []) (wr := ([] : va_W)) (wn := (kX5 cI cB aR (aT 0) (aS 0) oR_14 ++ kX6 cI cB aT oT ++ kX4 cI cB aS oS_15)) C.1 hK hA hP hD hS [0, 1, 2, 3, 4, 5, 6, 7, 8, 9, 10, 11, 12, 13, 14] [] [0, 1, 2, 3, 4, 5, 6, 7, 8, 9, 10, 11, 12, 13, 14] 0 (mtX5_meetAskedName l dC dI cI cB aR aT aS H.size NN oR oT oS hg) (zCwV 0 C.1 wlX5_151 wiX5_meetAskedName ws_X5_meetAskedName wnX5 wkX5_meetAskedName rfl rfl (by decide +kernel) ⟨Nat.le_of_ble_eq_true rfl, Nat.le_of_ble_eq_true rfl⟩) rfl rfl (by decide +kernel) rfl rfl rfl rfl hl.1 (Nat.le_of_ble_eq_true rfl) dX5_meetPart_56 ⟨Nat.zero_le _, Nat.zero_le _⟩ rfl (fun H locs hP hD hS => ?_)
        cases hf
        rw [← hQ]
        exact zRi C hK hP hD hS dX5_meetPart_59
def fX5_meetSign (oR : Rc) (oT : Rc) (oS : Rc) : Option (Int32 × Rc × Rc) :=
  zGd (inb (oR 7 0) 9) <|
  zJn (fun (_ : Unit) =>
      zGd (inb (oR 7 0) 9) <|
      zLet (rs oR 8 (upd (oR 8) (oR 7 0).toNatClampNeg (oT 4 0))) fun oR_2 =>
      zB3 (fX5_meetOp oR_2 oS (7 : Int32)) fun v3 oR_4 oS_5 =>
      some (v3, oR_4, oS_5)
    ) fun J33_1 =>
  if (oR 8 (oR 7 0).toNatClampNeg) = 0 then (
    J33_1 ()
  ) else (
    zGd (inb (oR 7 0) 9) <|
    if (oR 8 (oR 7 0).toNatClampNeg) = (oT 4 0) then (
      J33_1 ()
    ) else (
      some ((1 : Int32), oR, oS)
    )
  )
abbrev rX5_meetSign : Room := { frames := 1, cells := 0, slots := 0, locals := 21 }
set_option maxHeartbeats 4000000 in
set_option maxRecDepth 100000 in
theorem mtX5_meetSign (l : Launch) (dC : Nat → ClassId) (dI : Nat → Nat → Nat) (cI cB : ClassId) (aR aT aS : Nat → Nat) (sz : Nat) (oR : Rc) (oT : Rc) (oS : Rc) {ov : Int32} {oR' : Rc} {oS' : Rc} (hf : fX5_meetSign oR oT oS = some (ov, oR', oS')) : zMi l yX5_meetSign (Cond.code yX5_meetSign cX5_meetSign 1 (some .int) :: lw_g) rX5_meetSign (dC, dI) [(cI, .int), (cB, .byte)] [.ref (aR 0)] sz (kX5 cI cB aR (aT 0) (aS 0) oR ++ kX6 cI cB aT oT ++ kX4 cI cB aS oS) ov (kX5 cI cB aR (aT 0) (aS 0) oR' ++ kX6 cI cB aT oT ++ kX4 cI cB aS oS') := by
  refine zSt (cc := cX5_meetSign) (maxL := 1) (ret := (some .int)) (own := RX5) (fun A => zQi (dC, dI) [(cI, .int), (cB, .byte)] A ov (kX5 cI cB aR (aT 0) (aS 0) oR' ++ kX6 cI cB aT oT ++ kX4 cI cB aS oS')) (by decide) rfl rfl (Nat.le_of_ble_eq_true rfl) ?_
  intro p e s m below meth c ls A H locs C hK hA hP hD hS hl
  generalize hQ : MQ below (zQi (dC, dI) [(cI, .int), (cB, .byte)] A ov (kX5 cI cB aR (aT 0) (aS 0) oR' ++ kX6 cI cB aT oT ++ kX4 cI cB aS oS')) _ s 0 0 A = QQ
  generalize ([.ref (aR 0)] : List Value).toArray = args at C hQ ⊢
  have hl : lv_has ls 1 [(0, .ref (aR 0))] := hl
  unfold fX5_meetSign at hf
  refine lv_aload_n C.1.1 C.1.2.1 dX5_meetSign_0 rfl (lv_at hl 0 rfl) ?_
  refine zGet (.ref (aR 1)) C.1 wuX5 hK hP 0 rfl rfl 8 (by decide) wfX5_44 rfl rfl dX5_meetSign_1 ?_
  refine lv_aload_n C.1.1 C.1.2.1 dX5_meetSign_4 rfl (lv_at hl 0 rfl) ?_
  refine zGet (.int (oR 7 0)) C.1 wuX5 hK hP 0 rfl rfl 7 (by decide) wfX5_41 rfl rfl dX5_meetSign_5 ?_
  obtain ⟨hib, hf⟩ := zGd_el hf
  refine va_iald C.1.1 C.1.2.1 hK.1 hP 1 0 rfl rfl hib dX5_meetSign_8 ?_
  obtain ⟨J33_1, eJ33_1, hf⟩ := zJn_el hf
  have hJ33_1 : ∀ (u : Unit), J33_1 u = some (ov, oR', oS') → ∀ (H : Heap) (locs : List Loc), va_P (dC, dI) vwCl (kX5 cI cB aR (aT 0) (aS 0) oR ++ kX6 cI cB aT oT ++ kX4 cI cB aS oS) H → va_D A (kX5 cI cB aR (aT 0) (aS 0) oR ++ kX6 cI cB aT oT ++ kX4 cI cB aS oS) → va_S A s.heap H locs → ∀ (ls : Array Slot), lv_has ls 1 [(0, .ref (aR 0))] → W p l e rX5_meetSign s m args below meth c H locs 0 0 QQ (F0 m 33 ls []) := by
    intro u hf H locs hP hD hS ls hl
    rw [eJ33_1] at hf
    refine lv_aload_n C.1.1 C.1.2.1 dX5_meetSign_33 rfl (lv_at hl 0 rfl) ?_
    refine zGet (.ref (aR 1)) C.1 wuX5 hK hP 0 rfl rfl 8 (by decide) wfX5_44 rfl rfl dX5_meetSign_34 ?_
    refine lv_aload_n C.1.1 C.1.2.1 dX5_meetSign_37 rfl (lv_at hl 0 rfl) ?_
    refine zGet (.int (oR 7 0)) C.1 wuX5 hK hP 0 rfl rfl 7 (by decide) wfX5_41 rfl rfl dX5_meetSign_38 ?_
    refine lv_aload_n C.1.1 C.1.2.1 dX5_meetSign_41 rfl (lv_at hl 0 rfl) ?_
    refine zGet (.ref (aT 0)) C.1 wuX5 hK hP 0 rfl rfl 0 (by decide) wfX5_12 rfl rfl dX5_meetSign_42 ?_
    refine zGet (.int (oT 4 0)) C.1 wuX6 hK hP 3 rfl rfl 4 (by decide) wfX5_57 rfl rfl dX5_meetSign_45 ?_
    obtain ⟨hib, hf⟩ := zGd_el hf
    obtain ⟨oR_2, eoR_2, hf⟩ := zLet_el hf
    refine zIast (kX5 cI cB aR (aT 0) (aS 0) oR_2 ++ kX6 cI cB aT oT ++ kX4 cI cB aS oS) C.1 hK hP hD hS 1 0 rfl rfl hib dX5_meetSign_48 (by rw [eoR_2]; rfl) (fun H locs hP hD hS => ?_)
    refine lv_aload_n C.1.1 C.1.2.1 dX5_meetSign_49 rfl (lv_at hl 0 rfl) ?_
    refine lv_bipush (v := 7) C.1.1 C.1.2.1 dX5_meetSign_50 (by decide) ?_
    obtain ⟨v3, oR_4, oS_5, hg, hf⟩ := zB3_el hf
    refine zCVi (As := [.int (7 : Int32)]) (rest := []) (wr := (kX6 cI cB aT oT)) (wn := (kX5 cI cB aR (aT 0) (aS 0) oR_4 ++ kX6 cI cB aT oT ++ kX4 cI cB aS oS_5)) C.1 hK hA hP hD hS [0, 1, 2, 5, 6, 7, 8, 9, 10, 11, 12, 13, 14] [3, 4] [2, 3, 4, 0, 1, 5, 6, 7, 8, 9, 10, 11, 12, 13, 14] 0 (mtX5_meetOp l dC dI cI cB aR aT aS H.size oR_2 oS (7 : Int32) hg) (zCwV 1 C.1 wlX5_129 wiX5_meetOp ws_X5_meetOp wnX5 wkX5_meetOp rfl rfl (by decide +kernel) ⟨Nat.le_of_ble_eq_true rfl, Nat.le_of_ble_eq_true rfl⟩) rfl rfl (by decide +kernel) rfl rfl rfl rfl hl.1 (Nat.le_of_ble_eq_true rfl) dX5_meetSign_52 ⟨Nat.zero_le _, Nat.zero_le _⟩ rfl (fun H locs hP hD hS => ?_)
    cases hf
    rw [← hQ]
    exact zRi C hK hP hD hS dX5_meetSign_55
  refine lv_if_eq (tgt := 33) C.1.1 C.1.2.1 dX5_meetSign_9 (by decide) (fun hc => ?_) (fun hc => ?_)
  · replace hf := zIf_t hf hc
    exact hJ33_1 () hf H locs hP hD hS ls (lv_sub hl [0] rfl)
  · replace hf := zIf_f hf hc
    refine lv_aload_n C.1.1 C.1.2.1 dX5_meetSign_12 rfl (lv_at hl 0 rfl) ?_
    refine zGet (.ref (aR 1)) C.1 wuX5 hK hP 0 rfl rfl 8 (by decide) wfX5_44 rfl rfl dX5_meetSign_13 ?_
    refine lv_aload_n C.1.1 C.1.2.1 dX5_meetSign_16 rfl (lv_at hl 0 rfl) ?_
    refine zGet (.int (oR 7 0)) C.1 wuX5 hK hP 0 rfl rfl 7 (by decide) wfX5_41 rfl rfl dX5_meetSign_17 ?_
    obtain ⟨hib, hf⟩ := zGd_el hf
    refine va_iald C.1.1 C.1.2.1 hK.1 hP 1 0 rfl rfl hib dX5_meetSign_20 ?_
    refine lv_aload_n C.1.1 C.1.2.1 dX5_meetSign_21 rfl (lv_at hl 0 rfl) ?_
    refine zGet (.ref (aT 0)) C.1 wuX5 hK hP 0 rfl rfl 0 (by decide) wfX5_12 rfl rfl dX5_meetSign_22 ?_
    refine zGet (.int (oT 4 0)) C.1 wuX6 hK hP 3 rfl rfl 4 (by decide) wfX5_57 rfl rfl dX5_meetSign_25 ?_
    refine lv_icmp_eq (tgt := 33) C.1.1 C.1.2.1 dX5_meetSign_28 (by decide) (fun hc => ?_) (fun hc => ?_)
    · replace hf := zIf_t hf hc
      exact hJ33_1 () hf H locs hP hD hS ls (lv_sub hl [0] rfl)
    · replace hf := zIf_f hf hc
      refine lv_iconst (v := 1) C.1.1 C.1.2.1 dX5_meetSign_31 (by decide) ?_
      cases hf
      rw [← hQ]
      exact zRi C hK hP hD hS dX5_meetSign_32
def fX5_meetClosing (NN : Nat) (oR : Rc) (oT : Rc) (oS : Rc) : Option (Int32 × Rc × Rc) :=
  if (oT 4 0) = (41 : Int32) then (
    zLet (rs oR 7 (fun _ => ((oR 7 0) - (1 : Int32)))) fun oR_1 =>
    zB2 (fX5_endPart NN oR_1 oS) fun oR_2 oS_3 =>
    some ((0 : Int32), oR_2, oS_3)
  ) else (
    some ((1 : Int32), oR, oS)
  )
abbrev rX5_meetClosing : Room := { frames := 2, cells := 0, slots := 0, locals := 43 }
set_option maxHeartbeats 4000000 in
set_option maxRecDepth 100000 in
theorem mtX5_meetClosing (l : Launch) (dC : Nat → ClassId) (dI : Nat → Nat → Nat) (cI cB : ClassId) (aR aT aS : Nat → Nat) (sz : Nat) (NN : Nat) (oR : Rc) (oT : Rc) (oS : Rc) {ov : Int32} {oR' : Rc} {oS' : Rc} (hf : fX5_meetClosing NN oR oT oS = some (ov, oR', oS')) : zMi l yX5_meetClosing (Cond.code yX5_meetClosing cX5_meetClosing 1 (some .int) :: lw_g) rX5_meetClosing (dC, dI) [(cI, .int), (cB, .byte)] [.ref (aR 0)] sz (kX5 cI cB aR (aT 0) (aS 0) oR ++ kX6 cI cB aT oT ++ kX4 cI cB aS oS) ov (kX5 cI cB aR (aT 0) (aS 0) oR' ++ kX6 cI cB aT oT ++ kX4 cI cB aS oS') := by
  refine zSt (cc := cX5_meetClosing) (maxL := 1) (ret := (some .int)) (own := RX5) (fun A => zQi (dC, dI) [(cI, .int), (cB, .byte)] A ov (kX5 cI cB aR (aT 0) (aS 0) oR' ++ kX6 cI cB aT oT ++ kX4 cI cB aS oS')) (by decide) rfl rfl (Nat.le_of_ble_eq_true rfl) ?_
  intro p e s m below meth c ls A H locs C hK hA hP hD hS hl
  generalize hQ : MQ below (zQi (dC, dI) [(cI, .int), (cB, .byte)] A ov (kX5 cI cB aR (aT 0) (aS 0) oR' ++ kX6 cI cB aT oT ++ kX4 cI cB aS oS')) _ s 0 0 A = QQ
  generalize ([.ref (aR 0)] : List Value).toArray = args at C hQ ⊢
  have hl : lv_has ls 1 [(0, .ref (aR 0))] := hl
  unfold fX5_meetClosing at hf
  refine lv_aload_n C.1.1 C.1.2.1 dX5_meetClosing_0 rfl (lv_at hl 0 rfl) ?_
  refine zGet (.ref (aT 0)) C.1 wuX5 hK hP 0 rfl rfl 0 (by decide) wfX5_12 rfl rfl dX5_meetClosing_1 ?_
  refine zGet (.int (oT 4 0)) C.1 wuX6 hK hP 3 rfl rfl 4 (by decide) wfX5_57 rfl rfl dX5_meetClosing_4 ?_
  refine lv_bipush (v := 41) C.1.1 C.1.2.1 dX5_meetClosing_7 (by decide) ?_
  refine lv_icmp_eq (tgt := 14) C.1.1 C.1.2.1 dX5_meetClosing_9 (by decide) (fun hc => ?_) (fun hc => ?_)
  · replace hf := zIf_t hf hc
    refine lv_aload_n C.1.1 C.1.2.1 dX5_meetClosing_14 rfl (lv_at hl 0 rfl) ?_
    refine lv_dup C.1.1 C.1.2.1 dX5_meetClosing_15 rfl ?_
    refine zGet (.int (oR 7 0)) C.1 wuX5 hK hP 0 rfl rfl 7 (by decide) wfX5_41 rfl rfl dX5_meetClosing_16 ?_
    refine lv_iconst (v := 1) C.1.1 C.1.2.1 dX5_meetClosing_19 (by decide) ?_
    refine lv_isub C.1.1 C.1.2.1 dX5_meetClosing_20 ?_
    obtain ⟨oR_1, eoR_1, hf⟩ := zLet_el hf
    refine zPut (ty := .int) (kX5 cI cB aR (aT 0) (aS 0) oR_1 ++ kX6 cI cB aT oT ++ kX4 cI cB aS oS) C.1 wuX5 tyX5 tyX5_ok nmX5 hK hP hD hS 0 rfl rfl 7 (by decide) wfX5_41 rfl rfl (by decide +kernel) rfl rfl (Nat.le_of_ble_eq_true rfl) dX5_meetClosing_21 (by rw [eoR_1]; rfl) (fun H locs hP hD hS => ?_)
    refine lv_aload_n C.1.1 C.1.2.1 dX5_meetClosing_24 rfl (lv_at hl 0 rfl) ?_
    obtain ⟨oR_2, oS_3, hg, hf⟩ := zB2_el hf
    refine zCVv (As := []) (rest := []) (wr := (kX6 cI cB aT oT)) (wn := (kX5 cI cB aR (aT 0) (aS 0) oR_2 ++ kX6 cI cB aT oT ++ kX4 cI cB aS oS_3)) C.1 hK hA hP hD hS [0, 1, 2, 5, 6, 7, 8, 9, 10, 11, 12, 13, 14] [3, 4] [2, 3, 4, 0, 1, 5, 6, 7, 8, 9, 10, 11, 12, 13, 14] 0 (mtX5_endPart l dC dI cI cB aR aT aS H.size NN oR_1 oS hg) (zCwV 0 C.1 wlX5_159 wiX5_endPart ws_X5_endPart wnX5 wkX5_endPart rfl rfl (by decide +kernel) ⟨Nat.le_of_ble_eq_true rfl, Nat.le_of_ble_eq_true rfl⟩) rfl rfl (by decide +kernel) rfl rfl rfl rfl hl.1 (Nat.le_of_ble_eq_true rfl) dX5_meetClosing_25 ⟨Nat.zero_le _, Nat.zero_le _⟩ rfl (fun H locs hP hD hS => ?_)
    refine lv_iconst (v := 0) C.1.1 C.1.2.1 dX5_meetClosing_28 (by decide) ?_
    cases hf
    rw [← hQ]
    exact zRi C hK hP hD hS dX5_meetClosing_29
  · replace hf := zIf_f hf hc
    refine lv_iconst (v := 1) C.1.1 C.1.2.1 dX5_meetClosing_12 (by decide) ?_
    cases hf
    rw [← hQ]
    exact zRi C hK hP hD hS dX5_meetClosing_13
def fX5_meetBehindPart (NN : Nat) (oR : Rc) (oT : Rc) (oS : Rc) : Option (Int32 × Rc × Rc) :=
  zB1 (fX6_isSign oT) fun v1 =>
  if v1 = 0 then (
    if (oR 7 0) ≤ 0 then (
      zJn (fun (_ : Unit) =>
          zB1 (fX4_addLine oS (oR 5 0) (oR 6 0)) fun oS_3 =>
          zJn (fun (t4 : Int32) =>
              zLet (rs oR 4 (fun _ => t4)) fun oR_6 =>
              some ((0 : Int32), oR_6, oS_3)
            ) fun J86_5 =>
          if (oT 4 0) = (59 : Int32) then (
            J86_5 (3 : Int32)
          ) else (
            J86_5 (0 : Int32)
          )
        ) fun J53_2 =>
      if (oT 4 0) = (59 : Int32) then (
        J53_2 ()
      ) else (
        if (oT 4 0) = (125 : Int32) then (
          J53_2 ()
        ) else (
          some ((1 : Int32), oR, oS)
        )
      )
    ) else (
      zB3 (fX5_meetClosing NN oR oT oS) fun v7 oR_8 oS_9 =>
      some (v7, oR_8, oS_9)
    )
  ) else (
    zB3 (fX5_meetSign oR oT oS) fun v10 oR_11 oS_12 =>
    some (v10, oR_11, oS_12)
  )
abbrev rX5_meetBehindPart : Room := { frames := 3, cells := 0, slots := 0, locals := 63 }
set_option maxHeartbeats 4000000 in
set_option maxRecDepth 100000 in
theorem mtX5_meetBehindPart (l : Launch) (dC : Nat → ClassId) (dI : Nat → Nat → Nat) (cI cB : ClassId) (aR aT aS : Nat → Nat) (sz : Nat) (NN : Nat) (oR : Rc) (oT : Rc) (oS : Rc) {ov : Int32} {oR' : Rc} {oS' : Rc} (hf : fX5_meetBehindPart NN oR oT oS = some (ov, oR', oS')) : zMi l yX5_meetBehindPart (Cond.code yX5_meetBehindPart cX5_meetBehindPart 1 (some .int) :: lw_g) rX5_meetBehindPart (dC, dI) [(cI, .int), (cB, .byte)] [.ref (aR 0)] sz (kX5 cI cB aR (aT 0) (aS 0) oR ++ kX6 cI cB aT oT ++ kX4 cI cB aS oS) ov (kX5 cI cB aR (aT 0) (aS 0) oR' ++ kX6 cI cB aT oT ++ kX4 cI cB aS oS') := by
  refine zSt (cc := cX5_meetBehindPart) (maxL := 1) (ret := (some .int)) (own := RX5) (fun A => zQi (dC, dI) [(cI, .int), (cB, .byte)] A ov (kX5 cI cB aR (aT 0) (aS 0) oR' ++ kX6 cI cB aT oT ++ kX4 cI cB aS oS')) (by decide) rfl rfl (Nat.le_of_ble_eq_true rfl) ?_
  intro p e s m below meth c ls A H locs C hK hA hP hD hS hl
  generalize hQ : MQ below (zQi (dC, dI) [(cI, .int), (cB, .byte)] A ov (kX5 cI cB aR (aT 0) (aS 0) oR' ++ kX6 cI cB aT oT ++ kX4 cI cB aS oS')) _ s 0 0 A = QQ
  generalize ([.ref (aR 0)] : List Value).toArray = args at C hQ ⊢
  have hl : lv_has ls 1 [(0, .ref (aR 0))] := hl
  unfold fX5_meetBehindPart at hf
  refine lv_aload_n C.1.1 C.1.2.1 dX5_meetBehindPart_0 rfl (lv_at hl 0 rfl) ?_
  refine zGet (.ref (aT 0)) C.1 wuX5 hK hP 0 rfl rfl 0 (by decide) wfX5_12 rfl rfl dX5_meetBehindPart_1 ?_
  obtain ⟨v1, hg, hf⟩ := zB1_el hf
  refine zCVi (As := []) (rest := []) (wr := (kX5 cI cB aR (aT 0) (aS 0) oR ++ kX4 cI cB aS oS)) (wn := (kX5 cI cB aR (aT 0) (aS 0) oR ++ kX6 cI cB aT oT ++ kX4 cI cB aS oS)) C.1 hK hA hP hD hS [3, 4] [0, 1, 2, 5, 6, 7, 8, 9, 10, 11, 12, 13, 14] [0, 1, 2, 13, 14, 3, 4, 5, 6, 7, 8, 9, 10, 11, 12] 0 (mtX6_isSign l dC dI cI cB aT H.size oT hg) (zCwV 0 C.1 wlX5_162 wiX6_isSign ws_X6_isSign wnX6 wkX6_isSign rfl rfl (by decide +kernel) ⟨Nat.le_of_ble_eq_true rfl, Nat.le_of_ble_eq_true rfl⟩) rfl rfl (by decide +kernel) rfl rfl rfl rfl hl.1 (Nat.le_of_ble_eq_true rfl) dX5_meetBehindPart_4 ⟨Nat.zero_le _, Nat.zero_le _⟩ rfl (fun H locs hP hD hS => ?_)
  refine lv_if_eq (tgt := 15) C.1.1 C.1.2.1 dX5_meetBehindPart_7 (by decide) (fun hc => ?_) (fun hc => ?_)
  · replace hf := zIf_t hf hc
    refine lv_aload_n C.1.1 C.1.2.1 dX5_meetBehindPart_15 rfl (lv_at hl 0 rfl) ?_
    refine zGet (.int (oR 7 0)) C.1 wuX5 hK hP 0 rfl rfl 7 (by decide) wfX5_41 rfl rfl dX5_meetBehindPart_16 ?_
    refine lv_if_le (tgt := 27) C.1.1 C.1.2.1 dX5_meetBehindPart_19 (by decide) (fun hc => ?_) (fun hc => ?_)
    · replace hf := zIf_t hf hc
      refine lv_aload_n C.1.1 C.1.2.1 dX5_meetBehindPart_27 rfl (lv_at hl 0 rfl) ?_
      refine zGet (.ref (aT 0)) C.1 wuX5 hK hP 0 rfl rfl 0 (by decide) wfX5_12 rfl rfl dX5_meetBehindPart_28 ?_
      refine zGet (.int (oT 4 0)) C.1 wuX6 hK hP 3 rfl rfl 4 (by decide) wfX5_57 rfl rfl dX5_meetBehindPart_31 ?_
      refine lv_bipush (v := 59) C.1.1 C.1.2.1 dX5_meetBehindPart_34 (by decide) ?_
      obtain ⟨J53_2, eJ53_2, hf⟩ := zJn_el hf
      have hJ53_2 : ∀ (u : Unit), J53_2 u = some (ov, oR', oS') → ∀ (H : Heap) (locs : List Loc), va_P (dC, dI) vwCl (kX5 cI cB aR (aT 0) (aS 0) oR ++ kX6 cI cB aT oT ++ kX4 cI cB aS oS) H → va_D A (kX5 cI cB aR (aT 0) (aS 0) oR ++ kX6 cI cB aT oT ++ kX4 cI cB aS oS) → va_S A s.heap H locs → ∀ (ls : Array Slot), lv_has ls 1 [(0, .ref (aR 0))] → W p l e rX5_meetBehindPart s m args below meth c H locs 0 0 QQ (F0 m 53 ls []) := by
        intro u hf H locs hP hD hS ls hl
        rw [eJ53_2] at hf
        refine lv_aload_n C.1.1 C.1.2.1 dX5_meetBehindPart_53 rfl (lv_at hl 0 rfl) ?_
        refine zGet (.ref (aS 0)) C.1 wuX5 hK hP 0 rfl rfl 1 (by decide) wfX5_21 rfl rfl dX5_meetBehindPart_54 ?_
        refine lv_aload_n C.1.1 C.1.2.1 dX5_meetBehindPart_57 rfl (lv_at hl 0 rfl) ?_
        refine zGet (.int (oR 5 0)) C.1 wuX5 hK hP 0 rfl rfl 5 (by decide) wfX5_35 rfl rfl dX5_meetBehindPart_58 ?_
        refine lv_aload_n C.1.1 C.1.2.1 dX5_meetBehindPart_61 rfl (lv_at hl 0 rfl) ?_
        refine zGet (.int (oR 6 0)) C.1 wuX5 hK hP 0 rfl rfl 6 (by decide) wfX5_38 rfl rfl dX5_meetBehindPart_62 ?_
        obtain ⟨oS_3, hg, hf⟩ := zB1_el hf
        refine zCVv (As := [.int (oR 5 0), .int (oR 6 0)]) (rest := []) (wr := (kX5 cI cB aR (aT 0) (aS 0) oR ++ kX6 cI cB aT oT)) (wn := (kX5 cI cB aR (aT 0) (aS 0) oR ++ kX6 cI cB aT oT ++ kX4 cI cB aS oS_3)) C.1 hK hA hP hD hS [5, 6, 7, 8, 9, 10, 11, 12, 13, 14] [0, 1, 2, 3, 4] [0, 1, 2, 3, 4, 5, 6, 7, 8, 9, 10, 11, 12, 13, 14] 0 (mtX4_addLine l dC dI cI cB aS H.size oS (oR 5 0) (oR 6 0) hg) (zCwV 2 C.1 wlX5_171 wiX4_addLine ws_X4_addLine wnX4 wkX4_addLine rfl rfl (by decide +kernel) ⟨Nat.le_of_ble_eq_true rfl, Nat.le_of_ble_eq_true rfl⟩) rfl rfl (by decide +kernel) rfl rfl rfl rfl hl.1 (Nat.le_of_ble_eq_true rfl) dX5_meetBehindPart_65 ⟨Nat.zero_le _, Nat.zero_le _⟩ rfl (fun H locs hP hD hS => ?_)
        refine lv_aload_n C.1.1 C.1.2.1 dX5_meetBehindPart_68 rfl (lv_at hl 0 rfl) ?_
        refine lv_aload_n C.1.1 C.1.2.1 dX5_meetBehindPart_69 rfl (lv_at hl 0 rfl) ?_
        refine zGet (.ref (aT 0)) C.1 wuX5 hK hP 0 rfl rfl 0 (by decide) wfX5_12 rfl rfl dX5_meetBehindPart_70 ?_
        refine zGet (.int (oT 4 0)) C.1 wuX6 hK hP 3 rfl rfl 4 (by decide) wfX5_57 rfl rfl dX5_meetBehindPart_73 ?_
        refine lv_bipush (v := 59) C.1.1 C.1.2.1 dX5_meetBehindPart_76 (by decide) ?_
        obtain ⟨J86_5, eJ86_5, hf⟩ := zJn_el hf
        have hJ86_5 : ∀ (t4 : Int32), J86_5 t4 = some (ov, oR', oS') → ∀ (H : Heap) (locs : List Loc), va_P (dC, dI) vwCl (kX5 cI cB aR (aT 0) (aS 0) oR ++ kX6 cI cB aT oT ++ kX4 cI cB aS oS_3) H → va_D A (kX5 cI cB aR (aT 0) (aS 0) oR ++ kX6 cI cB aT oT ++ kX4 cI cB aS oS_3) → va_S A s.heap H locs → ∀ (ls : Array Slot), lv_has ls 1 [] → W p l e rX5_meetBehindPart s m args below meth c H locs 0 0 QQ (F0 m 86 ls [.int t4, .ref (aR 0)]) := by
          intro t4 hf H locs hP hD hS ls hl
          rw [eJ86_5] at hf
          obtain ⟨oR_6, eoR_6, hf⟩ := zLet_el hf
          refine zPut (ty := .int) (kX5 cI cB aR (aT 0) (aS 0) oR_6 ++ kX6 cI cB aT oT ++ kX4 cI cB aS oS_3) C.1 wuX5 tyX5 tyX5_ok nmX5 hK hP hD hS 0 rfl rfl 4 (by decide) wfX5_32 rfl rfl (by decide +kernel) rfl rfl (Nat.le_of_ble_eq_true rfl) dX5_meetBehindPart_86 (by rw [eoR_6]; rfl) (fun H locs hP hD hS => ?_)
          refine lv_iconst (v := 0) C.1.1 C.1.2.1 dX5_meetBehindPart_89 (by decide) ?_
          cases hf
          rw [← hQ]
          exact zRi C hK hP hD hS dX5_meetBehindPart_90
        refine lv_icmp_ne (tgt := 85) C.1.1 C.1.2.1 dX5_meetBehindPart_78 (by decide) (fun hc => ?_) (fun hc => ?_)
        · replace hf := zIf_f hf hc
          refine lv_iconst (v := 0) C.1.1 C.1.2.1 dX5_meetBehindPart_85 (by decide) ?_
          exact hJ86_5 (0 : Int32) hf H locs hP hD hS ls (lv_sub hl [] rfl)
        · replace hf := zIf_t hf hc
          refine lv_iconst (v := 3) C.1.1 C.1.2.1 dX5_meetBehindPart_81 (by decide) ?_
          refine lv_goto (tgt := 86) C.1.1 C.1.2.1 dX5_meetBehindPart_82 (by decide) ?_
          exact hJ86_5 (3 : Int32) hf H locs hP hD hS ls (lv_sub hl [] rfl)
      refine lv_icmp_eq (tgt := 53) C.1.1 C.1.2.1 dX5_meetBehindPart_36 (by decide) (fun hc => ?_) (fun hc => ?_)
      · replace hf := zIf_t hf hc
        exact hJ53_2 () hf H locs hP hD hS ls (lv_sub hl [0] rfl)
      · replace hf := zIf_f hf hc
        refine lv_aload_n C.1.1 C.1.2.1 dX5_meetBehindPart_39 rfl (lv_at hl 0 rfl) ?_
        refine zGet (.ref (aT 0)) C.1 wuX5 hK hP 0 rfl rfl 0 (by decide) wfX5_12 rfl rfl dX5_meetBehindPart_40 ?_
        refine zGet (.int (oT 4 0)) C.1 wuX6 hK hP 3 rfl rfl 4 (by decide) wfX5_57 rfl rfl dX5_meetBehindPart_43 ?_
        refine lv_bipush (v := 125) C.1.1 C.1.2.1 dX5_meetBehindPart_46 (by decide) ?_
        refine lv_icmp_eq (tgt := 53) C.1.1 C.1.2.1 dX5_meetBehindPart_48 (by decide) (fun hc => ?_) (fun hc => ?_)
        · replace hf := zIf_t hf hc
          exact hJ53_2 () hf H locs hP hD hS ls (lv_sub hl [0] rfl)
        · replace hf := zIf_f hf hc
          refine lv_iconst (v := 1) C.1.1 C.1.2.1 dX5_meetBehindPart_51 (by decide) ?_
          cases hf
          rw [← hQ]
          exact zRi C hK hP hD hS dX5_meetBehindPart_52
    · replace hf := zIf_f hf hc
      refine lv_aload_n C.1.1 C.1.2.1 dX5_meetBehindPart_22 rfl (lv_at hl 0 rfl) ?_
      obtain ⟨v7, oR_8, oS_9, hg, hf⟩ := zB3_el hf
      refine zCVi (As := []) (rest := []) (wr := ([] : va_W)) (wn := (kX5 cI cB aR (aT 0) (aS 0) oR_8 ++ kX6 cI cB aT oT ++ kX4 cI cB aS oS_9)) C.1 hK hA hP hD hS [0, 1, 2, 3, 4, 5, 6, 7, 8, 9, 10, 11, 12, 13, 14] [] [0, 1, 2, 3, 4, 5, 6, 7, 8, 9, 10, 11, 12, 13, 14] 0 (mtX5_meetClosing l dC dI cI cB aR aT aS H.size NN oR oT oS hg) (zCwV 0 C.1 wlX5_168 wiX5_meetClosing ws_X5_meetClosing wnX5 wkX5_meetClosing rfl rfl (by decide +kernel) ⟨Nat.le_of_ble_eq_true rfl, Nat.le_of_ble_eq_true rfl⟩) rfl rfl (by decide +kernel) rfl rfl rfl rfl hl.1 (Nat.le_of_ble_eq_true rfl) dX5_meetBehindPart_23 ⟨Nat.zero_le _, Nat.zero_le _⟩ rfl (fun H locs hP hD hS => ?_)
      cases hf
      rw [← hQ]
      exact zRi C hK hP hD hS dX5_meetBehindPart_26
  · replace hf := zIf_f hf hc
    refine lv_aload_n C.1.1 C.1.2.1 dX5_meetBehindPart_10 rfl (lv_at hl 0 rfl) ?_
    obtain ⟨v10, oR_11, oS_12, hg, hf⟩ := zB3_el hf
    refine zCVi (As := []) (rest := []) (wr := ([] : va_W)) (wn := (kX5 cI cB aR (aT 0) (aS 0) oR_11 ++ kX6 cI cB aT oT ++ kX4 cI cB aS oS_12)) C.1 hK hA hP hD hS [0, 1, 2, 3, 4, 5, 6, 7, 8, 9, 10, 11, 12, 13, 14] [] [0, 1, 2, 3, 4, 5, 6, 7, 8, 9, 10, 11, 12, 13, 14] 0 (mtX5_meetSign l dC dI cI cB aR aT aS H.size oR oT oS hg) (zCwV 0 C.1 wlX5_165 wiX5_meetSign ws_X5_meetSign wnX5 wkX5_meetSign rfl rfl (by decide +kernel) ⟨Nat.le_of_ble_eq_true rfl, Nat.le_of_ble_eq_true rfl⟩) rfl rfl (by decide +kernel) rfl rfl rfl rfl hl.1 (Nat.le_of_ble_eq_true rfl) dX5_meetBehindPart_11 ⟨Nat.zero_le _, Nat.zero_le _⟩ rfl (fun H locs hP hD hS => ?_)
    cases hf
    rw [← hQ]
    exact zRi C hK hP hD hS dX5_meetBehindPart_14
def fX5_meet (NN : Nat) (oR : Rc) (oT : Rc) (oS : Rc) : Option (Int32 × Rc × Rc) :=
  zLet (oR 4 0) fun x1 =>
  if x1 = 0 then (
    zB3 (fX5_meetBlockName NN oR oT oS) fun v3 oR_4 oS_5 =>
    some (v3, oR_4, oS_5)
  ) else (
    if x1 = 1 then (
      zB3 (fX5_meetTimes oR oT oS) fun v7 oR_8 oS_9 =>
      some (v7, oR_8, oS_9)
    ) else (
      if x1 = 2 then (
        zB2 (fX5_meetSingle oR oT (123 : Int32) (3 : Int32)) fun v11 oR_12 =>
        some (v11, oR_12, oS)
      ) else (
        if x1 = 3 then (
          zB3 (fX5_meetLine oR oT oS) fun v14 oR_15 oS_16 =>
          some (v14, oR_15, oS_16)
        ) else (
          if x1 = 4 then (
            zB2 (fX5_meetIfName oR oT) fun v18 oR_19 =>
            some (v18, oR_19, oS)
          ) else (
            if x1 = 5 then (
              zB2 (fX5_meetLineName oR oT) fun v21 oR_22 =>
              some (v21, oR_22, oS)
            ) else (
              if x1 = 6 then (
                zB2 (fX5_meetEquals oR oT) fun v24 oR_25 =>
                some (v24, oR_25, oS)
              ) else (
                if x1 = 7 then (
                  zB3 (fX5_meetPart NN oR oT oS) fun v27 oR_28 oS_29 =>
                  some (v27, oR_28, oS_29)
                ) else (
                  zB3 (fX5_meetBehindPart NN oR oT oS) fun v30 oR_31 oS_32 =>
                  some (v30, oR_31, oS_32)
                )
              )
            )
          )
        )
      )
    )
  )
abbrev rX5_meet : Room := { frames := 4, cells := 0, slots := 0, locals := 86 }
set_option maxHeartbeats 4000000 in
set_option maxRecDepth 100000 in
theorem mtX5_meet (l : Launch) (dC : Nat → ClassId) (dI : Nat → Nat → Nat) (cI cB : ClassId) (aR aT aS : Nat → Nat) (sz : Nat) (NN : Nat) (oR : Rc) (oT : Rc) (oS : Rc) {ov : Int32} {oR' : Rc} {oS' : Rc} (hf : fX5_meet NN oR oT oS = some (ov, oR', oS')) : zMi l yX5_meet (Cond.code yX5_meet cX5_meet 1 (some .int) :: lw_g) rX5_meet (dC, dI) [(cI, .int), (cB, .byte)] [.ref (aR 0)] sz (kX5 cI cB aR (aT 0) (aS 0) oR ++ kX6 cI cB aT oT ++ kX4 cI cB aS oS) ov (kX5 cI cB aR (aT 0) (aS 0) oR' ++ kX6 cI cB aT oT ++ kX4 cI cB aS oS') := by
  refine zSt (cc := cX5_meet) (maxL := 1) (ret := (some .int)) (own := RX5) (fun A => zQi (dC, dI) [(cI, .int), (cB, .byte)] A ov (kX5 cI cB aR (aT 0) (aS 0) oR' ++ kX6 cI cB aT oT ++ kX4 cI cB aS oS')) (by decide) rfl rfl (Nat.le_of_ble_eq_true rfl) ?_
  intro p e s m below meth c ls A H locs C hK hA hP hD hS hl
  generalize hQ : MQ below (zQi (dC, dI) [(cI, .int), (cB, .byte)] A ov (kX5 cI cB aR (aT 0) (aS 0) oR' ++ kX6 cI cB aT oT ++ kX4 cI cB aS oS')) _ s 0 0 A = QQ
  generalize ([.ref (aR 0)] : List Value).toArray = args at C hQ ⊢
  have hl : lv_has ls 1 [(0, .ref (aR 0))] := hl
  unfold fX5_meet at hf
  refine lv_aload_n C.1.1 C.1.2.1 dX5_meet_0 rfl (lv_at hl 0 rfl) ?_
  refine zGet (.int (oR 4 0)) C.1 wuX5 hK hP 0 rfl rfl 4 (by decide) wfX5_32 rfl rfl dX5_meet_1 ?_
  refine lv_topi (fun x1 ex1 => ?_)
  replace hf := zLet_at hf ex1
  rcases Classical.em (x1 = 0) with hk2 | hk2
  · replace hf := zIf_t hf hk2
    refine lv_tableIn (off := 48) (tgt := 52) C.1.1 C.1.2.1 dX5_meet_4 (by rw [hk2] <;> decide +kernel) (by rw [hk2] <;> decide +kernel) (by rw [hk2] <;> decide +kernel) (by decide) ?_
    refine lv_aload_n C.1.1 C.1.2.1 dX5_meet_52 rfl (lv_at hl 0 rfl) ?_
    obtain ⟨v3, oR_4, oS_5, hg, hf⟩ := zB3_el hf
    refine zCVi (As := []) (rest := []) (wr := ([] : va_W)) (wn := (kX5 cI cB aR (aT 0) (aS 0) oR_4 ++ kX6 cI cB aT oT ++ kX4 cI cB aS oS_5)) C.1 hK hA hP hD hS [0, 1, 2, 3, 4, 5, 6, 7, 8, 9, 10, 11, 12, 13, 14] [] [0, 1, 2, 3, 4, 5, 6, 7, 8, 9, 10, 11, 12, 13, 14] 0 (mtX5_meetBlockName l dC dI cI cB aR aT aS H.size NN oR oT oS hg) (zCwV 0 C.1 wlX5_76 wiX5_meetBlockName ws_X5_meetBlockName wnX5 wkX5_meetBlockName rfl rfl (by decide +kernel) ⟨Nat.le_of_ble_eq_true rfl, Nat.le_of_ble_eq_true rfl⟩) rfl rfl (by decide +kernel) rfl rfl rfl rfl hl.1 (Nat.le_of_ble_eq_true rfl) dX5_meet_53 ⟨Nat.zero_le _, Nat.zero_le _⟩ rfl (fun H locs hP hD hS => ?_)
    cases hf
    rw [← hQ]
    exact zRi C hK hP hD hS dX5_meet_56
  · replace hf := zIf_f hf hk2
    rcases Classical.em (x1 = 1) with hk6 | hk6
    · replace hf := zIf_t hf hk6
      refine lv_tableIn (off := 53) (tgt := 57) C.1.1 C.1.2.1 dX5_meet_4 (by rw [hk6] <;> decide +kernel) (by rw [hk6] <;> decide +kernel) (by rw [hk6] <;> decide +kernel) (by decide) ?_
      refine lv_aload_n C.1.1 C.1.2.1 dX5_meet_57 rfl (lv_at hl 0 rfl) ?_
      obtain ⟨v7, oR_8, oS_9, hg, hf⟩ := zB3_el hf
      refine zCVi (As := []) (rest := []) (wr := ([] : va_W)) (wn := (kX5 cI cB aR (aT 0) (aS 0) oR_8 ++ kX6 cI cB aT oT ++ kX4 cI cB aS oS_9)) C.1 hK hA hP hD hS [0, 1, 2, 3, 4, 5, 6, 7, 8, 9, 10, 11, 12, 13, 14] [] [0, 1, 2, 3, 4, 5, 6, 7, 8, 9, 10, 11, 12, 13, 14] 0 (mtX5_meetTimes l dC dI cI cB aR aT aS H.size oR oT oS hg) (zCwV 0 C.1 wlX5_79 wiX5_meetTimes ws_X5_meetTimes wnX5 wkX5_meetTimes rfl rfl (by decide +kernel) ⟨Nat.le_of_ble_eq_true rfl, Nat.le_of_ble_eq_true rfl⟩) rfl rfl (by decide +kernel) rfl rfl rfl rfl hl.1 (Nat.le_of_ble_eq_true rfl) dX5_meet_58 ⟨Nat.zero_le _, Nat.zero_le _⟩ rfl (fun H locs hP hD hS => ?_)
      cases hf
      rw [← hQ]
      exact zRi C hK hP hD hS dX5_meet_61
    · replace hf := zIf_f hf hk6
      rcases Classical.em (x1 = 2) with hk10 | hk10
      · replace hf := zIf_t hf hk10
        refine lv_tableIn (off := 58) (tgt := 62) C.1.1 C.1.2.1 dX5_meet_4 (by rw [hk10] <;> decide +kernel) (by rw [hk10] <;> decide +kernel) (by rw [hk10] <;> decide +kernel) (by decide) ?_
        refine lv_aload_n C.1.1 C.1.2.1 dX5_meet_62 rfl (lv_at hl 0 rfl) ?_
        refine lv_bipush (v := 123) C.1.1 C.1.2.1 dX5_meet_63 (by decide) ?_
        refine lv_iconst (v := 3) C.1.1 C.1.2.1 dX5_meet_65 (by decide) ?_
        obtain ⟨v11, oR_12, hg, hf⟩ := zB2_el hf
        refine zCVi (As := [.int (123 : Int32), .int (3 : Int32)]) (rest := []) (wr := (kX4 cI cB aS oS)) (wn := (kX5 cI cB aR (aT 0) (aS 0) oR_12 ++ kX6 cI cB aT oT ++ kX4 cI cB aS oS)) C.1 hK hA hP hD hS [0, 1, 2, 3, 4] [5, 6, 7, 8, 9, 10, 11, 12, 13, 14] [10, 11, 12, 13, 14, 0, 1, 2, 3, 4, 5, 6, 7, 8, 9] 0 (mtX5_meetSingle l dC dI cI cB aR aT aS H.size oR oT (123 : Int32) (3 : Int32) hg) (zCwV 2 C.1 wlX5_82 wiX5_meetSingle ws_X5_meetSingle wnX5 wkX5_meetSingle rfl rfl (by decide +kernel) ⟨Nat.le_of_ble_eq_true rfl, Nat.le_of_ble_eq_true rfl⟩) rfl rfl (by decide +kernel) rfl rfl rfl rfl hl.1 (Nat.le_of_ble_eq_true rfl) dX5_meet_66 ⟨Nat.zero_le _, Nat.zero_le _⟩ rfl (fun H locs hP hD hS => ?_)
        cases hf
        rw [← hQ]
        exact zRi C hK hP hD hS dX5_meet_69
      · replace hf := zIf_f hf hk10
        rcases Classical.em (x1 = 3) with hk13 | hk13
        · replace hf := zIf_t hf hk13
          refine lv_tableIn (off := 66) (tgt := 70) C.1.1 C.1.2.1 dX5_meet_4 (by rw [hk13] <;> decide +kernel) (by rw [hk13] <;> decide +kernel) (by rw [hk13] <;> decide +kernel) (by decide) ?_
          refine lv_aload_n C.1.1 C.1.2.1 dX5_meet_70 rfl (lv_at hl 0 rfl) ?_
          obtain ⟨v14, oR_15, oS_16, hg, hf⟩ := zB3_el hf
          refine zCVi (As := []) (rest := []) (wr := ([] : va_W)) (wn := (kX5 cI cB aR (aT 0) (aS 0) oR_15 ++ kX6 cI cB aT oT ++ kX4 cI cB aS oS_16)) C.1 hK hA hP hD hS [0, 1, 2, 3, 4, 5, 6, 7, 8, 9, 10, 11, 12, 13, 14] [] [0, 1, 2, 3, 4, 5, 6, 7, 8, 9, 10, 11, 12, 13, 14] 0 (mtX5_meetLine l dC dI cI cB aR aT aS H.size oR oT oS hg) (zCwV 0 C.1 wlX5_86 wiX5_meetLine ws_X5_meetLine wnX5 wkX5_meetLine rfl rfl (by decide +kernel) ⟨Nat.le_of_ble_eq_true rfl, Nat.le_of_ble_eq_true rfl⟩) rfl rfl (by decide +kernel) rfl rfl rfl rfl hl.1 (Nat.le_of_ble_eq_true rfl) dX5_meet_71 ⟨Nat.zero_le _, Nat.zero_le _⟩ rfl (fun H locs hP hD hS => ?_)
          cases hf
          rw [← hQ]
          exact zRi C hK hP hD hS dX5_meet_74
        · replace hf := zIf_f hf hk13
          rcases Classical.em (x1 = 4) with hk17 | hk17
          · replace hf := zIf_t hf hk17
            refine lv_tableIn (off := 71) (tgt := 75) C.1.1 C.1.2.1 dX5_meet_4 (by rw [hk17] <;> decide +kernel) (by rw [hk17] <;> decide +kernel) (by rw [hk17] <;> decide +kernel) (by decide) ?_
            refine lv_aload_n C.1.1 C.1.2.1 dX5_meet_75 rfl (lv_at hl 0 rfl) ?_
            obtain ⟨v18, oR_19, hg, hf⟩ := zB2_el hf
            refine zCVi (As := []) (rest := []) (wr := (kX4 cI cB aS oS)) (wn := (kX5 cI cB aR (aT 0) (aS 0) oR_19 ++ kX6 cI cB aT oT ++ kX4 cI cB aS oS)) C.1 hK hA hP hD hS [0, 1, 2, 3, 4] [5, 6, 7, 8, 9, 10, 11, 12, 13, 14] [10, 11, 12, 13, 14, 0, 1, 2, 3, 4, 5, 6, 7, 8, 9] 0 (mtX5_meetIfName l dC dI cI cB aR aT aS H.size oR oT hg) (zCwV 0 C.1 wlX5_89 wiX5_meetIfName ws_X5_meetIfName wnX5 wkX5_meetIfName rfl rfl (by decide +kernel) ⟨Nat.le_of_ble_eq_true rfl, Nat.le_of_ble_eq_true rfl⟩) rfl rfl (by decide +kernel) rfl rfl rfl rfl hl.1 (Nat.le_of_ble_eq_true rfl) dX5_meet_76 ⟨Nat.zero_le _, Nat.zero_le _⟩ rfl (fun H locs hP hD hS => ?_)
            cases hf
            rw [← hQ]
            exact zRi C hK hP hD hS dX5_meet_79
          · replace hf := zIf_f hf hk17
            rcases Classical.em (x1 = 5) with hk20 | hk20
            · replace hf := zIf_t hf hk20
              refine lv_tableIn (off := 76) (tgt := 80) C.1.1 C.1.2.1 dX5_meet_4 (by rw [hk20] <;> decide +kernel) (by rw [hk20] <;> decide +kernel) (by rw [hk20] <;> decide +kernel) (by decide) ?_
              refine lv_aload_n C.1.1 C.1.2.1 dX5_meet_80 rfl (lv_at hl 0 rfl) ?_
              obtain ⟨v21, oR_22, hg, hf⟩ := zB2_el hf
              refine zCVi (As := []) (rest := []) (wr := (kX4 cI cB aS oS)) (wn := (kX5 cI cB aR (aT 0) (aS 0) oR_22 ++ kX6 cI cB aT oT ++ kX4 cI cB aS oS)) C.1 hK hA hP hD hS [0, 1, 2, 3, 4] [5, 6, 7, 8, 9, 10, 11, 12, 13, 14] [10, 11, 12, 13, 14, 0, 1, 2, 3, 4, 5, 6, 7, 8, 9] 0 (mtX5_meetLineName l dC dI cI cB aR aT aS H.size oR oT hg) (zCwV 0 C.1 wlX5_92 wiX5_meetLineName ws_X5_meetLineName wnX5 wkX5_meetLineName rfl rfl (by decide +kernel) ⟨Nat.le_of_ble_eq_true rfl, Nat.le_of_ble_eq_true rfl⟩) rfl rfl (by decide +kernel) rfl rfl rfl rfl hl.1 (Nat.le_of_ble_eq_true rfl) dX5_meet_81 ⟨Nat.zero_le _, Nat.zero_le _⟩ rfl (fun H locs hP hD hS => ?_)
              cases hf
              rw [← hQ]
              exact zRi C hK hP hD hS dX5_meet_84
            · replace hf := zIf_f hf hk20
              rcases Classical.em (x1 = 6) with hk23 | hk23
              · replace hf := zIf_t hf hk23
                refine lv_tableIn (off := 81) (tgt := 85) C.1.1 C.1.2.1 dX5_meet_4 (by rw [hk23] <;> decide +kernel) (by rw [hk23] <;> decide +kernel) (by rw [hk23] <;> decide +kernel) (by decide) ?_
                refine lv_aload_n C.1.1 C.1.2.1 dX5_meet_85 rfl (lv_at hl 0 rfl) ?_
                obtain ⟨v24, oR_25, hg, hf⟩ := zB2_el hf
                refine zCVi (As := []) (rest := []) (wr := (kX4 cI cB aS oS)) (wn := (kX5 cI cB aR (aT 0) (aS 0) oR_25 ++ kX6 cI cB aT oT ++ kX4 cI cB aS oS)) C.1 hK hA hP hD hS [0, 1, 2, 3, 4] [5, 6, 7, 8, 9, 10, 11, 12, 13, 14] [10, 11, 12, 13, 14, 0, 1, 2, 3, 4, 5, 6, 7, 8, 9] 0 (mtX5_meetEquals l dC dI cI cB aR aT aS H.size oR oT hg) (zCwV 0 C.1 wlX5_95 wiX5_meetEquals ws_X5_meetEquals wnX5 wkX5_meetEquals rfl rfl (by decide +kernel) ⟨Nat.le_of_ble_eq_true rfl, Nat.le_of_ble_eq_true rfl⟩) rfl rfl (by decide +kernel) rfl rfl rfl rfl hl.1 (Nat.le_of_ble_eq_true rfl) dX5_meet_86 ⟨Nat.zero_le _, Nat.zero_le _⟩ rfl (fun H locs hP hD hS => ?_)
                cases hf
                rw [← hQ]
                exact zRi C hK hP hD hS dX5_meet_89
              · replace hf := zIf_f hf hk23
                rcases Classical.em (x1 = 7) with hk26 | hk26
                · replace hf := zIf_t hf hk26
                  refine lv_tableIn (off := 86) (tgt := 90) C.1.1 C.1.2.1 dX5_meet_4 (by rw [hk26] <;> decide +kernel) (by rw [hk26] <;> decide +kernel) (by rw [hk26] <;> decide +kernel) (by decide) ?_
                  refine lv_aload_n C.1.1 C.1.2.1 dX5_meet_90 rfl (lv_at hl 0 rfl) ?_
                  obtain ⟨v27, oR_28, oS_29, hg, hf⟩ := zB3_el hf
                  refine zCVi (As := []) (rest := []) (wr := ([] : va_W)) (wn := (kX5 cI cB aR (aT 0) (aS 0) oR_28 ++ kX6 cI cB aT oT ++ kX4 cI cB aS oS_29)) C.1 hK hA hP hD hS [0, 1, 2, 3, 4, 5, 6, 7, 8, 9, 10, 11, 12, 13, 14] [] [0, 1, 2, 3, 4, 5, 6, 7, 8, 9, 10, 11, 12, 13, 14] 0 (mtX5_meetPart l dC dI cI cB aR aT aS H.size NN oR oT oS hg) (zCwV 0 C.1 wlX5_98 wiX5_meetPart ws_X5_meetPart wnX5 wkX5_meetPart rfl rfl (by decide +kernel) ⟨Nat.le_of_ble_eq_true rfl, Nat.le_of_ble_eq_true rfl⟩) rfl rfl (by decide +kernel) rfl rfl rfl rfl hl.1 (Nat.le_of_ble_eq_true rfl) dX5_meet_91 ⟨Nat.zero_le _, Nat.zero_le _⟩ rfl (fun H locs hP hD hS => ?_)
                  cases hf
                  rw [← hQ]
                  exact zRi C hK hP hD hS dX5_meet_94
                · replace hf := zIf_f hf hk26
                  have nhk2 := lv_neT hk2 (a := 0) (by decide)
                  have nhk6 := lv_neT hk6 (a := 1) (by decide)
                  have nhk10 := lv_neT hk10 (a := 2) (by decide)
                  have nhk13 := lv_neT hk13 (a := 3) (by decide)
                  have nhk17 := lv_neT hk17 (a := 4) (by decide)
                  have nhk20 := lv_neT hk20 (a := 5) (by decide)
                  have nhk23 := lv_neT hk23 (a := 6) (by decide)
                  have nhk26 := lv_neT hk26 (a := 7) (by decide)
                  refine lv_tableOut (tgt := 95) C.1.1 C.1.2.1 dX5_meet_4 (by omega) (by decide) ?_
                  refine lv_aload_n C.1.1 C.1.2.1 dX5_meet_95 rfl (lv_at hl 0 rfl) ?_
                  obtain ⟨v30, oR_31, oS_32, hg, hf⟩ := zB3_el hf
                  refine zCVi (As := []) (rest := []) (wr := ([] : va_W)) (wn := (kX5 cI cB aR (aT 0) (aS 0) oR_31 ++ kX6 cI cB aT oT ++ kX4 cI cB aS oS_32)) C.1 hK hA hP hD hS [0, 1, 2, 3, 4, 5, 6, 7, 8, 9, 10, 11, 12, 13, 14] [] [0, 1, 2, 3, 4, 5, 6, 7, 8, 9, 10, 11, 12, 13, 14] 0 (mtX5_meetBehindPart l dC dI cI cB aR aT aS H.size NN oR oT oS hg) (zCwV 0 C.1 wlX5_101 wiX5_meetBehindPart ws_X5_meetBehindPart wnX5 wkX5_meetBehindPart rfl rfl (by decide +kernel) ⟨Nat.le_of_ble_eq_true rfl, Nat.le_of_ble_eq_true rfl⟩) rfl rfl (by decide +kernel) rfl rfl rfl rfl hl.1 (Nat.le_of_ble_eq_true rfl) dX5_meet_96 ⟨Nat.zero_le _, Nat.zero_le _⟩ rfl (fun H locs hP hD hS => ?_)
                  cases hf
                  rw [← hQ]
                  exact zRi C hK hP hD hS dX5_meet_99
def fX5_read_L27 (NN : Nat) (J79_8 : Rc → Rc → Rc → Option (Int32 × Rc × Rc × Rc)) (n : Nat) (x15 : Int32) (oR_16 : Rc) (oT_17 : Rc) (oS_18 : Rc) : Option (Int32 × Rc × Rc × Rc) := zLp4 (fun (go19 : Int32 → Rc → Rc → Rc → Option (Int32 × Rc × Rc × Rc)) (x15 : Int32) (oR_16 : Rc) (oT_17 : Rc) (oS_18 : Rc) =>
    if (600 : Int32) ≤ x15 then (
      J79_8 oR_16 oT_17 oS_18
    ) else (
      if (oR_16 2 0) = 0 then (
        if (oT_17 4 0) = 0 then (
          J79_8 oR_16 oT_17 oS_18
        ) else (
          zB3 (fX5_meet NN oR_16 oT_17 oS_18) fun v20 oR_21 oS_22 =>
          zLet (rs oR_21 2 (fun _ => v20)) fun oR_23 =>
          if (oR_23 2 0) = 0 then (
            zB1 (fX6_step NN oT_17) fun oT_25 =>
            zLet (x15 + 1) fun x26 =>
            go19 x26 oR_23 oT_25 oS_22
          ) else (
            zLet (x15 + 1) fun x24 =>
            go19 x24 oR_23 oT_17 oS_22
          )
        )
      ) else (
        J79_8 oR_16 oT_17 oS_18
      )
    )
  ) n x15 oR_16 oT_17 oS_18
def fX5_read (NN : Nat) (oR : Rc) (oT : Rc) (oS : Rc) (p1 : Int32) : Option (Int32 × Rc × Rc × Rc) :=
  zLet (rs oR 2 (fun _ => (0 : Int32))) fun oR_1 =>
  zLet (rs oR_1 4 (fun _ => (0 : Int32))) fun oR_2 =>
  zB1 (fX4_forget oS) fun oS_3 =>
  zB1 (fX6_open NN oT p1) fun oT_4 =>
  zJn (fun (oR_5 : Rc) (oT_6 : Rc) (oS_7 : Rc) =>
      zJn (fun (oR_9 : Rc) =>
          zLet (rs oR_9 3 (fun _ => (oT_6 5 0))) fun oR_11 =>
          zB1 (fX6_clear oT_6) fun oT_12 =>
          if (oR_11 2 0) = 0 then (
            some ((1 : Int32), oR_11, oT_12, oS_7)
          ) else (
            some ((0 : Int32), oR_11, oT_12, oS_7)
          )
        ) fun J108_10 =>
      if (oR_5 2 0) = 0 then (
        zJn (fun (_ : Unit) =>
            zLet (rs oR_5 2 (fun _ => (1 : Int32))) fun oR_14 =>
            J108_10 oR_14
          ) fun J103_13 =>
        if (oR_5 4 0) = 0 then (
          if (oS_7 0 0) = 0 then (
            J103_13 ()
          ) else (
            J108_10 oR_5
          )
        ) else (
          J103_13 ()
        )
      ) else (
        J108_10 oR_5
      )
    ) fun J79_8 =>
  fX5_read_L27 NN J79_8 NN (0 : Int32) oR_2 oT_4 oS_3
abbrev rX5_read : Room := { frames := 5, cells := 0, slots := 0, locals := 106 }
set_option maxHeartbeats 4000000 in
set_option maxRecDepth 100000 in
theorem mtX5_read (l : Launch) (dC : Nat → ClassId) (dI : Nat → Nat → Nat) (cI cB : ClassId) (aR aT aS : Nat → Nat) (sz : Nat) (NN : Nat) (oR : Rc) (oT : Rc) (oS : Rc) (p1 : Int32) {ov : Int32} {oR' : Rc} {oT' : Rc} {oS' : Rc} (hf : fX5_read NN oR oT oS p1 = some (ov, oR', oT', oS')) : zMi l yX5_read (Cond.code yX5_read cX5_read 3 (some .boolean) :: lw_g) rX5_read (dC, dI) [(cI, .int), (cB, .byte)] [.ref (aR 0), .int p1] sz (kX5 cI cB aR (aT 0) (aS 0) oR ++ kX6 cI cB aT oT ++ kX4 cI cB aS oS) ov (kX5 cI cB aR (aT 0) (aS 0) oR' ++ kX6 cI cB aT oT' ++ kX4 cI cB aS oS') := by
  refine zSt (cc := cX5_read) (maxL := 3) (ret := (some .boolean)) (own := RX5) (fun A => zQi (dC, dI) [(cI, .int), (cB, .byte)] A ov (kX5 cI cB aR (aT 0) (aS 0) oR' ++ kX6 cI cB aT oT' ++ kX4 cI cB aS oS')) (by decide) rfl rfl (Nat.le_of_ble_eq_true rfl) ?_
  intro p e s m below meth c ls A H locs C hK hA hP hD hS hl
  generalize hQ : MQ below (zQi (dC, dI) [(cI, .int), (cB, .byte)] A ov (kX5 cI cB aR (aT 0) (aS 0) oR' ++ kX6 cI cB aT oT' ++ kX4 cI cB aS oS')) _ s 0 0 A = QQ
  generalize ([.ref (aR 0), .int p1] : List Value).toArray = args at C hQ ⊢
  have hl : lv_has ls 3 [(0, .ref (aR 0)), (1, .int p1)] := hl
  unfold fX5_read at hf
  refine lv_aload_n C.1.1 C.1.2.1 dX5_read_0 rfl (lv_at hl 0 rfl) ?_
  refine lv_iconst (v := 0) C.1.1 C.1.2.1 dX5_read_1 (by decide) ?_
  obtain ⟨oR_1, eoR_1, hf⟩ := zLet_el hf
  refine zPut (ty := .int) (kX5 cI cB aR (aT 0) (aS 0) oR_1 ++ kX6 cI cB aT oT ++ kX4 cI cB aS oS) C.1 wuX5 tyX5 tyX5_ok nmX5 hK hP hD hS 0 rfl rfl 2 (by decide) wfX5_25 rfl rfl (by decide +kernel) rfl rfl (Nat.le_of_ble_eq_true rfl) dX5_read_2 (by rw [eoR_1]; rfl) (fun H locs hP hD hS => ?_)
  refine lv_aload_n C.1.1 C.1.2.1 dX5_read_5 rfl (lv_at hl 0 rfl) ?_
  refine lv_iconst (v := 0) C.1.1 C.1.2.1 dX5_read_6 (by decide) ?_
  obtain ⟨oR_2, eoR_2, hf⟩ := zLet_el hf
  refine zPut (ty := .int) (kX5 cI cB aR (aT 0) (aS 0) oR_2 ++ kX6 cI cB aT oT ++ kX4 cI cB aS oS) C.1 wuX5 tyX5 tyX5_ok nmX5 hK hP hD hS 0 rfl rfl 4 (by decide) wfX5_32 rfl rfl (by decide +kernel) rfl rfl (Nat.le_of_ble_eq_true rfl) dX5_read_7 (by rw [eoR_2]; rfl) (fun H locs hP hD hS => ?_)
  refine lv_aload_n C.1.1 C.1.2.1 dX5_read_10 rfl (lv_at hl 0 rfl) ?_
  refine zGet (.ref (aS 0)) C.1 wuX5 hK hP 0 rfl rfl 1 (by decide) wfX5_21 rfl rfl dX5_read_11 ?_
  obtain ⟨oS_3, hg, hf⟩ := zB1_el hf
  refine zCVv (As := []) (rest := []) (wr := (kX5 cI cB aR (aT 0) (aS 0) oR_2 ++ kX6 cI cB aT oT)) (wn := (kX5 cI cB aR (aT 0) (aS 0) oR_2 ++ kX6 cI cB aT oT ++ kX4 cI cB aS oS_3)) C.1 hK hA hP hD hS [5, 6, 7, 8, 9, 10, 11, 12, 13, 14] [0, 1, 2, 3, 4] [0, 1, 2, 3, 4, 5, 6, 7, 8, 9, 10, 11, 12, 13, 14] 0 (mtX4_forget l dC dI cI cB aS H.size oS hg) (zCwV 0 C.1 wlX5_51 wiX4_forget ws_X4_forget wnX4 wkX4_forget rfl rfl (by decide +kernel) ⟨Nat.le_of_ble_eq_true rfl, Nat.le_of_ble_eq_true rfl⟩) rfl rfl (by decide +kernel) rfl rfl rfl rfl hl.1 (Nat.le_of_ble_eq_true rfl) dX5_read_14 ⟨Nat.zero_le _, Nat.zero_le _⟩ rfl (fun H locs hP hD hS => ?_)
  refine lv_aload_n C.1.1 C.1.2.1 dX5_read_17 rfl (lv_at hl 0 rfl) ?_
  refine zGet (.ref (aT 0)) C.1 wuX5 hK hP 0 rfl rfl 0 (by decide) wfX5_12 rfl rfl dX5_read_18 ?_
  refine lv_iload_n C.1.1 C.1.2.1 dX5_read_21 rfl (lv_at hl 1 rfl) ?_
  obtain ⟨oT_4, hg, hf⟩ := zB1_el hf
  refine zCVv (As := [.int p1]) (rest := []) (wr := (kX5 cI cB aR (aT 0) (aS 0) oR_2 ++ kX4 cI cB aS oS_3)) (wn := (kX5 cI cB aR (aT 0) (aS 0) oR_2 ++ kX6 cI cB aT oT_4 ++ kX4 cI cB aS oS_3)) C.1 hK hA hP hD hS [3, 4] [0, 1, 2, 5, 6, 7, 8, 9, 10, 11, 12, 13, 14] [0, 1, 2, 13, 14, 3, 4, 5, 6, 7, 8, 9, 10, 11, 12] 0 (mtX6_open l dC dI cI cB aT H.size NN oT p1 hg) (zCwV 1 C.1 wlX5_54 wiX6_open ws_X6_open wnX6 wkX6_open rfl rfl (by decide +kernel) ⟨Nat.le_of_ble_eq_true rfl, Nat.le_of_ble_eq_true rfl⟩) rfl rfl (by decide +kernel) rfl rfl rfl rfl hl.1 (Nat.le_of_ble_eq_true rfl) dX5_read_22 ⟨Nat.zero_le _, Nat.zero_le _⟩ rfl (fun H locs hP hD hS => ?_)
  refine lv_iconst (v := 0) C.1.1 C.1.2.1 dX5_read_25 (by decide) ?_
  refine lv_istore_n (lv' := [(2, .int (0 : Int32)), (0, .ref (aR 0)), (1, .int p1)]) C.1.1 C.1.2.1 dX5_read_26 rfl hl (by decide) rfl (fun ls hl => ?_)
  obtain ⟨J79_8, eJ79_8, hf⟩ := zJn_el hf
  have hJ79_8 : ∀ (oR_5 : Rc) (oT_6 : Rc) (oS_7 : Rc), J79_8 oR_5 oT_6 oS_7 = some (ov, oR', oT', oS') → ∀ (H : Heap) (locs : List Loc), va_P (dC, dI) vwCl (kX5 cI cB aR (aT 0) (aS 0) oR_5 ++ kX6 cI cB aT oT_6 ++ kX4 cI cB aS oS_7) H → va_D A (kX5 cI cB aR (aT 0) (aS 0) oR_5 ++ kX6 cI cB aT oT_6 ++ kX4 cI cB aS oS_7) → va_S A s.heap H locs → ∀ (ls : Array Slot), lv_has ls 3 [(0, .ref (aR 0))] → W p l e rX5_read s m args below meth c H locs 0 0 QQ (F0 m 79 ls []) := by
    intro oR_5 oT_6 oS_7 hf H locs hP hD hS ls hl
    rw [eJ79_8] at hf
    refine lv_aload_n C.1.1 C.1.2.1 dX5_read_79 rfl (lv_at hl 0 rfl) ?_
    refine zGet (.int (oR_5 2 0)) C.1 wuX5 hK hP 0 rfl rfl 2 (by decide) wfX5_25 rfl rfl dX5_read_80 ?_
    obtain ⟨J108_10, eJ108_10, hf⟩ := zJn_el hf
    have hJ108_10 : ∀ (oR_9 : Rc), J108_10 oR_9 = some (ov, oR', oT', oS') → ∀ (H : Heap) (locs : List Loc), va_P (dC, dI) vwCl (kX5 cI cB aR (aT 0) (aS 0) oR_9 ++ kX6 cI cB aT oT_6 ++ kX4 cI cB aS oS_7) H → va_D A (kX5 cI cB aR (aT 0) (aS 0) oR_9 ++ kX6 cI cB aT oT_6 ++ kX4 cI cB aS oS_7) → va_S A s.heap H locs → ∀ (ls : Array Slot), lv_has ls 3 [(0, .ref (aR 0))] → W p l e rX5_read s m args below meth c H locs 0 0 QQ (F0 m 108 ls []) := by
      intro oR_9 hf H locs hP hD hS ls hl
      rw [eJ108_10] at hf
      refine lv_aload_n C.1.1 C.1.2.1 dX5_read_108 rfl (lv_at hl 0 rfl) ?_
      refine lv_aload_n C.1.1 C.1.2.1 dX5_read_109 rfl (lv_at hl 0 rfl) ?_
      refine zGet (.ref (aT 0)) C.1 wuX5 hK hP 0 rfl rfl 0 (by decide) wfX5_12 rfl rfl dX5_read_110 ?_
      refine zGet (.int (oT_6 5 0)) C.1 wuX6 hK hP 3 rfl rfl 5 (by decide) wfX5_70 rfl rfl dX5_read_113 ?_
      obtain ⟨oR_11, eoR_11, hf⟩ := zLet_el hf
      refine zPut (ty := .int) (kX5 cI cB aR (aT 0) (aS 0) oR_11 ++ kX6 cI cB aT oT_6 ++ kX4 cI cB aS oS_7) C.1 wuX5 tyX5 tyX5_ok nmX5 hK hP hD hS 0 rfl rfl 3 (by decide) wfX5_29 rfl rfl (by decide +kernel) rfl rfl (Nat.le_of_ble_eq_true rfl) dX5_read_116 (by rw [eoR_11]; rfl) (fun H locs hP hD hS => ?_)
      refine lv_aload_n C.1.1 C.1.2.1 dX5_read_119 rfl (lv_at hl 0 rfl) ?_
      refine zGet (.ref (aT 0)) C.1 wuX5 hK hP 0 rfl rfl 0 (by decide) wfX5_12 rfl rfl dX5_read_120 ?_
      obtain ⟨oT_12, hg, hf⟩ := zB1_el hf
      refine zCVv (As := []) (rest := []) (wr := (kX5 cI cB aR (aT 0) (aS 0) oR_11 ++ kX4 cI cB aS oS_7)) (wn := (kX5 cI cB aR (aT 0) (aS 0) oR_11 ++ kX6 cI cB aT oT_12 ++ kX4 cI cB aS oS_7)) C.1 hK hA hP hD hS [3, 4] [0, 1, 2, 5, 6, 7, 8, 9, 10, 11, 12, 13, 14] [0, 1, 2, 13, 14, 3, 4, 5, 6, 7, 8, 9, 10, 11, 12] 0 (mtX6_clear l dC dI cI cB aT H.size oT_6 hg) (zCwV 0 C.1 wlX5_73 wiX6_clear ws_X6_clear wnX6 wkX6_clear rfl rfl (by decide +kernel) ⟨Nat.le_of_ble_eq_true rfl, Nat.le_of_ble_eq_true rfl⟩) rfl rfl (by decide +kernel) rfl rfl rfl rfl hl.1 (Nat.le_of_ble_eq_true rfl) dX5_read_123 ⟨Nat.zero_le _, Nat.zero_le _⟩ rfl (fun H locs hP hD hS => ?_)
      refine lv_aload_n C.1.1 C.1.2.1 dX5_read_126 rfl (lv_at hl 0 rfl) ?_
      refine zGet (.int (oR_11 2 0)) C.1 wuX5 hK hP 0 rfl rfl 2 (by decide) wfX5_25 rfl rfl dX5_read_127 ?_
      refine lv_if_ne (tgt := 137) C.1.1 C.1.2.1 dX5_read_130 (by decide) (fun hc => ?_) (fun hc => ?_)
      · replace hf := zIf_f hf hc
        refine lv_iconst (v := 0) C.1.1 C.1.2.1 dX5_read_137 (by decide) ?_
        cases hf
        rw [← hQ]
        exact zRz C (by decide +kernel) hK hP hD hS dX5_read_138
      · replace hf := zIf_t hf hc
        refine lv_iconst (v := 1) C.1.1 C.1.2.1 dX5_read_133 (by decide) ?_
        refine lv_goto (tgt := 138) C.1.1 C.1.2.1 dX5_read_134 (by decide) ?_
        cases hf
        rw [← hQ]
        exact zRz C (by decide +kernel) hK hP hD hS dX5_read_138
    refine lv_if_ne (tgt := 108) C.1.1 C.1.2.1 dX5_read_83 (by decide) (fun hc => ?_) (fun hc => ?_)
    · replace hf := zIf_f hf hc
      exact hJ108_10 oR_5 hf H locs hP hD hS ls (lv_sub hl [0] rfl)
    · replace hf := zIf_t hf hc
      refine lv_aload_n C.1.1 C.1.2.1 dX5_read_86 rfl (lv_at hl 0 rfl) ?_
      refine zGet (.int (oR_5 4 0)) C.1 wuX5 hK hP 0 rfl rfl 4 (by decide) wfX5_32 rfl rfl dX5_read_87 ?_
      obtain ⟨J103_13, eJ103_13, hf⟩ := zJn_el hf
      have hJ103_13 : ∀ (u : Unit), J103_13 u = some (ov, oR', oT', oS') → ∀ (H : Heap) (locs : List Loc), va_P (dC, dI) vwCl (kX5 cI cB aR (aT 0) (aS 0) oR_5 ++ kX6 cI cB aT oT_6 ++ kX4 cI cB aS oS_7) H → va_D A (kX5 cI cB aR (aT 0) (aS 0) oR_5 ++ kX6 cI cB aT oT_6 ++ kX4 cI cB aS oS_7) → va_S A s.heap H locs → ∀ (ls : Array Slot), lv_has ls 3 [(0, .ref (aR 0))] → W p l e rX5_read s m args below meth c H locs 0 0 QQ (F0 m 103 ls []) := by
        intro u hf H locs hP hD hS ls hl
        rw [eJ103_13] at hf
        refine lv_aload_n C.1.1 C.1.2.1 dX5_read_103 rfl (lv_at hl 0 rfl) ?_
        refine lv_iconst (v := 1) C.1.1 C.1.2.1 dX5_read_104 (by decide) ?_
        obtain ⟨oR_14, eoR_14, hf⟩ := zLet_el hf
        refine zPut (ty := .int) (kX5 cI cB aR (aT 0) (aS 0) oR_14 ++ kX6 cI cB aT oT_6 ++ kX4 cI cB aS oS_7) C.1 wuX5 tyX5 tyX5_ok nmX5 hK hP hD hS 0 rfl rfl 2 (by decide) wfX5_25 rfl rfl (by decide +kernel) rfl rfl (Nat.le_of_ble_eq_true rfl) dX5_read_105 (by rw [eoR_14]; rfl) (fun H locs hP hD hS => ?_)
        exact hJ108_10 oR_14 hf H locs hP hD hS ls (lv_sub hl [0] rfl)
      refine lv_if_ne (tgt := 103) C.1.1 C.1.2.1 dX5_read_90 (by decide) (fun hc => ?_) (fun hc => ?_)
      · replace hf := zIf_f hf hc
        exact hJ103_13 () hf H locs hP hD hS ls (lv_sub hl [0] rfl)
      · replace hf := zIf_t hf hc
        refine lv_aload_n C.1.1 C.1.2.1 dX5_read_93 rfl (lv_at hl 0 rfl) ?_
        refine zGet (.ref (aS 0)) C.1 wuX5 hK hP 0 rfl rfl 1 (by decide) wfX5_21 rfl rfl dX5_read_94 ?_
        refine zGet (.int (oS_7 0 0)) C.1 wuX4 hK hP 5 rfl rfl 0 (by decide) wfX5_67 rfl rfl dX5_read_97 ?_
        refine lv_if_ne (tgt := 108) C.1.1 C.1.2.1 dX5_read_100 (by decide) (fun hc => ?_) (fun hc => ?_)
        · replace hf := zIf_f hf hc
          exact hJ108_10 oR_5 hf H locs hP hD hS ls (lv_sub hl [0] rfl)
        · replace hf := zIf_t hf hc
          exact hJ103_13 () hf H locs hP hD hS ls (lv_sub hl [0] rfl)
  refine zLp4_ind (o := (ov, oR', oT', oS')) (P := fun (x15 : Int32) (oR_16 : Rc) (oT_17 : Rc) (oS_18 : Rc) => ∀ (H : Heap) (locs : List Loc), va_P (dC, dI) vwCl (kX5 cI cB aR (aT 0) (aS 0) oR_16 ++ kX6 cI cB aT oT_17 ++ kX4 cI cB aS oS_18) H → va_D A (kX5 cI cB aR (aT 0) (aS 0) oR_16 ++ kX6 cI cB aT oT_17 ++ kX4 cI cB aS oS_18) → va_S A s.heap H locs → ∀ (ls : Array Slot), lv_has ls 3 [(0, .ref (aR 0)), (2, .int x15)] → W p l e rX5_read s m args below meth c H locs 0 0 QQ (F0 m 27 ls [])) (fun go19 ihgo19 x15 oR_16 oT_17 oS_18 hf H locs hP hD hS ls hl => ?_) _ (0 : Int32) oR_2 oT_4 oS_3 hf H locs hP hD hS ls (lv_sub hl [1, 0] rfl)
  refine lv_iload_n C.1.1 C.1.2.1 dX5_read_27 rfl (lv_at hl 1 rfl) ?_
  refine lv_sipush (v := 600) C.1.1 C.1.2.1 dX5_read_28 (by decide) ?_
  refine lv_icmp_ge (tgt := 79) C.1.1 C.1.2.1 dX5_read_31 (by decide) (fun hc => ?_) (fun hc => ?_)
  · replace hf := zIf_t hf hc
    exact hJ79_8 oR_16 oT_17 oS_18 hf H locs hP hD hS ls (lv_sub hl [0] rfl)
  · replace hf := zIf_f hf hc
    refine lv_aload_n C.1.1 C.1.2.1 dX5_read_34 rfl (lv_at hl 0 rfl) ?_
    refine zGet (.int (oR_16 2 0)) C.1 wuX5 hK hP 0 rfl rfl 2 (by decide) wfX5_25 rfl rfl dX5_read_35 ?_
    refine lv_if_ne (tgt := 79) C.1.1 C.1.2.1 dX5_read_38 (by decide) (fun hc => ?_) (fun hc => ?_)
    · replace hf := zIf_f hf hc
      exact hJ79_8 oR_16 oT_17 oS_18 hf H locs hP hD hS ls (lv_sub hl [0] rfl)
    · replace hf := zIf_t hf hc
      refine lv_aload_n C.1.1 C.1.2.1 dX5_read_41 rfl (lv_at hl 0 rfl) ?_
      refine zGet (.ref (aT 0)) C.1 wuX5 hK hP 0 rfl rfl 0 (by decide) wfX5_12 rfl rfl dX5_read_42 ?_
      refine zGet (.int (oT_17 4 0)) C.1 wuX6 hK hP 3 rfl rfl 4 (by decide) wfX5_57 rfl rfl dX5_read_45 ?_
      refine lv_if_eq (tgt := 79) C.1.1 C.1.2.1 dX5_read_48 (by decide) (fun hc => ?_) (fun hc => ?_)
      · replace hf := zIf_t hf hc
        exact hJ79_8 oR_16 oT_17 oS_18 hf H locs hP hD hS ls (lv_sub hl [0] rfl)
      · replace hf := zIf_f hf hc
        refine lv_aload_n C.1.1 C.1.2.1 dX5_read_51 rfl (lv_at hl 0 rfl) ?_
        refine lv_aload_n C.1.1 C.1.2.1 dX5_read_52 rfl (lv_at hl 0 rfl) ?_
        obtain ⟨v20, oR_21, oS_22, hg, hf⟩ := zB3_el hf
        refine zCVi (As := []) (rest := [.ref (aR 0)]) (wr := ([] : va_W)) (wn := (kX5 cI cB aR (aT 0) (aS 0) oR_21 ++ kX6 cI cB aT oT_17 ++ kX4 cI cB aS oS_22)) C.1 hK hA hP hD hS [0, 1, 2, 3, 4, 5, 6, 7, 8, 9, 10, 11, 12, 13, 14] [] [0, 1, 2, 3, 4, 5, 6, 7, 8, 9, 10, 11, 12, 13, 14] 0 (mtX5_meet l dC dI cI cB aR aT aS H.size NN oR_16 oT_17 oS_18 hg) (zCwV 0 C.1 wlX5_60 wiX5_meet ws_X5_meet wnX5 wkX5_meet rfl rfl (by decide +kernel) ⟨Nat.le_of_ble_eq_true rfl, Nat.le_of_ble_eq_true rfl⟩) rfl rfl (by decide +kernel) rfl rfl rfl rfl hl.1 (Nat.le_of_ble_eq_true rfl) dX5_read_53 ⟨Nat.zero_le _, Nat.zero_le _⟩ rfl (fun H locs hP hD hS => ?_)
        obtain ⟨oR_23, eoR_23, hf⟩ := zLet_el hf
        refine zPut (ty := .int) (kX5 cI cB aR (aT 0) (aS 0) oR_23 ++ kX6 cI cB aT oT_17 ++ kX4 cI cB aS oS_22) C.1 wuX5 tyX5 tyX5_ok nmX5 hK hP hD hS 0 rfl rfl 2 (by decide) wfX5_25 rfl rfl (by decide +kernel) rfl rfl (Nat.le_of_ble_eq_true rfl) dX5_read_56 (by rw [eoR_23]; rfl) (fun H locs hP hD hS => ?_)
        refine lv_aload_n C.1.1 C.1.2.1 dX5_read_59 rfl (lv_at hl 0 rfl) ?_
        refine zGet (.int (oR_23 2 0)) C.1 wuX5 hK hP 0 rfl rfl 2 (by decide) wfX5_25 rfl rfl dX5_read_60 ?_
        refine lv_if_ne (tgt := 73) C.1.1 C.1.2.1 dX5_read_63 (by decide) (fun hc => ?_) (fun hc => ?_)
        · replace hf := zIf_f hf hc
          obtain ⟨x24, ex24, hf⟩ := zLet_el hf
          refine lv_iinc (v := x24) (lv' := [(2, .int x24), (0, .ref (aR 0))]) C.1.1 C.1.2.1 dX5_read_73 hl (k := 1) rfl (by rw [ex24]; rfl) (by decide) rfl (fun ls hl => ?_)
          refine lv_goto (tgt := 27) C.1.1 C.1.2.1 dX5_read_76 (by decide) ?_
          exact ihgo19 x24 oR_23 oT_17 oS_22 hf H locs hP hD hS ls (lv_sub hl [1, 0] rfl)
        · replace hf := zIf_t hf hc
          refine lv_aload_n C.1.1 C.1.2.1 dX5_read_66 rfl (lv_at hl 0 rfl) ?_
          refine zGet (.ref (aT 0)) C.1 wuX5 hK hP 0 rfl rfl 0 (by decide) wfX5_12 rfl rfl dX5_read_67 ?_
          obtain ⟨oT_25, hg, hf⟩ := zB1_el hf
          refine zCVv (As := []) (rest := []) (wr := (kX5 cI cB aR (aT 0) (aS 0) oR_23 ++ kX4 cI cB aS oS_22)) (wn := (kX5 cI cB aR (aT 0) (aS 0) oR_23 ++ kX6 cI cB aT oT_25 ++ kX4 cI cB aS oS_22)) C.1 hK hA hP hD hS [3, 4] [0, 1, 2, 5, 6, 7, 8, 9, 10, 11, 12, 13, 14] [0, 1, 2, 13, 14, 3, 4, 5, 6, 7, 8, 9, 10, 11, 12] 0 (mtX6_step l dC dI cI cB aT H.size NN oT_17 hg) (zCwV 0 C.1 wlX5_64 wiX6_step ws_X6_step wnX6 wkX6_step rfl rfl (by decide +kernel) ⟨Nat.le_of_ble_eq_true rfl, Nat.le_of_ble_eq_true rfl⟩) rfl rfl (by decide +kernel) rfl rfl rfl rfl hl.1 (Nat.le_of_ble_eq_true rfl) dX5_read_70 ⟨Nat.zero_le _, Nat.zero_le _⟩ rfl (fun H locs hP hD hS => ?_)
          obtain ⟨x26, ex26, hf⟩ := zLet_el hf
          refine lv_iinc (v := x26) (lv' := [(2, .int x26), (0, .ref (aR 0))]) C.1.1 C.1.2.1 dX5_read_73 hl (k := 1) rfl (by rw [ex26]; rfl) (by decide) rfl (fun ls hl => ?_)
          refine lv_goto (tgt := 27) C.1.1 C.1.2.1 dX5_read_76 (by decide) ?_
          exact ihgo19 x26 oR_23 oT_25 oS_22 hf H locs hP hD hS ls (lv_sub hl [1, 0] rfl)
