theorem dX7_init_0 : decode cX7_init 0 = .ok (.aload_n 0, 1) := by decide +kernel
theorem dX7_init_1 : decode cX7_init 1 = .ok (.invokespecial 3, 3) := by decide +kernel
theorem dX7_init_4 : decode cX7_init 4 = .ok (.aload_n 0, 1) := by decide +kernel
theorem dX7_init_5 : decode cX7_init 5 = .ok (.new 9, 3) := by decide +kernel
theorem dX7_init_8 : decode cX7_init 8 = .ok (.dup, 1) := by decide +kernel
theorem dX7_init_9 : decode cX7_init 9 = .ok (.invokespecial 11, 3) := by decide +kernel
theorem dX7_init_12 : decode cX7_init 12 = .ok (.putfield 12, 3) := by decide +kernel
theorem dX7_init_15 : decode cX7_init 15 = .ok (.aload_n 0, 1) := by decide +kernel
theorem dX7_init_16 : decode cX7_init 16 = .ok (.new 16, 3) := by decide +kernel
theorem dX7_init_19 : decode cX7_init 19 = .ok (.dup, 1) := by decide +kernel
theorem dX7_init_20 : decode cX7_init 20 = .ok (.invokespecial 18, 3) := by decide +kernel
theorem dX7_init_23 : decode cX7_init 23 = .ok (.putfield 19, 3) := by decide +kernel
theorem dX7_init_26 : decode cX7_init 26 = .ok (.aload_n 0, 1) := by decide +kernel
theorem dX7_init_27 : decode cX7_init 27 = .ok (.new 23, 3) := by decide +kernel
theorem dX7_init_30 : decode cX7_init 30 = .ok (.dup, 1) := by decide +kernel
theorem dX7_init_31 : decode cX7_init 31 = .ok (.invokespecial 25, 3) := by decide +kernel
theorem dX7_init_34 : decode cX7_init 34 = .ok (.putfield 26, 3) := by decide +kernel
theorem dX7_init_37 : decode cX7_init 37 = .ok (.aload_n 0, 1) := by decide +kernel
theorem dX7_init_38 : decode cX7_init 38 = .ok (.new 30, 3) := by decide +kernel
theorem dX7_init_41 : decode cX7_init 41 = .ok (.dup, 1) := by decide +kernel
theorem dX7_init_42 : decode cX7_init 42 = .ok (.invokespecial 32, 3) := by decide +kernel
theorem dX7_init_45 : decode cX7_init 45 = .ok (.putfield 33, 3) := by decide +kernel
theorem dX7_init_48 : decode cX7_init 48 = .ok (.aload_n 0, 1) := by decide +kernel
theorem dX7_init_49 : decode cX7_init 49 = .ok (.sipush 4096, 3) := by decide +kernel
theorem dX7_init_52 : decode cX7_init 52 = .ok (.newarray .int, 2) := by decide +kernel
theorem dX7_init_54 : decode cX7_init 54 = .ok (.putfield 37, 3) := by decide +kernel
theorem dX7_init_57 : decode cX7_init 57 = .ok (.aload_n 0, 1) := by decide +kernel
theorem dX7_init_58 : decode cX7_init 58 = .ok (.iconst 0, 1) := by decide +kernel
theorem dX7_init_59 : decode cX7_init 59 = .ok (.putfield 41, 3) := by decide +kernel
theorem dX7_init_62 : decode cX7_init 62 = .ok (.aload_n 0, 1) := by decide +kernel
theorem dX7_init_63 : decode cX7_init 63 = .ok (.new 45, 3) := by decide +kernel
theorem dX7_init_66 : decode cX7_init 66 = .ok (.dup, 1) := by decide +kernel
theorem dX7_init_67 : decode cX7_init 67 = .ok (.invokespecial 47, 3) := by decide +kernel
theorem dX7_init_70 : decode cX7_init 70 = .ok (.putfield 48, 3) := by decide +kernel
theorem dX7_init_73 : decode cX7_init 73 = .ok (.aload_n 0, 1) := by decide +kernel
theorem dX7_init_74 : decode cX7_init 74 = .ok (.bipush 8, 2) := by decide +kernel
theorem dX7_init_76 : decode cX7_init 76 = .ok (.putfield 52, 3) := by decide +kernel
theorem dX7_init_79 : decode cX7_init 79 = .ok (.aload_n 0, 1) := by decide +kernel
theorem dX7_init_80 : decode cX7_init 80 = .ok (.bipush 40, 2) := by decide +kernel
theorem dX7_init_82 : decode cX7_init 82 = .ok (.putfield 55, 3) := by decide +kernel
theorem dX7_init_85 : decode cX7_init 85 = .ok (.aload_n 0, 1) := by decide +kernel
theorem dX7_init_86 : decode cX7_init 86 = .ok (.iconst 3, 1) := by decide +kernel
theorem dX7_init_87 : decode cX7_init 87 = .ok (.putfield 58, 3) := by decide +kernel
theorem dX7_init_90 : decode cX7_init 90 = .ok (.aload_n 0, 1) := by decide +kernel
theorem dX7_init_91 : decode cX7_init 91 = .ok (.iconst 0, 1) := by decide +kernel
theorem dX7_init_92 : decode cX7_init 92 = .ok (.putfield 61, 3) := by decide +kernel
theorem dX7_init_95 : decode cX7_init 95 = .ok (.return_, 1) := by decide +kernel
theorem dX7_set_0 : decode cX7_set 0 = .ok (.iload_n 1, 1) := by decide +kernel
theorem dX7_set_1 : decode cX7_set 1 = .ok (.iconst 4, 1) := by decide +kernel
theorem dX7_set_2 : decode cX7_set 2 = .ok (.if_icmp .lt 35, 3) := by decide +kernel
theorem dX7_set_5 : decode cX7_set 5 = .ok (.iload_n 1, 1) := by decide +kernel
theorem dX7_set_6 : decode cX7_set 6 = .ok (.bipush 16, 2) := by decide +kernel
theorem dX7_set_8 : decode cX7_set 8 = .ok (.if_icmp .gt 29, 3) := by decide +kernel
theorem dX7_set_11 : decode cX7_set 11 = .ok (.iload_n 2, 1) := by decide +kernel
theorem dX7_set_12 : decode cX7_set 12 = .ok (.iconst 1, 1) := by decide +kernel
theorem dX7_set_13 : decode cX7_set 13 = .ok (.if_icmp .lt 24, 3) := by decide +kernel
theorem dX7_set_16 : decode cX7_set 16 = .ok (.iload_n 2, 1) := by decide +kernel
theorem dX7_set_17 : decode cX7_set 17 = .ok (.sipush 1000, 3) := by decide +kernel
theorem dX7_set_20 : decode cX7_set 20 = .ok (.if_icmp .gt 17, 3) := by decide +kernel
theorem dX7_set_23 : decode cX7_set 23 = .ok (.iload_n 3, 1) := by decide +kernel
theorem dX7_set_24 : decode cX7_set 24 = .ok (.ifCond .lt 13, 3) := by decide +kernel
theorem dX7_set_27 : decode cX7_set 27 = .ok (.iload_n 3, 1) := by decide +kernel
theorem dX7_set_28 : decode cX7_set 28 = .ok (.bipush 100, 2) := by decide +kernel
theorem dX7_set_30 : decode cX7_set 30 = .ok (.if_icmp .gt 7, 3) := by decide +kernel
theorem dX7_set_33 : decode cX7_set 33 = .ok (.iconst 1, 1) := by decide +kernel
theorem dX7_set_34 : decode cX7_set 34 = .ok (.goto 4, 3) := by decide +kernel
theorem dX7_set_37 : decode cX7_set 37 = .ok (.iconst 0, 1) := by decide +kernel
theorem dX7_set_38 : decode cX7_set 38 = .ok (.istore 4, 2) := by decide +kernel
theorem dX7_set_40 : decode cX7_set 40 = .ok (.aload_n 0, 1) := by decide +kernel
theorem dX7_set_41 : decode cX7_set 41 = .ok (.iload 4, 2) := by decide +kernel
theorem dX7_set_43 : decode cX7_set 43 = .ok (.ifCond .eq 7, 3) := by decide +kernel
theorem dX7_set_46 : decode cX7_set 46 = .ok (.iconst 0, 1) := by decide +kernel
theorem dX7_set_47 : decode cX7_set 47 = .ok (.goto 4, 3) := by decide +kernel
theorem dX7_set_50 : decode cX7_set 50 = .ok (.iconst 2, 1) := by decide +kernel
theorem dX7_set_51 : decode cX7_set 51 = .ok (.invokevirtual 64, 3) := by decide +kernel
theorem dX7_set_54 : decode cX7_set 54 = .ok (.ifCond .eq 5, 3) := by decide +kernel
theorem dX7_set_57 : decode cX7_set 57 = .ok (.iconst 0, 1) := by decide +kernel
theorem dX7_set_58 : decode cX7_set 58 = .ok (.ireturn, 1) := by decide +kernel
theorem dX7_set_59 : decode cX7_set 59 = .ok (.aload_n 0, 1) := by decide +kernel
theorem dX7_set_60 : decode cX7_set 60 = .ok (.iload_n 1, 1) := by decide +kernel
theorem dX7_set_61 : decode cX7_set 61 = .ok (.putfield 52, 3) := by decide +kernel
theorem dX7_set_64 : decode cX7_set 64 = .ok (.aload_n 0, 1) := by decide +kernel
theorem dX7_set_65 : decode cX7_set 65 = .ok (.iload_n 2, 1) := by decide +kernel
theorem dX7_set_66 : decode cX7_set 66 = .ok (.putfield 55, 3) := by decide +kernel
theorem dX7_set_69 : decode cX7_set 69 = .ok (.aload_n 0, 1) := by decide +kernel
theorem dX7_set_70 : decode cX7_set 70 = .ok (.iload_n 3, 1) := by decide +kernel
theorem dX7_set_71 : decode cX7_set 71 = .ok (.putfield 58, 3) := by decide +kernel
theorem dX7_set_74 : decode cX7_set 74 = .ok (.aload_n 0, 1) := by decide +kernel
theorem dX7_set_75 : decode cX7_set 75 = .ok (.getfield 19, 3) := by decide +kernel
theorem dX7_set_78 : decode cX7_set 78 = .ok (.aload_n 0, 1) := by decide +kernel
theorem dX7_set_79 : decode cX7_set 79 = .ok (.invokevirtual 68, 3) := by decide +kernel
theorem dX7_set_82 : decode cX7_set 82 = .ok (.invokevirtual 72, 3) := by decide +kernel
theorem dX7_set_85 : decode cX7_set 85 = .ok (.aload_n 0, 1) := by decide +kernel
theorem dX7_set_86 : decode cX7_set 86 = .ok (.invokevirtual 76, 3) := by decide +kernel
theorem dX7_set_89 : decode cX7_set 89 = .ok (.iconst 1, 1) := by decide +kernel
theorem dX7_set_90 : decode cX7_set 90 = .ok (.ireturn, 1) := by decide +kernel
theorem dX7_feed_0 : decode cX7_feed 0 = .ok (.aload_n 0, 1) := by decide +kernel
theorem dX7_feed_1 : decode cX7_feed 1 = .ok (.getfield 12, 3) := by decide +kernel
theorem dX7_feed_4 : decode cX7_feed 4 = .ok (.getfield 79, 3) := by decide +kernel
theorem dX7_feed_7 : decode cX7_feed 7 = .ok (.astore 6, 2) := by decide +kernel
theorem dX7_feed_9 : decode cX7_feed 9 = .ok (.aload 6, 2) := by decide +kernel
theorem dX7_feed_11 : decode cX7_feed 11 = .ok (.getfield 83, 3) := by decide +kernel
theorem dX7_feed_14 : decode cX7_feed 14 = .ok (.bipush 20, 2) := by decide +kernel
theorem dX7_feed_16 : decode cX7_feed 16 = .ok (.iadd, 1) := by decide +kernel
theorem dX7_feed_17 : decode cX7_feed 17 = .ok (.sipush 600, 3) := by decide +kernel
theorem dX7_feed_20 : decode cX7_feed 20 = .ok (.if_icmp .le 5, 3) := by decide +kernel
theorem dX7_feed_23 : decode cX7_feed 23 = .ok (.iconst (-1), 1) := by decide +kernel
theorem dX7_feed_24 : decode cX7_feed 24 = .ok (.ireturn, 1) := by decide +kernel
theorem dX7_feed_25 : decode cX7_feed 25 = .ok (.aload 6, 2) := by decide +kernel
theorem dX7_feed_27 : decode cX7_feed 27 = .ok (.iload_n 1, 1) := by decide +kernel
theorem dX7_feed_28 : decode cX7_feed 28 = .ok (.invokevirtual 88, 3) := by decide +kernel
theorem dX7_feed_31 : decode cX7_feed 31 = .ok (.aload 6, 2) := by decide +kernel
theorem dX7_feed_33 : decode cX7_feed 33 = .ok (.iload_n 2, 1) := by decide +kernel
theorem dX7_feed_34 : decode cX7_feed 34 = .ok (.invokevirtual 88, 3) := by decide +kernel
theorem dX7_feed_37 : decode cX7_feed 37 = .ok (.aload 6, 2) := by decide +kernel
theorem dX7_feed_39 : decode cX7_feed 39 = .ok (.iload_n 3, 1) := by decide +kernel
theorem dX7_feed_40 : decode cX7_feed 40 = .ok (.invokevirtual 88, 3) := by decide +kernel
theorem dX7_feed_43 : decode cX7_feed 43 = .ok (.aload 6, 2) := by decide +kernel
theorem dX7_feed_45 : decode cX7_feed 45 = .ok (.iload 4, 2) := by decide +kernel
theorem dX7_feed_47 : decode cX7_feed 47 = .ok (.invokevirtual 88, 3) := by decide +kernel
theorem dX7_feed_50 : decode cX7_feed 50 = .ok (.aload 6, 2) := by decide +kernel
theorem dX7_feed_52 : decode cX7_feed 52 = .ok (.iload 5, 2) := by decide +kernel
theorem dX7_feed_54 : decode cX7_feed 54 = .ok (.invokevirtual 88, 3) := by decide +kernel
theorem dX7_feed_57 : decode cX7_feed 57 = .ok (.aload 6, 2) := by decide +kernel
theorem dX7_feed_59 : decode cX7_feed 59 = .ok (.getfield 83, 3) := by decide +kernel
theorem dX7_feed_62 : decode cX7_feed 62 = .ok (.ireturn, 1) := by decide +kernel
theorem dX7_program_0 : decode cX7_program 0 = .ok (.aload_n 0, 1) := by decide +kernel
theorem dX7_program_1 : decode cX7_program 1 = .ok (.iload_n 1, 1) := by decide +kernel
theorem dX7_program_2 : decode cX7_program 2 = .ok (.ifCond .lt 17, 3) := by decide +kernel
theorem dX7_program_5 : decode cX7_program 5 = .ok (.iload_n 1, 1) := by decide +kernel
theorem dX7_program_6 : decode cX7_program 6 = .ok (.aload_n 0, 1) := by decide +kernel
theorem dX7_program_7 : decode cX7_program 7 = .ok (.getfield 12, 3) := by decide +kernel
theorem dX7_program_10 : decode cX7_program 10 = .ok (.getfield 79, 3) := by decide +kernel
theorem dX7_program_13 : decode cX7_program 13 = .ok (.getfield 83, 3) := by decide +kernel
theorem dX7_program_16 : decode cX7_program 16 = .ok (.if_icmp .le 7, 3) := by decide +kernel
theorem dX7_program_19 : decode cX7_program 19 = .ok (.iconst 2, 1) := by decide +kernel
theorem dX7_program_20 : decode cX7_program 20 = .ok (.goto 4, 3) := by decide +kernel
theorem dX7_program_23 : decode cX7_program 23 = .ok (.iconst 0, 1) := by decide +kernel
theorem dX7_program_24 : decode cX7_program 24 = .ok (.invokevirtual 64, 3) := by decide +kernel
theorem dX7_program_27 : decode cX7_program 27 = .ok (.ifCond .eq 5, 3) := by decide +kernel
theorem dX7_program_30 : decode cX7_program 30 = .ok (.iconst (-1), 1) := by decide +kernel
theorem dX7_program_31 : decode cX7_program 31 = .ok (.ireturn, 1) := by decide +kernel
theorem dX7_program_32 : decode cX7_program 32 = .ok (.aload_n 0, 1) := by decide +kernel
theorem dX7_program_33 : decode cX7_program 33 = .ok (.aload_n 0, 1) := by decide +kernel
theorem dX7_program_34 : decode cX7_program 34 = .ok (.getfield 12, 3) := by decide +kernel
theorem dX7_program_37 : decode cX7_program 37 = .ok (.iload_n 1, 1) := by decide +kernel
theorem dX7_program_38 : decode cX7_program 38 = .ok (.invokevirtual 91, 3) := by decide +kernel
theorem dX7_program_41 : decode cX7_program 41 = .ok (.ifCond .eq 7, 3) := by decide +kernel
theorem dX7_program_44 : decode cX7_program 44 = .ok (.iconst 0, 1) := by decide +kernel
theorem dX7_program_45 : decode cX7_program 45 = .ok (.goto 4, 3) := by decide +kernel
theorem dX7_program_48 : decode cX7_program 48 = .ok (.iconst 3, 1) := by decide +kernel
theorem dX7_program_49 : decode cX7_program 49 = .ok (.invokevirtual 64, 3) := by decide +kernel
theorem dX7_program_52 : decode cX7_program 52 = .ok (.ifCond .eq 5, 3) := by decide +kernel
theorem dX7_program_55 : decode cX7_program 55 = .ok (.iconst (-1), 1) := by decide +kernel
theorem dX7_program_56 : decode cX7_program 56 = .ok (.ireturn, 1) := by decide +kernel
theorem dX7_program_57 : decode cX7_program 57 = .ok (.aload_n 0, 1) := by decide +kernel
theorem dX7_program_58 : decode cX7_program 58 = .ok (.aload_n 0, 1) := by decide +kernel
theorem dX7_program_59 : decode cX7_program 59 = .ok (.getfield 12, 3) := by decide +kernel
theorem dX7_program_62 : decode cX7_program 62 = .ok (.aload_n 0, 1) := by decide +kernel
theorem dX7_program_63 : decode cX7_program 63 = .ok (.getfield 48, 3) := by decide +kernel
theorem dX7_program_66 : decode cX7_program 66 = .ok (.invokevirtual 94, 3) := by decide +kernel
theorem dX7_program_69 : decode cX7_program 69 = .ok (.putfield 48, 3) := by decide +kernel
theorem dX7_program_72 : decode cX7_program 72 = .ok (.aload_n 0, 1) := by decide +kernel
theorem dX7_program_73 : decode cX7_program 73 = .ok (.invokevirtual 76, 3) := by decide +kernel
theorem dX7_program_76 : decode cX7_program 76 = .ok (.aload_n 0, 1) := by decide +kernel
theorem dX7_program_77 : decode cX7_program 77 = .ok (.getfield 48, 3) := by decide +kernel
theorem dX7_program_80 : decode cX7_program 80 = .ok (.getfield 98, 3) := by decide +kernel
theorem dX7_program_83 : decode cX7_program 83 = .ok (.ireturn, 1) := by decide +kernel
theorem dX7_fault_0 : decode cX7_fault 0 = .ok (.aload_n 0, 1) := by decide +kernel
theorem dX7_fault_1 : decode cX7_fault 1 = .ok (.getfield 12, 3) := by decide +kernel
theorem dX7_fault_4 : decode cX7_fault 4 = .ok (.getfield 101, 3) := by decide +kernel
theorem dX7_fault_7 : decode cX7_fault 7 = .ok (.ireturn, 1) := by decide +kernel
theorem dX7_where_0 : decode cX7_where 0 = .ok (.aload_n 0, 1) := by decide +kernel
theorem dX7_where_1 : decode cX7_where 1 = .ok (.getfield 61, 3) := by decide +kernel
theorem dX7_where_4 : decode cX7_where 4 = .ok (.iconst 3, 1) := by decide +kernel
theorem dX7_where_5 : decode cX7_where 5 = .ok (.if_icmp .ne 13, 3) := by decide +kernel
theorem dX7_where_8 : decode cX7_where 8 = .ok (.aload_n 0, 1) := by decide +kernel
theorem dX7_where_9 : decode cX7_where 9 = .ok (.getfield 12, 3) := by decide +kernel
theorem dX7_where_12 : decode cX7_where 12 = .ok (.getfield 104, 3) := by decide +kernel
theorem dX7_where_15 : decode cX7_where 15 = .ok (.goto 4, 3) := by decide +kernel
theorem dX7_where_18 : decode cX7_where 18 = .ok (.iconst (-1), 1) := by decide +kernel
theorem dX7_where_19 : decode cX7_where 19 = .ok (.ireturn, 1) := by decide +kernel
theorem dX7_put_0 : decode cX7_put 0 = .ok (.aload_n 0, 1) := by decide +kernel
theorem dX7_put_1 : decode cX7_put 1 = .ok (.aload_n 0, 1) := by decide +kernel
theorem dX7_put_2 : decode cX7_put 2 = .ok (.iload_n 1, 1) := by decide +kernel
theorem dX7_put_3 : decode cX7_put 3 = .ok (.invokevirtual 107, 3) := by decide +kernel
theorem dX7_put_6 : decode cX7_put 6 = .ok (.ifCond .eq 7, 3) := by decide +kernel
theorem dX7_put_9 : decode cX7_put 9 = .ok (.iconst 0, 1) := by decide +kernel
theorem dX7_put_10 : decode cX7_put 10 = .ok (.goto 4, 3) := by decide +kernel
theorem dX7_put_13 : decode cX7_put 13 = .ok (.iconst 1, 1) := by decide +kernel
theorem dX7_put_14 : decode cX7_put 14 = .ok (.invokevirtual 64, 3) := by decide +kernel
theorem dX7_put_17 : decode cX7_put 17 = .ok (.ifCond .eq 5, 3) := by decide +kernel
theorem dX7_put_20 : decode cX7_put 20 = .ok (.iconst 0, 1) := by decide +kernel
theorem dX7_put_21 : decode cX7_put 21 = .ok (.ireturn, 1) := by decide +kernel
theorem dX7_put_22 : decode cX7_put 22 = .ok (.aload_n 0, 1) := by decide +kernel
theorem dX7_put_23 : decode cX7_put 23 = .ok (.getfield 19, 3) := by decide +kernel
theorem dX7_put_26 : decode cX7_put 26 = .ok (.getfield 110, 3) := by decide +kernel
theorem dX7_put_29 : decode cX7_put 29 = .ok (.iload_n 1, 1) := by decide +kernel
theorem dX7_put_30 : decode cX7_put 30 = .ok (.iload_n 2, 1) := by decide +kernel
theorem dX7_put_31 : decode cX7_put 31 = .ok (.aload_n 0, 1) := by decide +kernel
theorem dX7_put_32 : decode cX7_put 32 = .ok (.invokevirtual 68, 3) := by decide +kernel
theorem dX7_put_35 : decode cX7_put 35 = .ok (.iand, 1) := by decide +kernel
theorem dX7_put_36 : decode cX7_put 36 = .ok (.iastore, 1) := by decide +kernel
theorem dX7_put_37 : decode cX7_put 37 = .ok (.iconst 1, 1) := by decide +kernel
theorem dX7_put_38 : decode cX7_put 38 = .ok (.ireturn, 1) := by decide +kernel
theorem dX7_get_0 : decode cX7_get 0 = .ok (.aload_n 0, 1) := by decide +kernel
theorem dX7_get_1 : decode cX7_get 1 = .ok (.iload_n 1, 1) := by decide +kernel
theorem dX7_get_2 : decode cX7_get 2 = .ok (.invokevirtual 107, 3) := by decide +kernel
theorem dX7_get_5 : decode cX7_get 5 = .ok (.ifCond .eq 15, 3) := by decide +kernel
theorem dX7_get_8 : decode cX7_get 8 = .ok (.aload_n 0, 1) := by decide +kernel
theorem dX7_get_9 : decode cX7_get 9 = .ok (.getfield 19, 3) := by decide +kernel
theorem dX7_get_12 : decode cX7_get 12 = .ok (.getfield 110, 3) := by decide +kernel
theorem dX7_get_15 : decode cX7_get 15 = .ok (.iload_n 1, 1) := by decide +kernel
theorem dX7_get_16 : decode cX7_get 16 = .ok (.iaload, 1) := by decide +kernel
theorem dX7_get_17 : decode cX7_get 17 = .ok (.goto 4, 3) := by decide +kernel
theorem dX7_get_20 : decode cX7_get 20 = .ok (.iconst (-1), 1) := by decide +kernel
theorem dX7_get_21 : decode cX7_get 21 = .ok (.ireturn, 1) := by decide +kernel
theorem dX7_block_0 : decode cX7_block 0 = .ok (.aload_n 0, 1) := by decide +kernel
theorem dX7_block_1 : decode cX7_block 1 = .ok (.iload_n 1, 1) := by decide +kernel
theorem dX7_block_2 : decode cX7_block 2 = .ok (.invokevirtual 113, 3) := by decide +kernel
theorem dX7_block_5 : decode cX7_block 5 = .ok (.ifCond .ne 5, 3) := by decide +kernel
theorem dX7_block_8 : decode cX7_block 8 = .ok (.iconst (-1), 1) := by decide +kernel
theorem dX7_block_9 : decode cX7_block 9 = .ok (.ireturn, 1) := by decide +kernel
theorem dX7_block_10 : decode cX7_block 10 = .ok (.iload_n 2, 1) := by decide +kernel
theorem dX7_block_11 : decode cX7_block 11 = .ok (.tableswitch 138 0 8 #[49, 59, 68, 78, 88, 98, 108, 118, 128], 49) := by decide +kernel
theorem dX7_block_60 : decode cX7_block 60 = .ok (.aload_n 0, 1) := by decide +kernel
theorem dX7_block_61 : decode cX7_block 61 = .ok (.getfield 48, 3) := by decide +kernel
theorem dX7_block_64 : decode cX7_block 64 = .ok (.getfield 116, 3) := by decide +kernel
theorem dX7_block_67 : decode cX7_block 67 = .ok (.iload_n 1, 1) := by decide +kernel
theorem dX7_block_68 : decode cX7_block 68 = .ok (.iaload, 1) := by decide +kernel
theorem dX7_block_69 : decode cX7_block 69 = .ok (.ireturn, 1) := by decide +kernel
theorem dX7_block_70 : decode cX7_block 70 = .ok (.aload_n 0, 1) := by decide +kernel
theorem dX7_block_71 : decode cX7_block 71 = .ok (.getfield 48, 3) := by decide +kernel
theorem dX7_block_74 : decode cX7_block 74 = .ok (.iload_n 1, 1) := by decide +kernel
theorem dX7_block_75 : decode cX7_block 75 = .ok (.invokevirtual 119, 3) := by decide +kernel
theorem dX7_block_78 : decode cX7_block 78 = .ok (.ireturn, 1) := by decide +kernel
theorem dX7_block_79 : decode cX7_block 79 = .ok (.aload_n 0, 1) := by decide +kernel
theorem dX7_block_80 : decode cX7_block 80 = .ok (.getfield 26, 3) := by decide +kernel
theorem dX7_block_83 : decode cX7_block 83 = .ok (.getfield 123, 3) := by decide +kernel
theorem dX7_block_86 : decode cX7_block 86 = .ok (.iload_n 1, 1) := by decide +kernel
theorem dX7_block_87 : decode cX7_block 87 = .ok (.iaload, 1) := by decide +kernel
theorem dX7_block_88 : decode cX7_block 88 = .ok (.ireturn, 1) := by decide +kernel
theorem dX7_block_89 : decode cX7_block 89 = .ok (.aload_n 0, 1) := by decide +kernel
theorem dX7_block_90 : decode cX7_block 90 = .ok (.getfield 26, 3) := by decide +kernel
theorem dX7_block_93 : decode cX7_block 93 = .ok (.getfield 126, 3) := by decide +kernel
theorem dX7_block_96 : decode cX7_block 96 = .ok (.iload_n 1, 1) := by decide +kernel
theorem dX7_block_97 : decode cX7_block 97 = .ok (.iaload, 1) := by decide +kernel
theorem dX7_block_98 : decode cX7_block 98 = .ok (.ireturn, 1) := by decide +kernel
theorem dX7_block_99 : decode cX7_block 99 = .ok (.aload_n 0, 1) := by decide +kernel
theorem dX7_block_100 : decode cX7_block 100 = .ok (.getfield 26, 3) := by decide +kernel
theorem dX7_block_103 : decode cX7_block 103 = .ok (.getfield 129, 3) := by decide +kernel
theorem dX7_block_106 : decode cX7_block 106 = .ok (.iload_n 1, 1) := by decide +kernel
theorem dX7_block_107 : decode cX7_block 107 = .ok (.iaload, 1) := by decide +kernel
theorem dX7_block_108 : decode cX7_block 108 = .ok (.ireturn, 1) := by decide +kernel
theorem dX7_block_109 : decode cX7_block 109 = .ok (.aload_n 0, 1) := by decide +kernel
theorem dX7_block_110 : decode cX7_block 110 = .ok (.getfield 26, 3) := by decide +kernel
theorem dX7_block_113 : decode cX7_block 113 = .ok (.getfield 132, 3) := by decide +kernel
theorem dX7_block_116 : decode cX7_block 116 = .ok (.iload_n 1, 1) := by decide +kernel
theorem dX7_block_117 : decode cX7_block 117 = .ok (.iaload, 1) := by decide +kernel
theorem dX7_block_118 : decode cX7_block 118 = .ok (.ireturn, 1) := by decide +kernel
theorem dX7_block_119 : decode cX7_block 119 = .ok (.aload_n 0, 1) := by decide +kernel
theorem dX7_block_120 : decode cX7_block 120 = .ok (.getfield 26, 3) := by decide +kernel
theorem dX7_block_123 : decode cX7_block 123 = .ok (.getfield 135, 3) := by decide +kernel
theorem dX7_block_126 : decode cX7_block 126 = .ok (.iload_n 1, 1) := by decide +kernel
theorem dX7_block_127 : decode cX7_block 127 = .ok (.iaload, 1) := by decide +kernel
theorem dX7_block_128 : decode cX7_block 128 = .ok (.ireturn, 1) := by decide +kernel
theorem dX7_block_129 : decode cX7_block 129 = .ok (.aload_n 0, 1) := by decide +kernel
theorem dX7_block_130 : decode cX7_block 130 = .ok (.getfield 26, 3) := by decide +kernel
theorem dX7_block_133 : decode cX7_block 133 = .ok (.getfield 138, 3) := by decide +kernel
theorem dX7_block_136 : decode cX7_block 136 = .ok (.iload_n 1, 1) := by decide +kernel
theorem dX7_block_137 : decode cX7_block 137 = .ok (.iaload, 1) := by decide +kernel
theorem dX7_block_138 : decode cX7_block 138 = .ok (.ireturn, 1) := by decide +kernel
theorem dX7_block_139 : decode cX7_block 139 = .ok (.aload_n 0, 1) := by decide +kernel
theorem dX7_block_140 : decode cX7_block 140 = .ok (.getfield 26, 3) := by decide +kernel
theorem dX7_block_143 : decode cX7_block 143 = .ok (.getfield 141, 3) := by decide +kernel
theorem dX7_block_146 : decode cX7_block 146 = .ok (.iload_n 1, 1) := by decide +kernel
theorem dX7_block_147 : decode cX7_block 147 = .ok (.iaload, 1) := by decide +kernel
theorem dX7_block_148 : decode cX7_block 148 = .ok (.ireturn, 1) := by decide +kernel
theorem dX7_block_149 : decode cX7_block 149 = .ok (.iconst (-1), 1) := by decide +kernel
theorem dX7_block_150 : decode cX7_block 150 = .ok (.ireturn, 1) := by decide +kernel
theorem dX7_ticks_0 : decode cX7_ticks 0 = .ok (.aload_n 0, 1) := by decide +kernel
theorem dX7_ticks_1 : decode cX7_ticks 1 = .ok (.aload_n 0, 1) := by decide +kernel
theorem dX7_ticks_2 : decode cX7_ticks 2 = .ok (.iload_n 1, 1) := by decide +kernel
theorem dX7_ticks_3 : decode cX7_ticks 3 = .ok (.invokevirtual 144, 3) := by decide +kernel
theorem dX7_ticks_6 : decode cX7_ticks 6 = .ok (.invokevirtual 64, 3) := by decide +kernel
theorem dX7_ticks_9 : decode cX7_ticks 9 = .ok (.ifCond .eq 5, 3) := by decide +kernel
theorem dX7_ticks_12 : decode cX7_ticks 12 = .ok (.iconst (-1), 1) := by decide +kernel
theorem dX7_ticks_13 : decode cX7_ticks 13 = .ok (.ireturn, 1) := by decide +kernel
theorem dX7_ticks_14 : decode cX7_ticks 14 = .ok (.aload_n 0, 1) := by decide +kernel
theorem dX7_ticks_15 : decode cX7_ticks 15 = .ok (.iload_n 1, 1) := by decide +kernel
theorem dX7_ticks_16 : decode cX7_ticks 16 = .ok (.invokevirtual 147, 3) := by decide +kernel
theorem dX7_ticks_19 : decode cX7_ticks 19 = .ok (.ireturn, 1) := by decide +kernel
theorem dX7_gates_0 : decode cX7_gates 0 = .ok (.aload_n 0, 1) := by decide +kernel
theorem dX7_gates_1 : decode cX7_gates 1 = .ok (.aload_n 0, 1) := by decide +kernel
theorem dX7_gates_2 : decode cX7_gates 2 = .ok (.iload_n 1, 1) := by decide +kernel
theorem dX7_gates_3 : decode cX7_gates 3 = .ok (.invokevirtual 144, 3) := by decide +kernel
theorem dX7_gates_6 : decode cX7_gates 6 = .ok (.invokevirtual 64, 3) := by decide +kernel
theorem dX7_gates_9 : decode cX7_gates 9 = .ok (.ifCond .eq 5, 3) := by decide +kernel
theorem dX7_gates_12 : decode cX7_gates 12 = .ok (.iconst (-1), 1) := by decide +kernel
theorem dX7_gates_13 : decode cX7_gates 13 = .ok (.ireturn, 1) := by decide +kernel
theorem dX7_gates_14 : decode cX7_gates 14 = .ok (.aload_n 0, 1) := by decide +kernel
theorem dX7_gates_15 : decode cX7_gates 15 = .ok (.getfield 33, 3) := by decide +kernel
theorem dX7_gates_18 : decode cX7_gates 18 = .ok (.aload_n 0, 1) := by decide +kernel
theorem dX7_gates_19 : decode cX7_gates 19 = .ok (.getfield 26, 3) := by decide +kernel
theorem dX7_gates_22 : decode cX7_gates 22 = .ok (.aload_n 0, 1) := by decide +kernel
theorem dX7_gates_23 : decode cX7_gates 23 = .ok (.getfield 48, 3) := by decide +kernel
theorem dX7_gates_26 : decode cX7_gates 26 = .ok (.getfield 98, 3) := by decide +kernel
theorem dX7_gates_29 : decode cX7_gates 29 = .ok (.iload_n 1, 1) := by decide +kernel
theorem dX7_gates_30 : decode cX7_gates 30 = .ok (.invokevirtual 150, 3) := by decide +kernel
theorem dX7_gates_33 : decode cX7_gates 33 = .ok (.aload_n 0, 1) := by decide +kernel
theorem dX7_gates_34 : decode cX7_gates 34 = .ok (.getfield 33, 3) := by decide +kernel
theorem dX7_gates_37 : decode cX7_gates 37 = .ok (.getfield 154, 3) := by decide +kernel
theorem dX7_gates_40 : decode cX7_gates 40 = .ok (.ireturn, 1) := by decide +kernel
theorem dX7_moved_0 : decode cX7_moved 0 = .ok (.aload_n 0, 1) := by decide +kernel
theorem dX7_moved_1 : decode cX7_moved 1 = .ok (.aload_n 0, 1) := by decide +kernel
theorem dX7_moved_2 : decode cX7_moved 2 = .ok (.iload_n 1, 1) := by decide +kernel
theorem dX7_moved_3 : decode cX7_moved 3 = .ok (.invokevirtual 144, 3) := by decide +kernel
theorem dX7_moved_6 : decode cX7_moved 6 = .ok (.invokevirtual 64, 3) := by decide +kernel
theorem dX7_moved_9 : decode cX7_moved 9 = .ok (.ifCond .eq 5, 3) := by decide +kernel
theorem dX7_moved_12 : decode cX7_moved 12 = .ok (.iconst (-1), 1) := by decide +kernel
theorem dX7_moved_13 : decode cX7_moved 13 = .ok (.ireturn, 1) := by decide +kernel
theorem dX7_moved_14 : decode cX7_moved 14 = .ok (.aload_n 0, 1) := by decide +kernel
theorem dX7_moved_15 : decode cX7_moved 15 = .ok (.getfield 33, 3) := by decide +kernel
theorem dX7_moved_18 : decode cX7_moved 18 = .ok (.aload_n 0, 1) := by decide +kernel
theorem dX7_moved_19 : decode cX7_moved 19 = .ok (.getfield 26, 3) := by decide +kernel
theorem dX7_moved_22 : decode cX7_moved 22 = .ok (.aload_n 0, 1) := by decide +kernel
theorem dX7_moved_23 : decode cX7_moved 23 = .ok (.getfield 48, 3) := by decide +kernel
theorem dX7_moved_26 : decode cX7_moved 26 = .ok (.getfield 98, 3) := by decide +kernel
theorem dX7_moved_29 : decode cX7_moved 29 = .ok (.iload_n 1, 1) := by decide +kernel
theorem dX7_moved_30 : decode cX7_moved 30 = .ok (.invokevirtual 150, 3) := by decide +kernel
theorem dX7_moved_33 : decode cX7_moved 33 = .ok (.aload_n 0, 1) := by decide +kernel
theorem dX7_moved_34 : decode cX7_moved 34 = .ok (.getfield 33, 3) := by decide +kernel
theorem dX7_moved_37 : decode cX7_moved 37 = .ok (.getfield 156, 3) := by decide +kernel
theorem dX7_moved_40 : decode cX7_moved 40 = .ok (.ireturn, 1) := by decide +kernel
theorem dX7_room_0 : decode cX7_room 0 = .ok (.aload_n 0, 1) := by decide +kernel
theorem dX7_room_1 : decode cX7_room 1 = .ok (.aload_n 0, 1) := by decide +kernel
theorem dX7_room_2 : decode cX7_room 2 = .ok (.iload_n 1, 1) := by decide +kernel
theorem dX7_room_3 : decode cX7_room 3 = .ok (.invokevirtual 144, 3) := by decide +kernel
theorem dX7_room_6 : decode cX7_room 6 = .ok (.invokevirtual 64, 3) := by decide +kernel
theorem dX7_room_9 : decode cX7_room 9 = .ok (.ifCond .eq 5, 3) := by decide +kernel
theorem dX7_room_12 : decode cX7_room 12 = .ok (.iconst (-1), 1) := by decide +kernel
theorem dX7_room_13 : decode cX7_room 13 = .ok (.ireturn, 1) := by decide +kernel
theorem dX7_room_14 : decode cX7_room 14 = .ok (.aload_n 0, 1) := by decide +kernel
theorem dX7_room_15 : decode cX7_room 15 = .ok (.getfield 33, 3) := by decide +kernel
theorem dX7_room_18 : decode cX7_room 18 = .ok (.aload_n 0, 1) := by decide +kernel
theorem dX7_room_19 : decode cX7_room 19 = .ok (.getfield 26, 3) := by decide +kernel
theorem dX7_room_22 : decode cX7_room 22 = .ok (.aload_n 0, 1) := by decide +kernel
theorem dX7_room_23 : decode cX7_room 23 = .ok (.getfield 48, 3) := by decide +kernel
theorem dX7_room_26 : decode cX7_room 26 = .ok (.getfield 98, 3) := by decide +kernel
theorem dX7_room_29 : decode cX7_room 29 = .ok (.iload_n 1, 1) := by decide +kernel
theorem dX7_room_30 : decode cX7_room 30 = .ok (.invokevirtual 150, 3) := by decide +kernel
theorem dX7_room_33 : decode cX7_room 33 = .ok (.aload_n 0, 1) := by decide +kernel
theorem dX7_room_34 : decode cX7_room 34 = .ok (.getfield 33, 3) := by decide +kernel
theorem dX7_room_37 : decode cX7_room 37 = .ok (.getfield 159, 3) := by decide +kernel
theorem dX7_room_40 : decode cX7_room 40 = .ok (.ireturn, 1) := by decide +kernel
theorem dX7_moves_0 : decode cX7_moves 0 = .ok (.aload_n 0, 1) := by decide +kernel
theorem dX7_moves_1 : decode cX7_moves 1 = .ok (.aload_n 0, 1) := by decide +kernel
theorem dX7_moves_2 : decode cX7_moves 2 = .ok (.iload_n 1, 1) := by decide +kernel
theorem dX7_moves_3 : decode cX7_moves 3 = .ok (.invokevirtual 144, 3) := by decide +kernel
theorem dX7_moves_6 : decode cX7_moves 6 = .ok (.invokevirtual 64, 3) := by decide +kernel
theorem dX7_moves_9 : decode cX7_moves 9 = .ok (.ifCond .eq 5, 3) := by decide +kernel
theorem dX7_moves_12 : decode cX7_moves 12 = .ok (.iconst (-1), 1) := by decide +kernel
theorem dX7_moves_13 : decode cX7_moves 13 = .ok (.ireturn, 1) := by decide +kernel
theorem dX7_moves_14 : decode cX7_moves 14 = .ok (.aload_n 0, 1) := by decide +kernel
theorem dX7_moves_15 : decode cX7_moves 15 = .ok (.iload_n 2, 1) := by decide +kernel
theorem dX7_moves_16 : decode cX7_moves 16 = .ok (.aload_n 0, 1) := by decide +kernel
theorem dX7_moves_17 : decode cX7_moves 17 = .ok (.getfield 48, 3) := by decide +kernel
theorem dX7_moves_20 : decode cX7_moves 20 = .ok (.getfield 98, 3) := by decide +kernel
theorem dX7_moves_23 : decode cX7_moves 23 = .ok (.if_icmp .eq 11, 3) := by decide +kernel
theorem dX7_moves_26 : decode cX7_moves 26 = .ok (.aload_n 0, 1) := by decide +kernel
theorem dX7_moves_27 : decode cX7_moves 27 = .ok (.iload_n 2, 1) := by decide +kernel
theorem dX7_moves_28 : decode cX7_moves 28 = .ok (.invokevirtual 113, 3) := by decide +kernel
theorem dX7_moves_31 : decode cX7_moves 31 = .ok (.ifCond .eq 7, 3) := by decide +kernel
theorem dX7_moves_34 : decode cX7_moves 34 = .ok (.iconst 0, 1) := by decide +kernel
theorem dX7_moves_35 : decode cX7_moves 35 = .ok (.goto 4, 3) := by decide +kernel
theorem dX7_moves_38 : decode cX7_moves 38 = .ok (.iconst 1, 1) := by decide +kernel
theorem dX7_moves_39 : decode cX7_moves 39 = .ok (.invokevirtual 64, 3) := by decide +kernel
theorem dX7_moves_42 : decode cX7_moves 42 = .ok (.ifCond .eq 5, 3) := by decide +kernel
theorem dX7_moves_45 : decode cX7_moves 45 = .ok (.iconst (-1), 1) := by decide +kernel
theorem dX7_moves_46 : decode cX7_moves 46 = .ok (.ireturn, 1) := by decide +kernel
theorem dX7_moves_47 : decode cX7_moves 47 = .ok (.aload_n 0, 1) := by decide +kernel
theorem dX7_moves_48 : decode cX7_moves 48 = .ok (.getfield 33, 3) := by decide +kernel
theorem dX7_moves_51 : decode cX7_moves 51 = .ok (.aload_n 0, 1) := by decide +kernel
theorem dX7_moves_52 : decode cX7_moves 52 = .ok (.getfield 26, 3) := by decide +kernel
theorem dX7_moves_55 : decode cX7_moves 55 = .ok (.aload_n 0, 1) := by decide +kernel
theorem dX7_moves_56 : decode cX7_moves 56 = .ok (.getfield 48, 3) := by decide +kernel
theorem dX7_moves_59 : decode cX7_moves 59 = .ok (.getfield 98, 3) := by decide +kernel
theorem dX7_moves_62 : decode cX7_moves 62 = .ok (.iload_n 1, 1) := by decide +kernel
theorem dX7_moves_63 : decode cX7_moves 63 = .ok (.invokevirtual 150, 3) := by decide +kernel
theorem dX7_moves_66 : decode cX7_moves 66 = .ok (.aload_n 0, 1) := by decide +kernel
theorem dX7_moves_67 : decode cX7_moves 67 = .ok (.getfield 33, 3) := by decide +kernel
theorem dX7_moves_70 : decode cX7_moves 70 = .ok (.getfield 162, 3) := by decide +kernel
theorem dX7_moves_73 : decode cX7_moves 73 = .ok (.iload_n 2, 1) := by decide +kernel
theorem dX7_moves_74 : decode cX7_moves 74 = .ok (.iaload, 1) := by decide +kernel
theorem dX7_moves_75 : decode cX7_moves 75 = .ok (.ireturn, 1) := by decide +kernel
theorem dX7_quickest_0 : decode cX7_quickest 0 = .ok (.aload_n 0, 1) := by decide +kernel
theorem dX7_quickest_1 : decode cX7_quickest 1 = .ok (.aload_n 0, 1) := by decide +kernel
theorem dX7_quickest_2 : decode cX7_quickest 2 = .ok (.iload_n 1, 1) := by decide +kernel
theorem dX7_quickest_3 : decode cX7_quickest 3 = .ok (.ldc 165, 2) := by decide +kernel
theorem dX7_quickest_5 : decode cX7_quickest 5 = .ok (.invokevirtual 166, 3) := by decide +kernel
theorem dX7_quickest_8 : decode cX7_quickest 8 = .ok (.invokevirtual 64, 3) := by decide +kernel
theorem dX7_quickest_11 : decode cX7_quickest 11 = .ok (.ifCond .eq 5, 3) := by decide +kernel
theorem dX7_quickest_14 : decode cX7_quickest 14 = .ok (.iconst (-1), 1) := by decide +kernel
theorem dX7_quickest_15 : decode cX7_quickest 15 = .ok (.ireturn, 1) := by decide +kernel
theorem dX7_quickest_16 : decode cX7_quickest 16 = .ok (.aload_n 0, 1) := by decide +kernel
theorem dX7_quickest_17 : decode cX7_quickest 17 = .ok (.getfield 33, 3) := by decide +kernel
theorem dX7_quickest_20 : decode cX7_quickest 20 = .ok (.aload_n 0, 1) := by decide +kernel
theorem dX7_quickest_21 : decode cX7_quickest 21 = .ok (.getfield 26, 3) := by decide +kernel
theorem dX7_quickest_24 : decode cX7_quickest 24 = .ok (.aload_n 0, 1) := by decide +kernel
theorem dX7_quickest_25 : decode cX7_quickest 25 = .ok (.getfield 48, 3) := by decide +kernel
theorem dX7_quickest_28 : decode cX7_quickest 28 = .ok (.getfield 98, 3) := by decide +kernel
theorem dX7_quickest_31 : decode cX7_quickest 31 = .ok (.aload_n 0, 1) := by decide +kernel
theorem dX7_quickest_32 : decode cX7_quickest 32 = .ok (.getfield 58, 3) := by decide +kernel
theorem dX7_quickest_35 : decode cX7_quickest 35 = .ok (.invokevirtual 170, 3) := by decide +kernel
theorem dX7_quickest_38 : decode cX7_quickest 38 = .ok (.aload_n 0, 1) := by decide +kernel
theorem dX7_quickest_39 : decode cX7_quickest 39 = .ok (.getfield 33, 3) := by decide +kernel
theorem dX7_quickest_42 : decode cX7_quickest 42 = .ok (.iload_n 1, 1) := by decide +kernel
theorem dX7_quickest_43 : decode cX7_quickest 43 = .ok (.invokevirtual 173, 3) := by decide +kernel
theorem dX7_quickest_46 : decode cX7_quickest 46 = .ok (.ireturn, 1) := by decide +kernel
theorem dX7_fewest_0 : decode cX7_fewest 0 = .ok (.aload_n 0, 1) := by decide +kernel
theorem dX7_fewest_1 : decode cX7_fewest 1 = .ok (.aload_n 0, 1) := by decide +kernel
theorem dX7_fewest_2 : decode cX7_fewest 2 = .ok (.iload_n 1, 1) := by decide +kernel
theorem dX7_fewest_3 : decode cX7_fewest 3 = .ok (.ldc 176, 2) := by decide +kernel
theorem dX7_fewest_5 : decode cX7_fewest 5 = .ok (.invokevirtual 166, 3) := by decide +kernel
theorem dX7_fewest_8 : decode cX7_fewest 8 = .ok (.invokevirtual 64, 3) := by decide +kernel
theorem dX7_fewest_11 : decode cX7_fewest 11 = .ok (.ifCond .eq 5, 3) := by decide +kernel
theorem dX7_fewest_14 : decode cX7_fewest 14 = .ok (.iconst (-1), 1) := by decide +kernel
theorem dX7_fewest_15 : decode cX7_fewest 15 = .ok (.ireturn, 1) := by decide +kernel
theorem dX7_fewest_16 : decode cX7_fewest 16 = .ok (.aload_n 0, 1) := by decide +kernel
theorem dX7_fewest_17 : decode cX7_fewest 17 = .ok (.getfield 33, 3) := by decide +kernel
theorem dX7_fewest_20 : decode cX7_fewest 20 = .ok (.aload_n 0, 1) := by decide +kernel
theorem dX7_fewest_21 : decode cX7_fewest 21 = .ok (.getfield 26, 3) := by decide +kernel
theorem dX7_fewest_24 : decode cX7_fewest 24 = .ok (.aload_n 0, 1) := by decide +kernel
theorem dX7_fewest_25 : decode cX7_fewest 25 = .ok (.getfield 48, 3) := by decide +kernel
theorem dX7_fewest_28 : decode cX7_fewest 28 = .ok (.getfield 98, 3) := by decide +kernel
theorem dX7_fewest_31 : decode cX7_fewest 31 = .ok (.aload_n 0, 1) := by decide +kernel
theorem dX7_fewest_32 : decode cX7_fewest 32 = .ok (.getfield 58, 3) := by decide +kernel
theorem dX7_fewest_35 : decode cX7_fewest 35 = .ok (.invokevirtual 170, 3) := by decide +kernel
theorem dX7_fewest_38 : decode cX7_fewest 38 = .ok (.aload_n 0, 1) := by decide +kernel
theorem dX7_fewest_39 : decode cX7_fewest 39 = .ok (.getfield 33, 3) := by decide +kernel
theorem dX7_fewest_42 : decode cX7_fewest 42 = .ok (.iload_n 1, 1) := by decide +kernel
theorem dX7_fewest_43 : decode cX7_fewest 43 = .ok (.invokevirtual 177, 3) := by decide +kernel
theorem dX7_fewest_46 : decode cX7_fewest 46 = .ok (.ireturn, 1) := by decide +kernel
theorem dX7_turn_0 : decode cX7_turn 0 = .ok (.aload_n 0, 1) := by decide +kernel
theorem dX7_turn_1 : decode cX7_turn 1 = .ok (.aload_n 0, 1) := by decide +kernel
theorem dX7_turn_2 : decode cX7_turn 2 = .ok (.iload_n 1, 1) := by decide +kernel
theorem dX7_turn_3 : decode cX7_turn 3 = .ok (.invokevirtual 144, 3) := by decide +kernel
theorem dX7_turn_6 : decode cX7_turn 6 = .ok (.invokevirtual 64, 3) := by decide +kernel
theorem dX7_turn_9 : decode cX7_turn 9 = .ok (.ifCond .eq 6, 3) := by decide +kernel
theorem dX7_turn_12 : decode cX7_turn 12 = .ok (.ldc 180, 2) := by decide +kernel
theorem dX7_turn_14 : decode cX7_turn 14 = .ok (.ireturn, 1) := by decide +kernel
theorem dX7_turn_15 : decode cX7_turn 15 = .ok (.aload_n 0, 1) := by decide +kernel
theorem dX7_turn_16 : decode cX7_turn 16 = .ok (.aload_n 0, 1) := by decide +kernel
theorem dX7_turn_17 : decode cX7_turn 17 = .ok (.iload_n 2, 1) := by decide +kernel
theorem dX7_turn_18 : decode cX7_turn 18 = .ok (.invokevirtual 181, 3) := by decide +kernel
theorem dX7_turn_21 : decode cX7_turn 21 = .ok (.invokevirtual 64, 3) := by decide +kernel
theorem dX7_turn_24 : decode cX7_turn 24 = .ok (.ifCond .eq 6, 3) := by decide +kernel
theorem dX7_turn_27 : decode cX7_turn 27 = .ok (.ldc 180, 2) := by decide +kernel
theorem dX7_turn_29 : decode cX7_turn 29 = .ok (.ireturn, 1) := by decide +kernel
theorem dX7_turn_30 : decode cX7_turn 30 = .ok (.aload_n 0, 1) := by decide +kernel
theorem dX7_turn_31 : decode cX7_turn 31 = .ok (.iload_n 1, 1) := by decide +kernel
theorem dX7_turn_32 : decode cX7_turn 32 = .ok (.iconst 1, 1) := by decide +kernel
theorem dX7_turn_33 : decode cX7_turn 33 = .ok (.iload_n 2, 1) := by decide +kernel
theorem dX7_turn_34 : decode cX7_turn 34 = .ok (.ishl, 1) := by decide +kernel
theorem dX7_turn_35 : decode cX7_turn 35 = .ok (.ixor, 1) := by decide +kernel
theorem dX7_turn_36 : decode cX7_turn 36 = .ok (.invokevirtual 147, 3) := by decide +kernel
theorem dX7_turn_39 : decode cX7_turn 39 = .ok (.aload_n 0, 1) := by decide +kernel
theorem dX7_turn_40 : decode cX7_turn 40 = .ok (.iload_n 1, 1) := by decide +kernel
theorem dX7_turn_41 : decode cX7_turn 41 = .ok (.invokevirtual 147, 3) := by decide +kernel
theorem dX7_turn_44 : decode cX7_turn 44 = .ok (.isub, 1) := by decide +kernel
theorem dX7_turn_45 : decode cX7_turn 45 = .ok (.ireturn, 1) := by decide +kernel
theorem dX7_edges_0 : decode cX7_edges 0 = .ok (.aload_n 0, 1) := by decide +kernel
theorem dX7_edges_1 : decode cX7_edges 1 = .ok (.aload_n 0, 1) := by decide +kernel
theorem dX7_edges_2 : decode cX7_edges 2 = .ok (.invokevirtual 184, 3) := by decide +kernel
theorem dX7_edges_5 : decode cX7_edges 5 = .ok (.ifCond .eq 7, 3) := by decide +kernel
theorem dX7_edges_8 : decode cX7_edges 8 = .ok (.iconst 0, 1) := by decide +kernel
theorem dX7_edges_9 : decode cX7_edges 9 = .ok (.goto 4, 3) := by decide +kernel
theorem dX7_edges_12 : decode cX7_edges 12 = .ok (.iconst 4, 1) := by decide +kernel
theorem dX7_edges_13 : decode cX7_edges 13 = .ok (.invokevirtual 64, 3) := by decide +kernel
theorem dX7_edges_16 : decode cX7_edges 16 = .ok (.ifCond .eq 5, 3) := by decide +kernel
theorem dX7_edges_19 : decode cX7_edges 19 = .ok (.iconst (-1), 1) := by decide +kernel
theorem dX7_edges_20 : decode cX7_edges 20 = .ok (.ireturn, 1) := by decide +kernel
theorem dX7_edges_21 : decode cX7_edges 21 = .ok (.aload_n 0, 1) := by decide +kernel
theorem dX7_edges_22 : decode cX7_edges 22 = .ok (.getfield 33, 3) := by decide +kernel
theorem dX7_edges_25 : decode cX7_edges 25 = .ok (.aload_n 0, 1) := by decide +kernel
theorem dX7_edges_26 : decode cX7_edges 26 = .ok (.getfield 26, 3) := by decide +kernel
theorem dX7_edges_29 : decode cX7_edges 29 = .ok (.aload_n 0, 1) := by decide +kernel
theorem dX7_edges_30 : decode cX7_edges 30 = .ok (.getfield 48, 3) := by decide +kernel
theorem dX7_edges_33 : decode cX7_edges 33 = .ok (.getfield 98, 3) := by decide +kernel
theorem dX7_edges_36 : decode cX7_edges 36 = .ok (.aload_n 0, 1) := by decide +kernel
theorem dX7_edges_37 : decode cX7_edges 37 = .ok (.getfield 58, 3) := by decide +kernel
theorem dX7_edges_40 : decode cX7_edges 40 = .ok (.invokevirtual 170, 3) := by decide +kernel
theorem dX7_edges_43 : decode cX7_edges 43 = .ok (.aload_n 0, 1) := by decide +kernel
theorem dX7_edges_44 : decode cX7_edges 44 = .ok (.getfield 33, 3) := by decide +kernel
theorem dX7_edges_47 : decode cX7_edges 47 = .ok (.getfield 188, 3) := by decide +kernel
theorem dX7_edges_50 : decode cX7_edges 50 = .ok (.iconst 0, 1) := by decide +kernel
theorem dX7_edges_51 : decode cX7_edges 51 = .ok (.aload_n 0, 1) := by decide +kernel
theorem dX7_edges_52 : decode cX7_edges 52 = .ok (.getfield 37, 3) := by decide +kernel
theorem dX7_edges_55 : decode cX7_edges 55 = .ok (.iconst 0, 1) := by decide +kernel
theorem dX7_edges_56 : decode cX7_edges 56 = .ok (.aload_n 0, 1) := by decide +kernel
theorem dX7_edges_57 : decode cX7_edges 57 = .ok (.getfield 33, 3) := by decide +kernel
theorem dX7_edges_60 : decode cX7_edges 60 = .ok (.getfield 191, 3) := by decide +kernel
theorem dX7_edges_63 : decode cX7_edges 63 = .ok (.invokestatic 194, 3) := by decide +kernel
theorem dX7_edges_66 : decode cX7_edges 66 = .ok (.aload_n 0, 1) := by decide +kernel
theorem dX7_edges_67 : decode cX7_edges 67 = .ok (.aload_n 0, 1) := by decide +kernel
theorem dX7_edges_68 : decode cX7_edges 68 = .ok (.getfield 33, 3) := by decide +kernel
theorem dX7_edges_71 : decode cX7_edges 71 = .ok (.getfield 191, 3) := by decide +kernel
theorem dX7_edges_74 : decode cX7_edges 74 = .ok (.putfield 41, 3) := by decide +kernel
theorem dX7_edges_77 : decode cX7_edges 77 = .ok (.aload_n 0, 1) := by decide +kernel
theorem dX7_edges_78 : decode cX7_edges 78 = .ok (.getfield 41, 3) := by decide +kernel
theorem dX7_edges_81 : decode cX7_edges 81 = .ok (.ireturn, 1) := by decide +kernel
theorem dX7_edge_0 : decode cX7_edge 0 = .ok (.iload_n 1, 1) := by decide +kernel
theorem dX7_edge_1 : decode cX7_edge 1 = .ok (.ifCond .lt 20, 3) := by decide +kernel
theorem dX7_edge_4 : decode cX7_edge 4 = .ok (.iload_n 1, 1) := by decide +kernel
theorem dX7_edge_5 : decode cX7_edge 5 = .ok (.aload_n 0, 1) := by decide +kernel
theorem dX7_edge_6 : decode cX7_edge 6 = .ok (.getfield 41, 3) := by decide +kernel
theorem dX7_edge_9 : decode cX7_edge 9 = .ok (.if_icmp .ge 12, 3) := by decide +kernel
theorem dX7_edge_12 : decode cX7_edge 12 = .ok (.aload_n 0, 1) := by decide +kernel
theorem dX7_edge_13 : decode cX7_edge 13 = .ok (.getfield 37, 3) := by decide +kernel
theorem dX7_edge_16 : decode cX7_edge 16 = .ok (.iload_n 1, 1) := by decide +kernel
theorem dX7_edge_17 : decode cX7_edge 17 = .ok (.iaload, 1) := by decide +kernel
theorem dX7_edge_18 : decode cX7_edge 18 = .ok (.goto 4, 3) := by decide +kernel
theorem dX7_edge_21 : decode cX7_edge 21 = .ok (.iconst (-1), 1) := by decide +kernel
theorem dX7_edge_22 : decode cX7_edge 22 = .ok (.ireturn, 1) := by decide +kernel
theorem dX7_run_0 : decode cX7_run 0 = .ok (.aload_n 0, 1) := by decide +kernel
theorem dX7_run_1 : decode cX7_run 1 = .ok (.aload_n 0, 1) := by decide +kernel
theorem dX7_run_2 : decode cX7_run 2 = .ok (.iload_n 1, 1) := by decide +kernel
theorem dX7_run_3 : decode cX7_run 3 = .ok (.invokevirtual 144, 3) := by decide +kernel
theorem dX7_run_6 : decode cX7_run 6 = .ok (.invokevirtual 64, 3) := by decide +kernel
theorem dX7_run_9 : decode cX7_run 9 = .ok (.ifCond .eq 5, 3) := by decide +kernel
theorem dX7_run_12 : decode cX7_run 12 = .ok (.iconst (-1), 1) := by decide +kernel
theorem dX7_run_13 : decode cX7_run 13 = .ok (.ireturn, 1) := by decide +kernel
theorem dX7_run_14 : decode cX7_run 14 = .ok (.iconst 0, 1) := by decide +kernel
theorem dX7_run_15 : decode cX7_run 15 = .ok (.istore_n 2, 1) := by decide +kernel
theorem dX7_run_16 : decode cX7_run 16 = .ok (.iload_n 2, 1) := by decide +kernel
theorem dX7_run_17 : decode cX7_run 17 = .ok (.aload_n 0, 1) := by decide +kernel
theorem dX7_run_18 : decode cX7_run 18 = .ok (.getfield 48, 3) := by decide +kernel
theorem dX7_run_21 : decode cX7_run 21 = .ok (.getfield 98, 3) := by decide +kernel
theorem dX7_run_24 : decode cX7_run 24 = .ok (.if_icmp .ge 53, 3) := by decide +kernel
theorem dX7_run_27 : decode cX7_run 27 = .ok (.iconst 0, 1) := by decide +kernel
theorem dX7_run_28 : decode cX7_run 28 = .ok (.istore_n 3, 1) := by decide +kernel
theorem dX7_run_29 : decode cX7_run 29 = .ok (.iload_n 3, 1) := by decide +kernel
theorem dX7_run_30 : decode cX7_run 30 = .ok (.aload_n 0, 1) := by decide +kernel
theorem dX7_run_31 : decode cX7_run 31 = .ok (.getfield 48, 3) := by decide +kernel
theorem dX7_run_34 : decode cX7_run 34 = .ok (.getfield 116, 3) := by decide +kernel
theorem dX7_run_37 : decode cX7_run 37 = .ok (.iload_n 2, 1) := by decide +kernel
theorem dX7_run_38 : decode cX7_run 38 = .ok (.iaload, 1) := by decide +kernel
theorem dX7_run_39 : decode cX7_run 39 = .ok (.if_icmp .ge 32, 3) := by decide +kernel
theorem dX7_run_42 : decode cX7_run 42 = .ok (.aload_n 0, 1) := by decide +kernel
theorem dX7_run_43 : decode cX7_run 43 = .ok (.getfield 19, 3) := by decide +kernel
theorem dX7_run_46 : decode cX7_run 46 = .ok (.aload_n 0, 1) := by decide +kernel
theorem dX7_run_47 : decode cX7_run 47 = .ok (.getfield 48, 3) := by decide +kernel
theorem dX7_run_50 : decode cX7_run 50 = .ok (.iload_n 2, 1) := by decide +kernel
theorem dX7_run_51 : decode cX7_run 51 = .ok (.aload_n 0, 1) := by decide +kernel
theorem dX7_run_52 : decode cX7_run 52 = .ok (.getfield 19, 3) := by decide +kernel
theorem dX7_run_55 : decode cX7_run 55 = .ok (.getfield 110, 3) := by decide +kernel
theorem dX7_run_58 : decode cX7_run 58 = .ok (.aload_n 0, 1) := by decide +kernel
theorem dX7_run_59 : decode cX7_run 59 = .ok (.invokevirtual 68, 3) := by decide +kernel
theorem dX7_run_62 : decode cX7_run 62 = .ok (.invokevirtual 200, 3) := by decide +kernel
theorem dX7_run_65 : decode cX7_run 65 = .ok (.iinc 3 1, 3) := by decide +kernel
theorem dX7_run_68 : decode cX7_run 68 = .ok (.goto (-39), 3) := by decide +kernel
theorem dX7_run_71 : decode cX7_run 71 = .ok (.iinc 2 1, 3) := by decide +kernel
theorem dX7_run_74 : decode cX7_run 74 = .ok (.goto (-58), 3) := by decide +kernel
theorem dX7_run_77 : decode cX7_run 77 = .ok (.aload_n 0, 1) := by decide +kernel
theorem dX7_run_78 : decode cX7_run 78 = .ok (.iload_n 1, 1) := by decide +kernel
theorem dX7_run_79 : decode cX7_run 79 = .ok (.invokevirtual 147, 3) := by decide +kernel
theorem dX7_run_82 : decode cX7_run 82 = .ok (.ireturn, 1) := by decide +kernel
theorem dX7_once_0 : decode cX7_once 0 = .ok (.aload_n 0, 1) := by decide +kernel
theorem dX7_once_1 : decode cX7_once 1 = .ok (.aload_n 0, 1) := by decide +kernel
theorem dX7_once_2 : decode cX7_once 2 = .ok (.iload_n 1, 1) := by decide +kernel
theorem dX7_once_3 : decode cX7_once 3 = .ok (.invokevirtual 181, 3) := by decide +kernel
theorem dX7_once_6 : decode cX7_once 6 = .ok (.invokevirtual 64, 3) := by decide +kernel
theorem dX7_once_9 : decode cX7_once 9 = .ok (.ifCond .eq 5, 3) := by decide +kernel
theorem dX7_once_12 : decode cX7_once 12 = .ok (.iconst 0, 1) := by decide +kernel
theorem dX7_once_13 : decode cX7_once 13 = .ok (.ireturn, 1) := by decide +kernel
theorem dX7_once_14 : decode cX7_once 14 = .ok (.aload_n 0, 1) := by decide +kernel
theorem dX7_once_15 : decode cX7_once 15 = .ok (.getfield 19, 3) := by decide +kernel
theorem dX7_once_18 : decode cX7_once 18 = .ok (.aload_n 0, 1) := by decide +kernel
theorem dX7_once_19 : decode cX7_once 19 = .ok (.getfield 48, 3) := by decide +kernel
theorem dX7_once_22 : decode cX7_once 22 = .ok (.iload_n 1, 1) := by decide +kernel
theorem dX7_once_23 : decode cX7_once 23 = .ok (.aload_n 0, 1) := by decide +kernel
theorem dX7_once_24 : decode cX7_once 24 = .ok (.getfield 19, 3) := by decide +kernel
theorem dX7_once_27 : decode cX7_once 27 = .ok (.getfield 110, 3) := by decide +kernel
theorem dX7_once_30 : decode cX7_once 30 = .ok (.aload_n 0, 1) := by decide +kernel
theorem dX7_once_31 : decode cX7_once 31 = .ok (.invokevirtual 68, 3) := by decide +kernel
theorem dX7_once_34 : decode cX7_once 34 = .ok (.invokevirtual 200, 3) := by decide +kernel
theorem dX7_once_37 : decode cX7_once 37 = .ok (.iconst 1, 1) := by decide +kernel
theorem dX7_once_38 : decode cX7_once 38 = .ok (.ireturn, 1) := by decide +kernel
theorem dX7_changes_0 : decode cX7_changes 0 = .ok (.aload_n 0, 1) := by decide +kernel
theorem dX7_changes_1 : decode cX7_changes 1 = .ok (.aload_n 0, 1) := by decide +kernel
theorem dX7_changes_2 : decode cX7_changes 2 = .ok (.iload_n 1, 1) := by decide +kernel
theorem dX7_changes_3 : decode cX7_changes 3 = .ok (.invokevirtual 181, 3) := by decide +kernel
theorem dX7_changes_6 : decode cX7_changes 6 = .ok (.invokevirtual 64, 3) := by decide +kernel
theorem dX7_changes_9 : decode cX7_changes 9 = .ok (.ifCond .eq 5, 3) := by decide +kernel
theorem dX7_changes_12 : decode cX7_changes 12 = .ok (.iconst (-1), 1) := by decide +kernel
theorem dX7_changes_13 : decode cX7_changes 13 = .ok (.ireturn, 1) := by decide +kernel
theorem dX7_changes_14 : decode cX7_changes 14 = .ok (.aload_n 0, 1) := by decide +kernel
theorem dX7_changes_15 : decode cX7_changes 15 = .ok (.aload_n 0, 1) := by decide +kernel
theorem dX7_changes_16 : decode cX7_changes 16 = .ok (.iload_n 2, 1) := by decide +kernel
theorem dX7_changes_17 : decode cX7_changes 17 = .ok (.invokevirtual 107, 3) := by decide +kernel
theorem dX7_changes_20 : decode cX7_changes 20 = .ok (.ifCond .eq 7, 3) := by decide +kernel
theorem dX7_changes_23 : decode cX7_changes 23 = .ok (.iconst 0, 1) := by decide +kernel
theorem dX7_changes_24 : decode cX7_changes 24 = .ok (.goto 4, 3) := by decide +kernel
theorem dX7_changes_27 : decode cX7_changes 27 = .ok (.iconst 1, 1) := by decide +kernel
theorem dX7_changes_28 : decode cX7_changes 28 = .ok (.invokevirtual 64, 3) := by decide +kernel
theorem dX7_changes_31 : decode cX7_changes 31 = .ok (.ifCond .eq 5, 3) := by decide +kernel
theorem dX7_changes_34 : decode cX7_changes 34 = .ok (.iconst (-1), 1) := by decide +kernel
theorem dX7_changes_35 : decode cX7_changes 35 = .ok (.ireturn, 1) := by decide +kernel
theorem dX7_changes_36 : decode cX7_changes 36 = .ok (.aload_n 0, 1) := by decide +kernel
theorem dX7_changes_37 : decode cX7_changes 37 = .ok (.getfield 19, 3) := by decide +kernel
theorem dX7_changes_40 : decode cX7_changes 40 = .ok (.aload_n 0, 1) := by decide +kernel
theorem dX7_changes_41 : decode cX7_changes 41 = .ok (.getfield 48, 3) := by decide +kernel
theorem dX7_changes_44 : decode cX7_changes 44 = .ok (.iload_n 1, 1) := by decide +kernel
theorem dX7_changes_45 : decode cX7_changes 45 = .ok (.aload_n 0, 1) := by decide +kernel
theorem dX7_changes_46 : decode cX7_changes 46 = .ok (.invokevirtual 68, 3) := by decide +kernel
theorem dX7_changes_49 : decode cX7_changes 49 = .ok (.invokevirtual 204, 3) := by decide +kernel
theorem dX7_changes_52 : decode cX7_changes 52 = .ok (.aload_n 0, 1) := by decide +kernel
theorem dX7_changes_53 : decode cX7_changes 53 = .ok (.getfield 19, 3) := by decide +kernel
theorem dX7_changes_56 : decode cX7_changes 56 = .ok (.getfield 110, 3) := by decide +kernel
theorem dX7_changes_59 : decode cX7_changes 59 = .ok (.iload_n 2, 1) := by decide +kernel
theorem dX7_changes_60 : decode cX7_changes 60 = .ok (.iaload, 1) := by decide +kernel
theorem dX7_changes_61 : decode cX7_changes 61 = .ok (.aload_n 0, 1) := by decide +kernel
theorem dX7_changes_62 : decode cX7_changes 62 = .ok (.getfield 19, 3) := by decide +kernel
theorem dX7_changes_65 : decode cX7_changes 65 = .ok (.getfield 208, 3) := by decide +kernel
theorem dX7_changes_68 : decode cX7_changes 68 = .ok (.iload_n 2, 1) := by decide +kernel
theorem dX7_changes_69 : decode cX7_changes 69 = .ok (.iaload, 1) := by decide +kernel
theorem dX7_changes_70 : decode cX7_changes 70 = .ok (.ixor, 1) := by decide +kernel
theorem dX7_changes_71 : decode cX7_changes 71 = .ok (.ireturn, 1) := by decide +kernel
theorem dX7_still_0 : decode cX7_still 0 = .ok (.aload_n 0, 1) := by decide +kernel
theorem dX7_still_1 : decode cX7_still 1 = .ok (.aload_n 0, 1) := by decide +kernel
theorem dX7_still_2 : decode cX7_still 2 = .ok (.iload_n 1, 1) := by decide +kernel
theorem dX7_still_3 : decode cX7_still 3 = .ok (.invokevirtual 181, 3) := by decide +kernel
theorem dX7_still_6 : decode cX7_still 6 = .ok (.invokevirtual 64, 3) := by decide +kernel
theorem dX7_still_9 : decode cX7_still 9 = .ok (.ifCond .eq 5, 3) := by decide +kernel
theorem dX7_still_12 : decode cX7_still 12 = .ok (.iconst (-1), 1) := by decide +kernel
theorem dX7_still_13 : decode cX7_still 13 = .ok (.ireturn, 1) := by decide +kernel
theorem dX7_still_14 : decode cX7_still 14 = .ok (.aload_n 0, 1) := by decide +kernel
theorem dX7_still_15 : decode cX7_still 15 = .ok (.getfield 19, 3) := by decide +kernel
theorem dX7_still_18 : decode cX7_still 18 = .ok (.aload_n 0, 1) := by decide +kernel
theorem dX7_still_19 : decode cX7_still 19 = .ok (.getfield 48, 3) := by decide +kernel
theorem dX7_still_22 : decode cX7_still 22 = .ok (.iload_n 1, 1) := by decide +kernel
theorem dX7_still_23 : decode cX7_still 23 = .ok (.aload_n 0, 1) := by decide +kernel
theorem dX7_still_24 : decode cX7_still 24 = .ok (.invokevirtual 68, 3) := by decide +kernel
theorem dX7_still_27 : decode cX7_still 27 = .ok (.invokevirtual 204, 3) := by decide +kernel
theorem dX7_still_30 : decode cX7_still 30 = .ok (.aload_n 0, 1) := by decide +kernel
theorem dX7_still_31 : decode cX7_still 31 = .ok (.getfield 19, 3) := by decide +kernel
theorem dX7_still_34 : decode cX7_still 34 = .ok (.invokevirtual 211, 3) := by decide +kernel
theorem dX7_still_37 : decode cX7_still 37 = .ok (.ifCond .eq 7, 3) := by decide +kernel
theorem dX7_still_40 : decode cX7_still 40 = .ok (.iconst 1, 1) := by decide +kernel
theorem dX7_still_41 : decode cX7_still 41 = .ok (.goto 4, 3) := by decide +kernel
theorem dX7_still_44 : decode cX7_still 44 = .ok (.iconst 0, 1) := by decide +kernel
theorem dX7_still_45 : decode cX7_still 45 = .ok (.ireturn, 1) := by decide +kernel
theorem dX7_name_0 : decode cX7_name 0 = .ok (.aload_n 0, 1) := by decide +kernel
theorem dX7_name_1 : decode cX7_name 1 = .ok (.iload_n 1, 1) := by decide +kernel
theorem dX7_name_2 : decode cX7_name 2 = .ok (.invokevirtual 113, 3) := by decide +kernel
theorem dX7_name_5 : decode cX7_name 5 = .ok (.ifCond .eq 20, 3) := by decide +kernel
theorem dX7_name_8 : decode cX7_name 8 = .ok (.iload_n 2, 1) := by decide +kernel
theorem dX7_name_9 : decode cX7_name 9 = .ok (.ifCond .lt 16, 3) := by decide +kernel
theorem dX7_name_12 : decode cX7_name 12 = .ok (.iload_n 2, 1) := by decide +kernel
theorem dX7_name_13 : decode cX7_name 13 = .ok (.aload_n 0, 1) := by decide +kernel
theorem dX7_name_14 : decode cX7_name 14 = .ok (.getfield 48, 3) := by decide +kernel
theorem dX7_name_17 : decode cX7_name 17 = .ok (.getfield 214, 3) := by decide +kernel
theorem dX7_name_20 : decode cX7_name 20 = .ok (.iload_n 1, 1) := by decide +kernel
theorem dX7_name_21 : decode cX7_name 21 = .ok (.iaload, 1) := by decide +kernel
theorem dX7_name_22 : decode cX7_name 22 = .ok (.if_icmp .lt 11, 3) := by decide +kernel
theorem dX7_name_25 : decode cX7_name 25 = .ok (.new 217, 3) := by decide +kernel
theorem dX7_name_28 : decode cX7_name 28 = .ok (.dup, 1) := by decide +kernel
theorem dX7_name_29 : decode cX7_name 29 = .ok (.invokespecial 219, 3) := by decide +kernel
theorem dX7_name_32 : decode cX7_name 32 = .ok (.athrow, 1) := by decide +kernel
theorem dX7_name_33 : decode cX7_name 33 = .ok (.aload_n 0, 1) := by decide +kernel
theorem dX7_name_34 : decode cX7_name 34 = .ok (.getfield 48, 3) := by decide +kernel
theorem dX7_name_37 : decode cX7_name 37 = .ok (.getfield 220, 3) := by decide +kernel
theorem dX7_name_40 : decode cX7_name 40 = .ok (.iload_n 1, 1) := by decide +kernel
theorem dX7_name_41 : decode cX7_name 41 = .ok (.bipush 8, 2) := by decide +kernel
theorem dX7_name_43 : decode cX7_name 43 = .ok (.imul, 1) := by decide +kernel
theorem dX7_name_44 : decode cX7_name 44 = .ok (.iload_n 2, 1) := by decide +kernel
theorem dX7_name_45 : decode cX7_name 45 = .ok (.iadd, 1) := by decide +kernel
theorem dX7_name_46 : decode cX7_name 46 = .ok (.iaload, 1) := by decide +kernel
theorem dX7_name_47 : decode cX7_name 47 = .ok (.ireturn, 1) := by decide +kernel
theorem dX7_count_0 : decode cX7_count 0 = .ok (.iload_n 1, 1) := by decide +kernel
theorem dX7_count_1 : decode cX7_count 1 = .ok (.tableswitch 81 0 5 #[39, 44, 49, 54, 62, 73], 39) := by decide +kernel
theorem dX7_count_40 : decode cX7_count 40 = .ok (.aload_n 0, 1) := by decide +kernel
theorem dX7_count_41 : decode cX7_count 41 = .ok (.getfield 52, 3) := by decide +kernel
theorem dX7_count_44 : decode cX7_count 44 = .ok (.ireturn, 1) := by decide +kernel
theorem dX7_count_45 : decode cX7_count 45 = .ok (.aload_n 0, 1) := by decide +kernel
theorem dX7_count_46 : decode cX7_count 46 = .ok (.getfield 55, 3) := by decide +kernel
theorem dX7_count_49 : decode cX7_count 49 = .ok (.ireturn, 1) := by decide +kernel
theorem dX7_count_50 : decode cX7_count 50 = .ok (.aload_n 0, 1) := by decide +kernel
theorem dX7_count_51 : decode cX7_count 51 = .ok (.getfield 58, 3) := by decide +kernel
theorem dX7_count_54 : decode cX7_count 54 = .ok (.ireturn, 1) := by decide +kernel
theorem dX7_count_55 : decode cX7_count 55 = .ok (.aload_n 0, 1) := by decide +kernel
theorem dX7_count_56 : decode cX7_count 56 = .ok (.getfield 48, 3) := by decide +kernel
theorem dX7_count_59 : decode cX7_count 59 = .ok (.getfield 98, 3) := by decide +kernel
theorem dX7_count_62 : decode cX7_count 62 = .ok (.ireturn, 1) := by decide +kernel
theorem dX7_count_63 : decode cX7_count 63 = .ok (.aload_n 0, 1) := by decide +kernel
theorem dX7_count_64 : decode cX7_count 64 = .ok (.getfield 12, 3) := by decide +kernel
theorem dX7_count_67 : decode cX7_count 67 = .ok (.getfield 79, 3) := by decide +kernel
theorem dX7_count_70 : decode cX7_count 70 = .ok (.getfield 83, 3) := by decide +kernel
theorem dX7_count_73 : decode cX7_count 73 = .ok (.ireturn, 1) := by decide +kernel
theorem dX7_count_74 : decode cX7_count 74 = .ok (.aload_n 0, 1) := by decide +kernel
theorem dX7_count_75 : decode cX7_count 75 = .ok (.getfield 48, 3) := by decide +kernel
theorem dX7_count_78 : decode cX7_count 78 = .ok (.getfield 223, 3) := by decide +kernel
theorem dX7_count_81 : decode cX7_count 81 = .ok (.ireturn, 1) := by decide +kernel
theorem dX7_count_82 : decode cX7_count 82 = .ok (.iconst (-1), 1) := by decide +kernel
theorem dX7_count_83 : decode cX7_count 83 = .ok (.ireturn, 1) := by decide +kernel
theorem dX7_trouble_0 : decode cX7_trouble 0 = .ok (.aload_n 0, 1) := by decide +kernel
theorem dX7_trouble_1 : decode cX7_trouble 1 = .ok (.getfield 61, 3) := by decide +kernel
theorem dX7_trouble_4 : decode cX7_trouble 4 = .ok (.ireturn, 1) := by decide +kernel
theorem dX7_refused_0 : decode cX7_refused 0 = .ok (.aload_n 0, 1) := by decide +kernel
theorem dX7_refused_1 : decode cX7_refused 1 = .ok (.iload_n 1, 1) := by decide +kernel
theorem dX7_refused_2 : decode cX7_refused 2 = .ok (.putfield 61, 3) := by decide +kernel
theorem dX7_refused_5 : decode cX7_refused 5 = .ok (.iload_n 1, 1) := by decide +kernel
theorem dX7_refused_6 : decode cX7_refused 6 = .ok (.ifCond .eq 7, 3) := by decide +kernel
theorem dX7_refused_9 : decode cX7_refused 9 = .ok (.iconst 1, 1) := by decide +kernel
theorem dX7_refused_10 : decode cX7_refused 10 = .ok (.goto 4, 3) := by decide +kernel
theorem dX7_refused_13 : decode cX7_refused 13 = .ok (.iconst 0, 1) := by decide +kernel
theorem dX7_refused_14 : decode cX7_refused 14 = .ok (.ireturn, 1) := by decide +kernel
theorem dX7_hasProgram_0 : decode cX7_hasProgram 0 = .ok (.aload_n 0, 1) := by decide +kernel
theorem dX7_hasProgram_1 : decode cX7_hasProgram 1 = .ok (.getfield 48, 3) := by decide +kernel
theorem dX7_hasProgram_4 : decode cX7_hasProgram 4 = .ok (.getfield 98, 3) := by decide +kernel
theorem dX7_hasProgram_7 : decode cX7_hasProgram 7 = .ok (.ifCond .le 7, 3) := by decide +kernel
theorem dX7_hasProgram_10 : decode cX7_hasProgram 10 = .ok (.iconst 1, 1) := by decide +kernel
theorem dX7_hasProgram_11 : decode cX7_hasProgram 11 = .ok (.goto 4, 3) := by decide +kernel
theorem dX7_hasProgram_14 : decode cX7_hasProgram 14 = .ok (.iconst 0, 1) := by decide +kernel
theorem dX7_hasProgram_15 : decode cX7_hasProgram 15 = .ok (.ireturn, 1) := by decide +kernel
theorem dX7_isBlock_0 : decode cX7_isBlock 0 = .ok (.iload_n 1, 1) := by decide +kernel
theorem dX7_isBlock_1 : decode cX7_isBlock 1 = .ok (.ifCond .lt 18, 3) := by decide +kernel
theorem dX7_isBlock_4 : decode cX7_isBlock 4 = .ok (.iload_n 1, 1) := by decide +kernel
theorem dX7_isBlock_5 : decode cX7_isBlock 5 = .ok (.aload_n 0, 1) := by decide +kernel
theorem dX7_isBlock_6 : decode cX7_isBlock 6 = .ok (.getfield 48, 3) := by decide +kernel
theorem dX7_isBlock_9 : decode cX7_isBlock 9 = .ok (.getfield 98, 3) := by decide +kernel
theorem dX7_isBlock_12 : decode cX7_isBlock 12 = .ok (.if_icmp .ge 7, 3) := by decide +kernel
theorem dX7_isBlock_15 : decode cX7_isBlock 15 = .ok (.iconst 1, 1) := by decide +kernel
theorem dX7_isBlock_16 : decode cX7_isBlock 16 = .ok (.goto 4, 3) := by decide +kernel
theorem dX7_isBlock_19 : decode cX7_isBlock 19 = .ok (.iconst 0, 1) := by decide +kernel
theorem dX7_isBlock_20 : decode cX7_isBlock 20 = .ok (.ireturn, 1) := by decide +kernel
theorem dX7_isNumber_0 : decode cX7_isNumber 0 = .ok (.iload_n 1, 1) := by decide +kernel
theorem dX7_isNumber_1 : decode cX7_isNumber 1 = .ok (.ifCond .lt 13, 3) := by decide +kernel
theorem dX7_isNumber_4 : decode cX7_isNumber 4 = .ok (.iload_n 1, 1) := by decide +kernel
theorem dX7_isNumber_5 : decode cX7_isNumber 5 = .ok (.bipush 8, 2) := by decide +kernel
theorem dX7_isNumber_7 : decode cX7_isNumber 7 = .ok (.if_icmp .ge 7, 3) := by decide +kernel
theorem dX7_isNumber_10 : decode cX7_isNumber 10 = .ok (.iconst 1, 1) := by decide +kernel
theorem dX7_isNumber_11 : decode cX7_isNumber 11 = .ok (.goto 4, 3) := by decide +kernel
theorem dX7_isNumber_14 : decode cX7_isNumber 14 = .ok (.iconst 0, 1) := by decide +kernel
theorem dX7_isNumber_15 : decode cX7_isNumber 15 = .ok (.ireturn, 1) := by decide +kernel
theorem dX7_troubleOfCut_0 : decode cX7_troubleOfCut 0 = .ok (.aload_n 0, 1) := by decide +kernel
theorem dX7_troubleOfCut_1 : decode cX7_troubleOfCut 1 = .ok (.invokevirtual 184, 3) := by decide +kernel
theorem dX7_troubleOfCut_4 : decode cX7_troubleOfCut 4 = .ok (.ifCond .ne 5, 3) := by decide +kernel
theorem dX7_troubleOfCut_7 : decode cX7_troubleOfCut 7 = .ok (.iconst 4, 1) := by decide +kernel
theorem dX7_troubleOfCut_8 : decode cX7_troubleOfCut 8 = .ok (.ireturn, 1) := by decide +kernel
theorem dX7_troubleOfCut_9 : decode cX7_troubleOfCut 9 = .ok (.iload_n 1, 1) := by decide +kernel
theorem dX7_troubleOfCut_10 : decode cX7_troubleOfCut 10 = .ok (.ifCond .lt 20, 3) := by decide +kernel
theorem dX7_troubleOfCut_13 : decode cX7_troubleOfCut 13 = .ok (.iload_n 1, 1) := by decide +kernel
theorem dX7_troubleOfCut_14 : decode cX7_troubleOfCut 14 = .ok (.iconst 1, 1) := by decide +kernel
theorem dX7_troubleOfCut_15 : decode cX7_troubleOfCut 15 = .ok (.aload_n 0, 1) := by decide +kernel
theorem dX7_troubleOfCut_16 : decode cX7_troubleOfCut 16 = .ok (.getfield 48, 3) := by decide +kernel
theorem dX7_troubleOfCut_19 : decode cX7_troubleOfCut 19 = .ok (.getfield 98, 3) := by decide +kernel
theorem dX7_troubleOfCut_22 : decode cX7_troubleOfCut 22 = .ok (.ishl, 1) := by decide +kernel
theorem dX7_troubleOfCut_23 : decode cX7_troubleOfCut 23 = .ok (.if_icmp .ge 7, 3) := by decide +kernel
theorem dX7_troubleOfCut_26 : decode cX7_troubleOfCut 26 = .ok (.iconst 0, 1) := by decide +kernel
theorem dX7_troubleOfCut_27 : decode cX7_troubleOfCut 27 = .ok (.goto 4, 3) := by decide +kernel
theorem dX7_troubleOfCut_30 : decode cX7_troubleOfCut 30 = .ok (.iconst 2, 1) := by decide +kernel
theorem dX7_troubleOfCut_31 : decode cX7_troubleOfCut 31 = .ok (.ireturn, 1) := by decide +kernel
theorem dX7_troubleOfBlock_0 : decode cX7_troubleOfBlock 0 = .ok (.aload_n 0, 1) := by decide +kernel
theorem dX7_troubleOfBlock_1 : decode cX7_troubleOfBlock 1 = .ok (.invokevirtual 184, 3) := by decide +kernel
theorem dX7_troubleOfBlock_4 : decode cX7_troubleOfBlock 4 = .ok (.ifCond .ne 5, 3) := by decide +kernel
theorem dX7_troubleOfBlock_7 : decode cX7_troubleOfBlock 7 = .ok (.iconst 4, 1) := by decide +kernel
theorem dX7_troubleOfBlock_8 : decode cX7_troubleOfBlock 8 = .ok (.ireturn, 1) := by decide +kernel
theorem dX7_troubleOfBlock_9 : decode cX7_troubleOfBlock 9 = .ok (.aload_n 0, 1) := by decide +kernel
theorem dX7_troubleOfBlock_10 : decode cX7_troubleOfBlock 10 = .ok (.iload_n 1, 1) := by decide +kernel
theorem dX7_troubleOfBlock_11 : decode cX7_troubleOfBlock 11 = .ok (.invokevirtual 113, 3) := by decide +kernel
theorem dX7_troubleOfBlock_14 : decode cX7_troubleOfBlock 14 = .ok (.ifCond .eq 7, 3) := by decide +kernel
theorem dX7_troubleOfBlock_17 : decode cX7_troubleOfBlock 17 = .ok (.iconst 0, 1) := by decide +kernel
theorem dX7_troubleOfBlock_18 : decode cX7_troubleOfBlock 18 = .ok (.goto 4, 3) := by decide +kernel
theorem dX7_troubleOfBlock_21 : decode cX7_troubleOfBlock 21 = .ok (.iconst 1, 1) := by decide +kernel
theorem dX7_troubleOfBlock_22 : decode cX7_troubleOfBlock 22 = .ok (.ireturn, 1) := by decide +kernel
theorem dX7_troubleOfAsked_0 : decode cX7_troubleOfAsked 0 = .ok (.aload_n 0, 1) := by decide +kernel
theorem dX7_troubleOfAsked_1 : decode cX7_troubleOfAsked 1 = .ok (.invokevirtual 184, 3) := by decide +kernel
theorem dX7_troubleOfAsked_4 : decode cX7_troubleOfAsked 4 = .ok (.ifCond .ne 5, 3) := by decide +kernel
theorem dX7_troubleOfAsked_7 : decode cX7_troubleOfAsked 7 = .ok (.iconst 4, 1) := by decide +kernel
theorem dX7_troubleOfAsked_8 : decode cX7_troubleOfAsked 8 = .ok (.ireturn, 1) := by decide +kernel
theorem dX7_troubleOfAsked_9 : decode cX7_troubleOfAsked 9 = .ok (.iload_n 1, 1) := by decide +kernel
theorem dX7_troubleOfAsked_10 : decode cX7_troubleOfAsked 10 = .ok (.ifCond .lt 12, 3) := by decide +kernel
theorem dX7_troubleOfAsked_13 : decode cX7_troubleOfAsked 13 = .ok (.iload_n 1, 1) := by decide +kernel
theorem dX7_troubleOfAsked_14 : decode cX7_troubleOfAsked 14 = .ok (.iload_n 2, 1) := by decide +kernel
theorem dX7_troubleOfAsked_15 : decode cX7_troubleOfAsked 15 = .ok (.if_icmp .gt 7, 3) := by decide +kernel
theorem dX7_troubleOfAsked_18 : decode cX7_troubleOfAsked 18 = .ok (.iconst 0, 1) := by decide +kernel
theorem dX7_troubleOfAsked_19 : decode cX7_troubleOfAsked 19 = .ok (.goto 4, 3) := by decide +kernel
theorem dX7_troubleOfAsked_22 : decode cX7_troubleOfAsked 22 = .ok (.iconst 2, 1) := by decide +kernel
theorem dX7_troubleOfAsked_23 : decode cX7_troubleOfAsked 23 = .ok (.ireturn, 1) := by decide +kernel
theorem dX7_mask_0 : decode cX7_mask 0 = .ok (.iconst 1, 1) := by decide +kernel
theorem dX7_mask_1 : decode cX7_mask 1 = .ok (.aload_n 0, 1) := by decide +kernel
theorem dX7_mask_2 : decode cX7_mask 2 = .ok (.getfield 52, 3) := by decide +kernel
theorem dX7_mask_5 : decode cX7_mask 5 = .ok (.ishl, 1) := by decide +kernel
theorem dX7_mask_6 : decode cX7_mask 6 = .ok (.iconst 1, 1) := by decide +kernel
theorem dX7_mask_7 : decode cX7_mask 7 = .ok (.isub, 1) := by decide +kernel
theorem dX7_mask_8 : decode cX7_mask 8 = .ok (.ireturn, 1) := by decide +kernel
theorem dX7_ticksOf_0 : decode cX7_ticksOf 0 = .ok (.aload_n 0, 1) := by decide +kernel
theorem dX7_ticksOf_1 : decode cX7_ticksOf 1 = .ok (.getfield 33, 3) := by decide +kernel
theorem dX7_ticksOf_4 : decode cX7_ticksOf 4 = .ok (.aload_n 0, 1) := by decide +kernel
theorem dX7_ticksOf_5 : decode cX7_ticksOf 5 = .ok (.getfield 26, 3) := by decide +kernel
theorem dX7_ticksOf_8 : decode cX7_ticksOf 8 = .ok (.aload_n 0, 1) := by decide +kernel
theorem dX7_ticksOf_9 : decode cX7_ticksOf 9 = .ok (.getfield 48, 3) := by decide +kernel
theorem dX7_ticksOf_12 : decode cX7_ticksOf 12 = .ok (.getfield 98, 3) := by decide +kernel
theorem dX7_ticksOf_15 : decode cX7_ticksOf 15 = .ok (.iload_n 1, 1) := by decide +kernel
theorem dX7_ticksOf_16 : decode cX7_ticksOf 16 = .ok (.invokevirtual 150, 3) := by decide +kernel
theorem dX7_ticksOf_19 : decode cX7_ticksOf 19 = .ok (.aload_n 0, 1) := by decide +kernel
theorem dX7_ticksOf_20 : decode cX7_ticksOf 20 = .ok (.getfield 33, 3) := by decide +kernel
theorem dX7_ticksOf_23 : decode cX7_ticksOf 23 = .ok (.getfield 225, 3) := by decide +kernel
theorem dX7_ticksOf_26 : decode cX7_ticksOf 26 = .ok (.aload_n 0, 1) := by decide +kernel
theorem dX7_ticksOf_27 : decode cX7_ticksOf 27 = .ok (.getfield 58, 3) := by decide +kernel
theorem dX7_ticksOf_30 : decode cX7_ticksOf 30 = .ok (.aload_n 0, 1) := by decide +kernel
theorem dX7_ticksOf_31 : decode cX7_ticksOf 31 = .ok (.getfield 33, 3) := by decide +kernel
theorem dX7_ticksOf_34 : decode cX7_ticksOf 34 = .ok (.getfield 156, 3) := by decide +kernel
theorem dX7_ticksOf_37 : decode cX7_ticksOf 37 = .ok (.imul, 1) := by decide +kernel
theorem dX7_ticksOf_38 : decode cX7_ticksOf 38 = .ok (.iadd, 1) := by decide +kernel
theorem dX7_ticksOf_39 : decode cX7_ticksOf 39 = .ok (.ireturn, 1) := by decide +kernel
theorem dX7_refresh_0 : decode cX7_refresh 0 = .ok (.aload_n 0, 1) := by decide +kernel
theorem dX7_refresh_1 : decode cX7_refresh 1 = .ok (.getfield 26, 3) := by decide +kernel
theorem dX7_refresh_4 : decode cX7_refresh 4 = .ok (.aload_n 0, 1) := by decide +kernel
theorem dX7_refresh_5 : decode cX7_refresh 5 = .ok (.getfield 48, 3) := by decide +kernel
theorem dX7_refresh_8 : decode cX7_refresh 8 = .ok (.aload_n 0, 1) := by decide +kernel
theorem dX7_refresh_9 : decode cX7_refresh 9 = .ok (.getfield 52, 3) := by decide +kernel
theorem dX7_refresh_12 : decode cX7_refresh 12 = .ok (.aload_n 0, 1) := by decide +kernel
theorem dX7_refresh_13 : decode cX7_refresh 13 = .ok (.getfield 55, 3) := by decide +kernel
theorem dX7_refresh_16 : decode cX7_refresh 16 = .ok (.invokevirtual 228, 3) := by decide +kernel
theorem dX7_refresh_19 : decode cX7_refresh 19 = .ok (.aload_n 0, 1) := by decide +kernel
theorem dX7_refresh_20 : decode cX7_refresh 20 = .ok (.getfield 33, 3) := by decide +kernel
theorem dX7_refresh_23 : decode cX7_refresh 23 = .ok (.iconst 0, 1) := by decide +kernel
theorem dX7_refresh_24 : decode cX7_refresh 24 = .ok (.putfield 231, 3) := by decide +kernel
theorem dX7_refresh_27 : decode cX7_refresh 27 = .ok (.return_, 1) := by decide +kernel
def fX7_refused (oH : Rc) (p1 : Int32) : Option (Int32 × Rc) :=
  zLet (rs oH 10 (fun _ => p1)) fun oH_1 =>
  if p1 = 0 then (
    some ((0 : Int32), oH_1)
  ) else (
    some ((1 : Int32), oH_1)
  )
abbrev rX7_refused : Room := { frames := 0, cells := 0, slots := 0, locals := 0 }
set_option maxHeartbeats 4000000 in
set_option maxRecDepth 100000 in
theorem mtX7_refused (l : Launch) (dC : Nat → ClassId) (dI : Nat → Nat → Nat) (cI cB : ClassId) (aH aR aP aM aE aC : Nat → Nat) (sz : Nat) (oH : Rc) (p1 : Int32) {ov : Int32} {oH' : Rc} (hf : fX7_refused oH p1 = some (ov, oH')) : zMi l yX7_refused (Cond.code yX7_refused cX7_refused 2 (some .boolean) :: lw_g) rX7_refused (dC, dI) [(cI, .int), (cB, .byte)] [.ref (aH 0), .int p1] sz (kX7 cI cB aH (aR 0) (aM 0) (aE 0) (aC 0) (aP 0) oH) ov (kX7 cI cB aH (aR 0) (aM 0) (aE 0) (aC 0) (aP 0) oH') := by
  refine zSt (cc := cX7_refused) (maxL := 2) (ret := (some .boolean)) (own := RX7) (fun A => zQi (dC, dI) [(cI, .int), (cB, .byte)] A ov (kX7 cI cB aH (aR 0) (aM 0) (aE 0) (aC 0) (aP 0) oH')) (by decide) rfl rfl (Nat.le_of_ble_eq_true rfl) ?_
  intro p e s m below meth c ls A H locs C hK hA hP hD hS hl
  generalize hQ : MQ below (zQi (dC, dI) [(cI, .int), (cB, .byte)] A ov (kX7 cI cB aH (aR 0) (aM 0) (aE 0) (aC 0) (aP 0) oH')) _ s 0 0 A = QQ
  generalize ([.ref (aH 0), .int p1] : List Value).toArray = args at C hQ ⊢
  have hl : lv_has ls 2 [(0, .ref (aH 0)), (1, .int p1)] := hl
  unfold fX7_refused at hf
  refine lv_aload_n C.1.1 C.1.2.1 dX7_refused_0 rfl (lv_at hl 0 rfl) ?_
  refine lv_iload_n C.1.1 C.1.2.1 dX7_refused_1 rfl (lv_at hl 1 rfl) ?_
  obtain ⟨oH_1, eoH_1, hf⟩ := zLet_el hf
  refine zPut (ty := .int) (kX7 cI cB aH (aR 0) (aM 0) (aE 0) (aC 0) (aP 0) oH_1) C.1 wuX7 tyX7 tyX7_ok nmX7 hK hP hD hS 0 rfl rfl 10 (by decide) wfX7_61 rfl rfl (by decide +kernel) rfl rfl (Nat.le_of_ble_eq_true rfl) dX7_refused_2 (by rw [eoH_1]; rfl) (fun H locs hP hD hS => ?_)
  refine lv_iload_n C.1.1 C.1.2.1 dX7_refused_5 rfl (lv_at hl 1 rfl) ?_
  refine lv_if_eq (tgt := 13) C.1.1 C.1.2.1 dX7_refused_6 (by decide) (fun hc => ?_) (fun hc => ?_)
  · replace hf := zIf_t hf hc
    refine lv_iconst (v := 0) C.1.1 C.1.2.1 dX7_refused_13 (by decide) ?_
    cases hf
    rw [← hQ]
    exact zRz C (by decide +kernel) hK hP hD hS dX7_refused_14
  · replace hf := zIf_f hf hc
    refine lv_iconst (v := 1) C.1.1 C.1.2.1 dX7_refused_9 (by decide) ?_
    refine lv_goto (tgt := 14) C.1.1 C.1.2.1 dX7_refused_10 (by decide) ?_
    cases hf
    rw [← hQ]
    exact zRz C (by decide +kernel) hK hP hD hS dX7_refused_14
def fX7_mask (oH : Rc) : Option (Int32) :=
  some (((1 : Int32) <<< ((oH 7 0) &&& 31)) - (1 : Int32))
abbrev rX7_mask : Room := { frames := 0, cells := 0, slots := 0, locals := 0 }
set_option maxHeartbeats 4000000 in
set_option maxRecDepth 100000 in
theorem mtX7_mask (l : Launch) (dC : Nat → ClassId) (dI : Nat → Nat → Nat) (cI cB : ClassId) (aH aR aP aM aE aC : Nat → Nat) (sz : Nat) (oH : Rc) {ov : Int32} (hf : fX7_mask oH = some ov) : zMi l yX7_mask (Cond.code yX7_mask cX7_mask 1 (some .int) :: lw_g) rX7_mask (dC, dI) [(cI, .int), (cB, .byte)] [.ref (aH 0)] sz (kX7 cI cB aH (aR 0) (aM 0) (aE 0) (aC 0) (aP 0) oH) ov (kX7 cI cB aH (aR 0) (aM 0) (aE 0) (aC 0) (aP 0) oH) := by
  refine zSt (cc := cX7_mask) (maxL := 1) (ret := (some .int)) (own := RX7) (fun A => zQi (dC, dI) [(cI, .int), (cB, .byte)] A ov (kX7 cI cB aH (aR 0) (aM 0) (aE 0) (aC 0) (aP 0) oH)) (by decide) rfl rfl (Nat.le_of_ble_eq_true rfl) ?_
  intro p e s m below meth c ls A H locs C hK hA hP hD hS hl
  generalize hQ : MQ below (zQi (dC, dI) [(cI, .int), (cB, .byte)] A ov (kX7 cI cB aH (aR 0) (aM 0) (aE 0) (aC 0) (aP 0) oH)) _ s 0 0 A = QQ
  generalize ([.ref (aH 0)] : List Value).toArray = args at C hQ ⊢
  have hl : lv_has ls 1 [(0, .ref (aH 0))] := hl
  unfold fX7_mask at hf
  refine lv_iconst (v := 1) C.1.1 C.1.2.1 dX7_mask_0 (by decide) ?_
  refine lv_aload_n C.1.1 C.1.2.1 dX7_mask_1 rfl (lv_at hl 0 rfl) ?_
  refine zGet (.int (oH 7 0)) C.1 wuX7 hK hP 0 rfl rfl 7 (by decide) wfX7_52 rfl rfl dX7_mask_2 ?_
  refine lv_ishl C.1.1 C.1.2.1 dX7_mask_5 ?_
  refine lv_iconst (v := 1) C.1.1 C.1.2.1 dX7_mask_6 (by decide) ?_
  refine lv_isub C.1.1 C.1.2.1 dX7_mask_7 ?_
  cases hf
  rw [← hQ]
  exact zRi C hK hP hD hS dX7_mask_8
def fX7_refresh (NN : Nat) (oH : Rc) (oP : Rc) (oE : Rc) (oQ : Rc) (oC : Rc) : Option (Rc × Rc × Rc) :=
  zB2 (fX2_reckon NN oP oE oQ (oH 7 0) (oH 8 0)) fun oE_1 oQ_2 =>
  zLet (rs oC 5 (fun _ => (0 : Int32))) fun oC_3 =>
  some (oE_1, oQ_2, oC_3)
abbrev rX7_refresh : Room := { frames := 5, cells := 0, slots := 0, locals := 121 }
set_option maxHeartbeats 4000000 in
set_option maxRecDepth 100000 in
theorem mtX7_refresh (l : Launch) (dC : Nat → ClassId) (dI : Nat → Nat → Nat) (cI cB : ClassId) (aH aR aP aM aE aQ aC : Nat → Nat) (sz : Nat) (NN : Nat) (oH : Rc) (oP : Rc) (oE : Rc) (oQ : Rc) (oC : Rc) {oE' : Rc} {oQ' : Rc} {oC' : Rc} (hf : fX7_refresh NN oH oP oE oQ oC = some (oE', oQ', oC')) : zMv l yX7_refresh (Cond.code yX7_refresh cX7_refresh 1 none :: lw_g) rX7_refresh (dC, dI) [(cI, .int), (cB, .byte)] [.ref (aH 0)] sz (kX7 cI cB aH (aR 0) (aM 0) (aE 0) (aC 0) (aP 0) oH ++ kX4 cI cB aP oP ++ kX2 cI cB aE (aQ 0) oE ++ kX3 cI cB aQ oQ ++ kX0 cI cB aC oC) (kX7 cI cB aH (aR 0) (aM 0) (aE 0) (aC 0) (aP 0) oH ++ kX4 cI cB aP oP ++ kX2 cI cB aE (aQ 0) oE' ++ kX3 cI cB aQ oQ' ++ kX0 cI cB aC oC') := by
  refine zSt (cc := cX7_refresh) (maxL := 1) (ret := none) (own := RX7) (fun A => zQv (dC, dI) [(cI, .int), (cB, .byte)] A (kX7 cI cB aH (aR 0) (aM 0) (aE 0) (aC 0) (aP 0) oH ++ kX4 cI cB aP oP ++ kX2 cI cB aE (aQ 0) oE' ++ kX3 cI cB aQ oQ' ++ kX0 cI cB aC oC')) (by decide) rfl rfl (Nat.le_of_ble_eq_true rfl) ?_
  intro p e s m below meth c ls A H locs C hK hA hP hD hS hl
  generalize hQ : MQ below (zQv (dC, dI) [(cI, .int), (cB, .byte)] A (kX7 cI cB aH (aR 0) (aM 0) (aE 0) (aC 0) (aP 0) oH ++ kX4 cI cB aP oP ++ kX2 cI cB aE (aQ 0) oE' ++ kX3 cI cB aQ oQ' ++ kX0 cI cB aC oC')) _ s 0 0 A = QQ
  generalize ([.ref (aH 0)] : List Value).toArray = args at C hQ ⊢
  have hl : lv_has ls 1 [(0, .ref (aH 0))] := hl
  unfold fX7_refresh at hf
  refine lv_aload_n C.1.1 C.1.2.1 dX7_refresh_0 rfl (lv_at hl 0 rfl) ?_
  refine zGet (.ref (aE 0)) C.1 wuX7 hK hP 0 rfl rfl 2 (by decide) wfX7_26 rfl rfl dX7_refresh_1 ?_
  refine lv_aload_n C.1.1 C.1.2.1 dX7_refresh_4 rfl (lv_at hl 0 rfl) ?_
  refine zGet (.ref (aP 0)) C.1 wuX7 hK hP 0 rfl rfl 6 (by decide) wfX7_48 rfl rfl dX7_refresh_5 ?_
  refine lv_aload_n C.1.1 C.1.2.1 dX7_refresh_8 rfl (lv_at hl 0 rfl) ?_
  refine zGet (.int (oH 7 0)) C.1 wuX7 hK hP 0 rfl rfl 7 (by decide) wfX7_52 rfl rfl dX7_refresh_9 ?_
  refine lv_aload_n C.1.1 C.1.2.1 dX7_refresh_12 rfl (lv_at hl 0 rfl) ?_
  refine zGet (.int (oH 8 0)) C.1 wuX7 hK hP 0 rfl rfl 8 (by decide) wfX7_55 rfl rfl dX7_refresh_13 ?_
  obtain ⟨oE_1, oQ_2, hg, hf⟩ := zB2_el hf
  refine zCVv (As := [.ref (aP 0), .int (oH 7 0), .int (oH 8 0)]) (rest := []) (wr := (kX7 cI cB aH (aR 0) (aM 0) (aE 0) (aC 0) (aP 0) oH ++ kX0 cI cB aC oC)) (wn := (kX7 cI cB aH (aR 0) (aM 0) (aE 0) (aC 0) (aP 0) oH ++ kX4 cI cB aP oP ++ kX2 cI cB aE (aQ 0) oE_1 ++ kX3 cI cB aQ oQ_2 ++ kX0 cI cB aC oC)) C.1 hK hA hP hD hS [2, 3, 4, 5, 6, 7, 8, 9, 10, 11, 12, 13, 14, 15, 16, 17, 18, 19, 20, 21, 22] [0, 1, 23, 24, 25, 26, 27, 28] [0, 1, 8, 9, 10, 11, 12, 13, 14, 15, 16, 17, 18, 19, 20, 21, 22, 23, 24, 25, 26, 27, 28, 2, 3, 4, 5, 6, 7] 10 (mtX2_reckon l dC dI cI cB aP aE aQ H.size NN oP oE oQ (oH 7 0) (oH 8 0) hg) (zCwV 3 C.1 wlX7_228 wiX2_reckon ws_X2_reckon wnX2 wkX2_reckon rfl rfl (by decide +kernel) ⟨Nat.le_of_ble_eq_true rfl, Nat.le_of_ble_eq_true rfl⟩) rfl rfl (by decide +kernel) rfl rfl rfl rfl hl.1 (Nat.le_of_ble_eq_true rfl) dX7_refresh_16 ⟨Nat.zero_le _, Nat.zero_le _⟩ rfl (fun H locs hP hD hS => ?_)
  refine lv_aload_n C.1.1 C.1.2.1 dX7_refresh_19 rfl (lv_at hl 0 rfl) ?_
  refine zGet (.ref (aC 0)) C.1 wuX7 hK hP 0 rfl rfl 3 (by decide) wfX7_33 rfl rfl dX7_refresh_20 ?_
  refine lv_iconst (v := 0) C.1.1 C.1.2.1 dX7_refresh_23 (by decide) ?_
  obtain ⟨oC_3, eoC_3, hf⟩ := zLet_el hf
  refine zPut (ty := .boolean) (kX7 cI cB aH (aR 0) (aM 0) (aE 0) (aC 0) (aP 0) oH ++ kX4 cI cB aP oP ++ kX2 cI cB aE (aQ 0) oE_1 ++ kX3 cI cB aQ oQ_2 ++ kX0 cI cB aC oC_3) C.1 wuX0 tyX0 tyX0_ok nmX0 hK hP hD hS 23 rfl rfl 5 (by decide) wfX7_231 rfl rfl (by decide +kernel) (by decide +kernel) (by decide +kernel) (Nat.le_of_ble_eq_true rfl) dX7_refresh_24 (by rw [eoC_3]; rfl) (fun H locs hP hD hS => ?_)
  cases hf
  rw [← hQ]
  exact zRv C hK hP hD hS dX7_refresh_27
def fX7_set (NN : Nat) (oH : Rc) (oP : Rc) (oN : Ar) (oE : Rc) (oQ : Rc) (oC : Rc) (p1 : Int32) (p2 : Int32) (p3 : Int32) : Option (Int32 × Rc × Ar × Rc × Rc × Rc) :=
  zJn (fun (t1 : Int32) =>
      zJn (fun (t3 : Int32) =>
          zB2 (fX7_refused oH t3) fun v5 oH_6 =>
          if v5 = 0 then (
            zLet (rs oH_6 7 (fun _ => p1)) fun oH_7 =>
            zLet (rs oH_7 8 (fun _ => p2)) fun oH_8 =>
            zLet (rs oH_8 9 (fun _ => p3)) fun oH_9 =>
            zB1 (fX7_mask oH_9) fun v10 =>
            zB1 (fX1_narrow NN oN v10) fun oN_11 =>
            zB3 (fX7_refresh NN oH_9 oP oE oQ oC) fun oE_12 oQ_13 oC_14 =>
            some ((1 : Int32), oH_9, oN_11, oE_12, oQ_13, oC_14)
          ) else (
            some ((0 : Int32), oH_6, oN, oE, oQ, oC)
          )
        ) fun J51_4 =>
      if t1 = 0 then (
        J51_4 (2 : Int32)
      ) else (
        J51_4 (0 : Int32)
      )
    ) fun J38_2 =>
  zJn (fun (_ : Unit) =>
      J38_2 (0 : Int32)
    ) fun J37_15 =>
  if p1 < (4 : Int32) then (
    J37_15 ()
  ) else (
    if (16 : Int32) < p1 then (
      J37_15 ()
    ) else (
      if p2 < (1 : Int32) then (
        J37_15 ()
      ) else (
        if (1000 : Int32) < p2 then (
          J37_15 ()
        ) else (
          if p3 < 0 then (
            J37_15 ()
          ) else (
            if (100 : Int32) < p3 then (
              J37_15 ()
            ) else (
              J38_2 (1 : Int32)
            )
          )
        )
      )
    )
  )
abbrev rX7_set : Room := { frames := 6, cells := 0, slots := 0, locals := 141 }
set_option maxHeartbeats 4000000 in
set_option maxRecDepth 100000 in
theorem mtX7_set (l : Launch) (dC : Nat → ClassId) (dI : Nat → Nat → Nat) (cI cB : ClassId) (aH aR aP aM aN aY aK aE aQ aC : Nat → Nat) (sz : Nat) (NN : Nat) (oH : Rc) (oP : Rc) (oN : Ar) (oE : Rc) (oQ : Rc) (oC : Rc) (p1 : Int32) (p2 : Int32) (p3 : Int32) {ov : Int32} {oH' : Rc} {oN' : Ar} {oE' : Rc} {oQ' : Rc} {oC' : Rc} (hf : fX7_set NN oH oP oN oE oQ oC p1 p2 p3 = some (ov, oH', oN', oE', oQ', oC')) : zMi l yX7_set (Cond.code yX7_set cX7_set 5 (some .boolean) :: lw_g) rX7_set (dC, dI) [(cI, .int), (cB, .byte)] [.ref (aH 0), .int p1, .int p2, .int p3] sz (kX7 cI cB aH (aR 0) (aM 0) (aE 0) (aC 0) (aP 0) oH ++ kX4 cI cB aP oP ++ kX1 cI cB aM (aN 0) (aY 0) (aK 0) ++ kA8 cI cB aN oN ++ kX2 cI cB aE (aQ 0) oE ++ kX3 cI cB aQ oQ ++ kX0 cI cB aC oC) ov (kX7 cI cB aH (aR 0) (aM 0) (aE 0) (aC 0) (aP 0) oH' ++ kX4 cI cB aP oP ++ kX1 cI cB aM (aN 0) (aY 0) (aK 0) ++ kA8 cI cB aN oN' ++ kX2 cI cB aE (aQ 0) oE' ++ kX3 cI cB aQ oQ' ++ kX0 cI cB aC oC') := by
  refine zSt (cc := cX7_set) (maxL := 5) (ret := (some .boolean)) (own := RX7) (fun A => zQi (dC, dI) [(cI, .int), (cB, .byte)] A ov (kX7 cI cB aH (aR 0) (aM 0) (aE 0) (aC 0) (aP 0) oH' ++ kX4 cI cB aP oP ++ kX1 cI cB aM (aN 0) (aY 0) (aK 0) ++ kA8 cI cB aN oN' ++ kX2 cI cB aE (aQ 0) oE' ++ kX3 cI cB aQ oQ' ++ kX0 cI cB aC oC')) (by decide) rfl rfl (Nat.le_of_ble_eq_true rfl) ?_
  intro p e s m below meth c ls A H locs C hK hA hP hD hS hl
  generalize hQ : MQ below (zQi (dC, dI) [(cI, .int), (cB, .byte)] A ov (kX7 cI cB aH (aR 0) (aM 0) (aE 0) (aC 0) (aP 0) oH' ++ kX4 cI cB aP oP ++ kX1 cI cB aM (aN 0) (aY 0) (aK 0) ++ kA8 cI cB aN oN' ++ kX2 cI cB aE (aQ 0) oE' ++ kX3 cI cB aQ oQ' ++ kX0 cI cB aC oC')) _ s 0 0 A = QQ
  generalize ([.ref (aH 0), .int p1, .int p2, .int p3] : List Value).toArray = args at C hQ ⊢
  have hl : lv_has ls 5 [(0, .ref (aH 0)), (1, .int p1), (2, .int p2), (3, .int p3)] := hl
  unfold fX7_set at hf
  refine lv_iload_n C.1.1 C.1.2.1 dX7_set_0 rfl (lv_at hl 1 rfl) ?_
  refine lv_iconst (v := 4) C.1.1 C.1.2.1 dX7_set_1 (by decide) ?_
  obtain ⟨J38_2, eJ38_2, hf⟩ := zJn_el hf
  have hJ38_2 : ∀ (t1 : Int32), J38_2 t1 = some (ov, oH', oN', oE', oQ', oC') → ∀ (H : Heap) (locs : List Loc), va_P (dC, dI) vwCl (kX7 cI cB aH (aR 0) (aM 0) (aE 0) (aC 0) (aP 0) oH ++ kX4 cI cB aP oP ++ kX1 cI cB aM (aN 0) (aY 0) (aK 0) ++ kA8 cI cB aN oN ++ kX2 cI cB aE (aQ 0) oE ++ kX3 cI cB aQ oQ ++ kX0 cI cB aC oC) H → va_D A (kX7 cI cB aH (aR 0) (aM 0) (aE 0) (aC 0) (aP 0) oH ++ kX4 cI cB aP oP ++ kX1 cI cB aM (aN 0) (aY 0) (aK 0) ++ kA8 cI cB aN oN ++ kX2 cI cB aE (aQ 0) oE ++ kX3 cI cB aQ oQ ++ kX0 cI cB aC oC) → va_S A s.heap H locs → ∀ (ls : Array Slot), lv_has ls 5 [(0, .ref (aH 0)), (1, .int p1), (2, .int p2), (3, .int p3)] → W p l e rX7_set s m args below meth c H locs 0 0 QQ (F0 m 38 ls [.int t1]) := by
    intro t1 hf H locs hP hD hS ls hl
    rw [eJ38_2] at hf
    refine lv_istore (lv' := [(4, .int t1), (0, .ref (aH 0)), (1, .int p1), (2, .int p2), (3, .int p3)]) C.1.1 C.1.2.1 dX7_set_38 hl (by decide) rfl (fun ls hl => ?_)
    refine lv_aload_n C.1.1 C.1.2.1 dX7_set_40 rfl (lv_at hl 1 rfl) ?_
    refine lv_iload C.1.1 C.1.2.1 dX7_set_41 (lv_at hl 0 rfl) ?_
    obtain ⟨J51_4, eJ51_4, hf⟩ := zJn_el hf
    have hJ51_4 : ∀ (t3 : Int32), J51_4 t3 = some (ov, oH', oN', oE', oQ', oC') → ∀ (H : Heap) (locs : List Loc), va_P (dC, dI) vwCl (kX7 cI cB aH (aR 0) (aM 0) (aE 0) (aC 0) (aP 0) oH ++ kX4 cI cB aP oP ++ kX1 cI cB aM (aN 0) (aY 0) (aK 0) ++ kA8 cI cB aN oN ++ kX2 cI cB aE (aQ 0) oE ++ kX3 cI cB aQ oQ ++ kX0 cI cB aC oC) H → va_D A (kX7 cI cB aH (aR 0) (aM 0) (aE 0) (aC 0) (aP 0) oH ++ kX4 cI cB aP oP ++ kX1 cI cB aM (aN 0) (aY 0) (aK 0) ++ kA8 cI cB aN oN ++ kX2 cI cB aE (aQ 0) oE ++ kX3 cI cB aQ oQ ++ kX0 cI cB aC oC) → va_S A s.heap H locs → ∀ (ls : Array Slot), lv_has ls 5 [(0, .ref (aH 0)), (1, .int p1), (2, .int p2), (3, .int p3)] → W p l e rX7_set s m args below meth c H locs 0 0 QQ (F0 m 51 ls [.int t3, .ref (aH 0)]) := by
      intro t3 hf H locs hP hD hS ls hl
      rw [eJ51_4] at hf
      obtain ⟨v5, oH_6, hg, hf⟩ := zB2_el hf
      refine zCVi (As := [.int t3]) (rest := []) (wr := (kX4 cI cB aP oP ++ kX1 cI cB aM (aN 0) (aY 0) (aK 0) ++ kA8 cI cB aN oN ++ kX2 cI cB aE (aQ 0) oE ++ kX3 cI cB aQ oQ ++ kX0 cI cB aC oC)) (wn := (kX7 cI cB aH (aR 0) (aM 0) (aE 0) (aC 0) (aP 0) oH_6 ++ kX4 cI cB aP oP ++ kX1 cI cB aM (aN 0) (aY 0) (aK 0) ++ kA8 cI cB aN oN ++ kX2 cI cB aE (aQ 0) oE ++ kX3 cI cB aQ oQ ++ kX0 cI cB aC oC)) C.1 hK hA hP hD hS [0, 1] [2, 3, 4, 5, 6, 7, 8, 9, 10, 11, 12, 13, 14, 15, 16, 17, 18, 19, 20, 21, 22, 23, 24, 25, 26, 27, 28, 29, 30] [29, 30, 0, 1, 2, 3, 4, 5, 6, 7, 8, 9, 10, 11, 12, 13, 14, 15, 16, 17, 18, 19, 20, 21, 22, 23, 24, 25, 26, 27, 28] 0 (mtX7_refused l dC dI cI cB aH aR aP aM aE aC H.size oH t3 hg) (zCwV 1 C.1 wlX7_64 wiX7_refused ws_X7_refused wnX7 wkX7_refused rfl rfl (by decide +kernel) ⟨Nat.le_of_ble_eq_true rfl, Nat.le_of_ble_eq_true rfl⟩) rfl rfl (by decide +kernel) rfl rfl rfl rfl hl.1 (Nat.le_of_ble_eq_true rfl) dX7_set_51 ⟨Nat.zero_le _, Nat.zero_le _⟩ rfl (fun H locs hP hD hS => ?_)
      refine lv_if_eq (tgt := 59) C.1.1 C.1.2.1 dX7_set_54 (by decide) (fun hc => ?_) (fun hc => ?_)
      · replace hf := zIf_t hf hc
        refine lv_aload_n C.1.1 C.1.2.1 dX7_set_59 rfl (lv_at hl 0 rfl) ?_
        refine lv_iload_n C.1.1 C.1.2.1 dX7_set_60 rfl (lv_at hl 1 rfl) ?_
        obtain ⟨oH_7, eoH_7, hf⟩ := zLet_el hf
        refine zPut (ty := .int) (kX7 cI cB aH (aR 0) (aM 0) (aE 0) (aC 0) (aP 0) oH_7 ++ kX4 cI cB aP oP ++ kX1 cI cB aM (aN 0) (aY 0) (aK 0) ++ kA8 cI cB aN oN ++ kX2 cI cB aE (aQ 0) oE ++ kX3 cI cB aQ oQ ++ kX0 cI cB aC oC) C.1 wuX7 tyX7 tyX7_ok nmX7 hK hP hD hS 0 rfl rfl 7 (by decide) wfX7_52 rfl rfl (by decide +kernel) rfl rfl (Nat.le_of_ble_eq_true rfl) dX7_set_61 (by rw [eoH_7]; rfl) (fun H locs hP hD hS => ?_)
        refine lv_aload_n C.1.1 C.1.2.1 dX7_set_64 rfl (lv_at hl 0 rfl) ?_
        refine lv_iload_n C.1.1 C.1.2.1 dX7_set_65 rfl (lv_at hl 2 rfl) ?_
        obtain ⟨oH_8, eoH_8, hf⟩ := zLet_el hf
        refine zPut (ty := .int) (kX7 cI cB aH (aR 0) (aM 0) (aE 0) (aC 0) (aP 0) oH_8 ++ kX4 cI cB aP oP ++ kX1 cI cB aM (aN 0) (aY 0) (aK 0) ++ kA8 cI cB aN oN ++ kX2 cI cB aE (aQ 0) oE ++ kX3 cI cB aQ oQ ++ kX0 cI cB aC oC) C.1 wuX7 tyX7 tyX7_ok nmX7 hK hP hD hS 0 rfl rfl 8 (by decide) wfX7_55 rfl rfl (by decide +kernel) rfl rfl (Nat.le_of_ble_eq_true rfl) dX7_set_66 (by rw [eoH_8]; rfl) (fun H locs hP hD hS => ?_)
        refine lv_aload_n C.1.1 C.1.2.1 dX7_set_69 rfl (lv_at hl 0 rfl) ?_
        refine lv_iload_n C.1.1 C.1.2.1 dX7_set_70 rfl (lv_at hl 3 rfl) ?_
        obtain ⟨oH_9, eoH_9, hf⟩ := zLet_el hf
        refine zPut (ty := .int) (kX7 cI cB aH (aR 0) (aM 0) (aE 0) (aC 0) (aP 0) oH_9 ++ kX4 cI cB aP oP ++ kX1 cI cB aM (aN 0) (aY 0) (aK 0) ++ kA8 cI cB aN oN ++ kX2 cI cB aE (aQ 0) oE ++ kX3 cI cB aQ oQ ++ kX0 cI cB aC oC) C.1 wuX7 tyX7 tyX7_ok nmX7 hK hP hD hS 0 rfl rfl 9 (by decide) wfX7_58 rfl rfl (by decide +kernel) rfl rfl (Nat.le_of_ble_eq_true rfl) dX7_set_71 (by rw [eoH_9]; rfl) (fun H locs hP hD hS => ?_)
        refine lv_aload_n C.1.1 C.1.2.1 dX7_set_74 rfl (lv_at hl 0 rfl) ?_
        refine zGet (.ref (aM 0)) C.1 wuX7 hK hP 0 rfl rfl 1 (by decide) wfX7_19 rfl rfl dX7_set_75 ?_
        refine lv_aload_n C.1.1 C.1.2.1 dX7_set_78 rfl (lv_at hl 0 rfl) ?_
        obtain ⟨v10, hg, hf⟩ := zB1_el hf
        refine zCVi (As := []) (rest := [.ref (aM 0)]) (wr := (kX4 cI cB aP oP ++ kX1 cI cB aM (aN 0) (aY 0) (aK 0) ++ kA8 cI cB aN oN ++ kX2 cI cB aE (aQ 0) oE ++ kX3 cI cB aQ oQ ++ kX0 cI cB aC oC)) (wn := (kX7 cI cB aH (aR 0) (aM 0) (aE 0) (aC 0) (aP 0) oH_9 ++ kX4 cI cB aP oP ++ kX1 cI cB aM (aN 0) (aY 0) (aK 0) ++ kA8 cI cB aN oN ++ kX2 cI cB aE (aQ 0) oE ++ kX3 cI cB aQ oQ ++ kX0 cI cB aC oC)) C.1 hK hA hP hD hS [0, 1] [2, 3, 4, 5, 6, 7, 8, 9, 10, 11, 12, 13, 14, 15, 16, 17, 18, 19, 20, 21, 22, 23, 24, 25, 26, 27, 28, 29, 30] [29, 30, 0, 1, 2, 3, 4, 5, 6, 7, 8, 9, 10, 11, 12, 13, 14, 15, 16, 17, 18, 19, 20, 21, 22, 23, 24, 25, 26, 27, 28] 0 (mtX7_mask l dC dI cI cB aH aR aP aM aE aC H.size oH_9 hg) (zCwV 0 C.1 wlX7_68 wiX7_mask ws_X7_mask wnX7 wkX7_mask rfl rfl (by decide +kernel) ⟨Nat.le_of_ble_eq_true rfl, Nat.le_of_ble_eq_true rfl⟩) rfl rfl (by decide +kernel) rfl rfl rfl rfl hl.1 (Nat.le_of_ble_eq_true rfl) dX7_set_79 ⟨Nat.zero_le _, Nat.zero_le _⟩ rfl (fun H locs hP hD hS => ?_)
        obtain ⟨oN_11, hg, hf⟩ := zB1_el hf
        refine zCVv (As := [.int v10]) (rest := []) (wr := (kX7 cI cB aH (aR 0) (aM 0) (aE 0) (aC 0) (aP 0) oH_9 ++ kX4 cI cB aP oP ++ kX2 cI cB aE (aQ 0) oE ++ kX3 cI cB aQ oQ ++ kX0 cI cB aC oC)) (wn := (kX7 cI cB aH (aR 0) (aM 0) (aE 0) (aC 0) (aP 0) oH_9 ++ kX4 cI cB aP oP ++ kX1 cI cB aM (aN 0) (aY 0) (aK 0) ++ kA8 cI cB aN oN_11 ++ kX2 cI cB aE (aQ 0) oE ++ kX3 cI cB aQ oQ ++ kX0 cI cB aC oC)) C.1 hK hA hP hD hS [12, 13] [0, 1, 2, 3, 4, 5, 6, 7, 8, 9, 10, 11, 14, 15, 16, 17, 18, 19, 20, 21, 22, 23, 24, 25, 26, 27, 28, 29, 30] [0, 1, 2, 3, 4, 5, 6, 7, 8, 9, 10, 11, 29, 30, 12, 13, 14, 15, 16, 17, 18, 19, 20, 21, 22, 23, 24, 25, 26, 27, 28] 0 (mtX1_narrow l dC dI cI cB aM aN aY aK H.size NN oN v10 hg) (zCwV 1 C.1 wlX7_72 wiX1_narrow ws_X1_narrow wnX1 wkX1_narrow rfl rfl (by decide +kernel) ⟨Nat.le_of_ble_eq_true rfl, Nat.le_of_ble_eq_true rfl⟩) rfl rfl (by decide +kernel) rfl rfl rfl rfl hl.1 (Nat.le_of_ble_eq_true rfl) dX7_set_82 ⟨Nat.zero_le _, Nat.zero_le _⟩ rfl (fun H locs hP hD hS => ?_)
        refine lv_aload_n C.1.1 C.1.2.1 dX7_set_85 rfl (lv_at hl 0 rfl) ?_
        obtain ⟨oE_12, oQ_13, oC_14, hg, hf⟩ := zB3_el hf
        refine zCVv (As := []) (rest := []) (wr := (kX1 cI cB aM (aN 0) (aY 0) (aK 0) ++ kA8 cI cB aN oN_11)) (wn := (kX7 cI cB aH (aR 0) (aM 0) (aE 0) (aC 0) (aP 0) oH_9 ++ kX4 cI cB aP oP ++ kX1 cI cB aM (aN 0) (aY 0) (aK 0) ++ kA8 cI cB aN oN_11 ++ kX2 cI cB aE (aQ 0) oE_12 ++ kX3 cI cB aQ oQ_13 ++ kX0 cI cB aC oC_14)) C.1 hK hA hP hD hS [0, 1, 2, 3, 4, 5, 6, 7, 8, 9, 10, 11, 14, 15, 16, 17, 18, 19, 20, 21, 22, 23, 24, 25, 26, 27, 28, 29, 30] [12, 13] [2, 3, 4, 5, 6, 7, 8, 9, 10, 11, 12, 13, 0, 1, 14, 15, 16, 17, 18, 19, 20, 21, 22, 23, 24, 25, 26, 27, 28, 29, 30] 0 (mtX7_refresh l dC dI cI cB aH aR aP aM aE aQ aC H.size NN oH_9 oP oE oQ oC hg) (zCwV 0 C.1 wlX7_76 wiX7_refresh ws_X7_refresh wnX7 wkX7_refresh rfl rfl (by decide +kernel) ⟨Nat.le_of_ble_eq_true rfl, Nat.le_of_ble_eq_true rfl⟩) rfl rfl (by decide +kernel) rfl rfl rfl rfl hl.1 (Nat.le_of_ble_eq_true rfl) dX7_set_86 ⟨Nat.zero_le _, Nat.zero_le _⟩ rfl (fun H locs hP hD hS => ?_)
        refine lv_iconst (v := 1) C.1.1 C.1.2.1 dX7_set_89 (by decide) ?_
        cases hf
        rw [← hQ]
        exact zRz C (by decide +kernel) hK hP hD hS dX7_set_90
      · replace hf := zIf_f hf hc
        refine lv_iconst (v := 0) C.1.1 C.1.2.1 dX7_set_57 (by decide) ?_
        cases hf
        rw [← hQ]
        exact zRz C (by decide +kernel) hK hP hD hS dX7_set_58
    refine lv_if_eq (tgt := 50) C.1.1 C.1.2.1 dX7_set_43 (by decide) (fun hc => ?_) (fun hc => ?_)
    · replace hf := zIf_t hf hc
      refine lv_iconst (v := 2) C.1.1 C.1.2.1 dX7_set_50 (by decide) ?_
      exact hJ51_4 (2 : Int32) hf H locs hP hD hS ls (lv_sub hl [1, 2, 3, 4] rfl)
    · replace hf := zIf_f hf hc
      refine lv_iconst (v := 0) C.1.1 C.1.2.1 dX7_set_46 (by decide) ?_
      refine lv_goto (tgt := 51) C.1.1 C.1.2.1 dX7_set_47 (by decide) ?_
      exact hJ51_4 (0 : Int32) hf H locs hP hD hS ls (lv_sub hl [1, 2, 3, 4] rfl)
  obtain ⟨J37_15, eJ37_15, hf⟩ := zJn_el hf
  have hJ37_15 : ∀ (u : Unit), J37_15 u = some (ov, oH', oN', oE', oQ', oC') → ∀ (H : Heap) (locs : List Loc), va_P (dC, dI) vwCl (kX7 cI cB aH (aR 0) (aM 0) (aE 0) (aC 0) (aP 0) oH ++ kX4 cI cB aP oP ++ kX1 cI cB aM (aN 0) (aY 0) (aK 0) ++ kA8 cI cB aN oN ++ kX2 cI cB aE (aQ 0) oE ++ kX3 cI cB aQ oQ ++ kX0 cI cB aC oC) H → va_D A (kX7 cI cB aH (aR 0) (aM 0) (aE 0) (aC 0) (aP 0) oH ++ kX4 cI cB aP oP ++ kX1 cI cB aM (aN 0) (aY 0) (aK 0) ++ kA8 cI cB aN oN ++ kX2 cI cB aE (aQ 0) oE ++ kX3 cI cB aQ oQ ++ kX0 cI cB aC oC) → va_S A s.heap H locs → ∀ (ls : Array Slot), lv_has ls 5 [(0, .ref (aH 0)), (1, .int p1), (2, .int p2), (3, .int p3)] → W p l e rX7_set s m args below meth c H locs 0 0 QQ (F0 m 37 ls []) := by
    intro u hf H locs hP hD hS ls hl
    rw [eJ37_15] at hf
    refine lv_iconst (v := 0) C.1.1 C.1.2.1 dX7_set_37 (by decide) ?_
    exact hJ38_2 (0 : Int32) hf H locs hP hD hS ls (lv_sub hl [0, 1, 2, 3] rfl)
  refine lv_icmp_lt (tgt := 37) C.1.1 C.1.2.1 dX7_set_2 (by decide) (fun hc => ?_) (fun hc => ?_)
  · replace hf := zIf_t hf hc
    exact hJ37_15 () hf H locs hP hD hS ls (lv_sub hl [0, 1, 2, 3] rfl)
  · replace hf := zIf_f hf hc
    refine lv_iload_n C.1.1 C.1.2.1 dX7_set_5 rfl (lv_at hl 1 rfl) ?_
    refine lv_bipush (v := 16) C.1.1 C.1.2.1 dX7_set_6 (by decide) ?_
    refine lv_icmp_gt (tgt := 37) C.1.1 C.1.2.1 dX7_set_8 (by decide) (fun hc => ?_) (fun hc => ?_)
    · replace hf := zIf_t hf hc
      exact hJ37_15 () hf H locs hP hD hS ls (lv_sub hl [0, 1, 2, 3] rfl)
    · replace hf := zIf_f hf hc
      refine lv_iload_n C.1.1 C.1.2.1 dX7_set_11 rfl (lv_at hl 2 rfl) ?_
      refine lv_iconst (v := 1) C.1.1 C.1.2.1 dX7_set_12 (by decide) ?_
      refine lv_icmp_lt (tgt := 37) C.1.1 C.1.2.1 dX7_set_13 (by decide) (fun hc => ?_) (fun hc => ?_)
      · replace hf := zIf_t hf hc
        exact hJ37_15 () hf H locs hP hD hS ls (lv_sub hl [0, 1, 2, 3] rfl)
      · replace hf := zIf_f hf hc
        refine lv_iload_n C.1.1 C.1.2.1 dX7_set_16 rfl (lv_at hl 2 rfl) ?_
        refine lv_sipush (v := 1000) C.1.1 C.1.2.1 dX7_set_17 (by decide) ?_
        refine lv_icmp_gt (tgt := 37) C.1.1 C.1.2.1 dX7_set_20 (by decide) (fun hc => ?_) (fun hc => ?_)
        · replace hf := zIf_t hf hc
          exact hJ37_15 () hf H locs hP hD hS ls (lv_sub hl [0, 1, 2, 3] rfl)
        · replace hf := zIf_f hf hc
          refine lv_iload_n C.1.1 C.1.2.1 dX7_set_23 rfl (lv_at hl 3 rfl) ?_
          refine lv_if_lt (tgt := 37) C.1.1 C.1.2.1 dX7_set_24 (by decide) (fun hc => ?_) (fun hc => ?_)
          · replace hf := zIf_t hf hc
            exact hJ37_15 () hf H locs hP hD hS ls (lv_sub hl [0, 1, 2, 3] rfl)
          · replace hf := zIf_f hf hc
            refine lv_iload_n C.1.1 C.1.2.1 dX7_set_27 rfl (lv_at hl 3 rfl) ?_
            refine lv_bipush (v := 100) C.1.1 C.1.2.1 dX7_set_28 (by decide) ?_
            refine lv_icmp_gt (tgt := 37) C.1.1 C.1.2.1 dX7_set_30 (by decide) (fun hc => ?_) (fun hc => ?_)
            · replace hf := zIf_t hf hc
              exact hJ37_15 () hf H locs hP hD hS ls (lv_sub hl [0, 1, 2, 3] rfl)
            · replace hf := zIf_f hf hc
              refine lv_iconst (v := 1) C.1.1 C.1.2.1 dX7_set_33 (by decide) ?_
              refine lv_goto (tgt := 38) C.1.1 C.1.2.1 dX7_set_34 (by decide) ?_
              exact hJ38_2 (1 : Int32) hf H locs hP hD hS ls (lv_sub hl [0, 1, 2, 3] rfl)
def fX7_feed (NN : Nat) (oT : Rc) (p1 : Int32) (p2 : Int32) (p3 : Int32) (p4 : Int32) (p5 : Int32) : Option (Int32 × Rc) :=
  if ((oT 1 0) + (20 : Int32)) ≤ (600 : Int32) then (
    zB1 (fX6_append NN oT p1) fun oT_1 =>
    zB1 (fX6_append NN oT_1 p2) fun oT_2 =>
    zB1 (fX6_append NN oT_2 p3) fun oT_3 =>
    zB1 (fX6_append NN oT_3 p4) fun oT_4 =>
    zB1 (fX6_append NN oT_4 p5) fun oT_5 =>
    some ((oT_5 1 0), oT_5)
  ) else (
    some ((-1 : Int32), oT)
  )
abbrev rX7_feed : Room := { frames := 1, cells := 0, slots := 0, locals := 22 }
set_option maxHeartbeats 4000000 in
set_option maxRecDepth 100000 in
theorem mtX7_feed (l : Launch) (dC : Nat → ClassId) (dI : Nat → Nat → Nat) (cI cB : ClassId) (aH aR aT aS aP aM aE aC : Nat → Nat) (sz : Nat) (NN : Nat) (oH : Rc) (oR : Rc) (oT : Rc) (p1 : Int32) (p2 : Int32) (p3 : Int32) (p4 : Int32) (p5 : Int32) {ov : Int32} {oT' : Rc} (hf : fX7_feed NN oT p1 p2 p3 p4 p5 = some (ov, oT')) : zMi l yX7_feed (Cond.code yX7_feed cX7_feed 7 (some .int) :: lw_g) rX7_feed (dC, dI) [(cI, .int), (cB, .byte)] [.ref (aH 0), .int p1, .int p2, .int p3, .int p4, .int p5] sz (kX7 cI cB aH (aR 0) (aM 0) (aE 0) (aC 0) (aP 0) oH ++ kX5 cI cB aR (aT 0) (aS 0) oR ++ kX6 cI cB aT oT) ov (kX7 cI cB aH (aR 0) (aM 0) (aE 0) (aC 0) (aP 0) oH ++ kX5 cI cB aR (aT 0) (aS 0) oR ++ kX6 cI cB aT oT') := by
  refine zSt (cc := cX7_feed) (maxL := 7) (ret := (some .int)) (own := RX7) (fun A => zQi (dC, dI) [(cI, .int), (cB, .byte)] A ov (kX7 cI cB aH (aR 0) (aM 0) (aE 0) (aC 0) (aP 0) oH ++ kX5 cI cB aR (aT 0) (aS 0) oR ++ kX6 cI cB aT oT')) (by decide) rfl rfl (Nat.le_of_ble_eq_true rfl) ?_
  intro p e s m below meth c ls A H locs C hK hA hP hD hS hl
  generalize hQ : MQ below (zQi (dC, dI) [(cI, .int), (cB, .byte)] A ov (kX7 cI cB aH (aR 0) (aM 0) (aE 0) (aC 0) (aP 0) oH ++ kX5 cI cB aR (aT 0) (aS 0) oR ++ kX6 cI cB aT oT')) _ s 0 0 A = QQ
  generalize ([.ref (aH 0), .int p1, .int p2, .int p3, .int p4, .int p5] : List Value).toArray = args at C hQ ⊢
  have hl : lv_has ls 7 [(0, .ref (aH 0)), (1, .int p1), (2, .int p2), (3, .int p3), (4, .int p4), (5, .int p5)] := hl
  unfold fX7_feed at hf
  refine lv_aload_n C.1.1 C.1.2.1 dX7_feed_0 rfl (lv_at hl 0 rfl) ?_
  refine zGet (.ref (aR 0)) C.1 wuX7 hK hP 0 rfl rfl 0 (by decide) wfX7_12 rfl rfl dX7_feed_1 ?_
  refine zGet (.ref (aT 0)) C.1 wuX5 hK hP 2 rfl rfl 0 (by decide) wfX7_79 rfl rfl dX7_feed_4 ?_
  refine lv_astore (lv' := [(6, .ref (aT 0)), (0, .ref (aH 0)), (1, .int p1), (2, .int p2), (3, .int p3), (4, .int p4), (5, .int p5)]) C.1.1 C.1.2.1 dX7_feed_7 hl (by decide) rfl (fun ls hl => ?_)
  refine lv_aload C.1.1 C.1.2.1 dX7_feed_9 (lv_at hl 0 rfl) ?_
  refine zGet (.int (oT 1 0)) C.1 wuX6 hK hP 5 rfl rfl 1 (by decide) wfX7_83 rfl rfl dX7_feed_11 ?_
  refine lv_bipush (v := 20) C.1.1 C.1.2.1 dX7_feed_14 (by decide) ?_
  refine lv_iadd C.1.1 C.1.2.1 dX7_feed_16 ?_
  refine lv_sipush (v := 600) C.1.1 C.1.2.1 dX7_feed_17 (by decide) ?_
  refine lv_icmp_le (tgt := 25) C.1.1 C.1.2.1 dX7_feed_20 (by decide) (fun hc => ?_) (fun hc => ?_)
  · replace hf := zIf_t hf hc
    refine lv_aload C.1.1 C.1.2.1 dX7_feed_25 (lv_at hl 0 rfl) ?_
    refine lv_iload_n C.1.1 C.1.2.1 dX7_feed_27 rfl (lv_at hl 2 rfl) ?_
    obtain ⟨oT_1, hg, hf⟩ := zB1_el hf
    refine zCVv (As := [.int p1]) (rest := []) (wr := (kX7 cI cB aH (aR 0) (aM 0) (aE 0) (aC 0) (aP 0) oH ++ kX5 cI cB aR (aT 0) (aS 0) oR)) (wn := (kX7 cI cB aH (aR 0) (aM 0) (aE 0) (aC 0) (aP 0) oH ++ kX5 cI cB aR (aT 0) (aS 0) oR ++ kX6 cI cB aT oT_1)) C.1 hK hA hP hD hS [5, 6] [0, 1, 2, 3, 4] [0, 1, 2, 3, 4, 5, 6] 0 (mtX6_append l dC dI cI cB aT H.size NN oT p1 hg) (zCwV 1 C.1 wlX7_88 wiX6_append ws_X6_append wnX6 wkX6_append rfl rfl (by decide +kernel) ⟨Nat.le_of_ble_eq_true rfl, Nat.le_of_ble_eq_true rfl⟩) rfl rfl (by decide +kernel) rfl rfl rfl rfl hl.1 (Nat.le_of_ble_eq_true rfl) dX7_feed_28 ⟨Nat.zero_le _, Nat.zero_le _⟩ rfl (fun H locs hP hD hS => ?_)
    refine lv_aload C.1.1 C.1.2.1 dX7_feed_31 (lv_at hl 0 rfl) ?_
    refine lv_iload_n C.1.1 C.1.2.1 dX7_feed_33 rfl (lv_at hl 3 rfl) ?_
    obtain ⟨oT_2, hg, hf⟩ := zB1_el hf
    refine zCVv (As := [.int p2]) (rest := []) (wr := (kX7 cI cB aH (aR 0) (aM 0) (aE 0) (aC 0) (aP 0) oH ++ kX5 cI cB aR (aT 0) (aS 0) oR)) (wn := (kX7 cI cB aH (aR 0) (aM 0) (aE 0) (aC 0) (aP 0) oH ++ kX5 cI cB aR (aT 0) (aS 0) oR ++ kX6 cI cB aT oT_2)) C.1 hK hA hP hD hS [5, 6] [0, 1, 2, 3, 4] [0, 1, 2, 3, 4, 5, 6] 0 (mtX6_append l dC dI cI cB aT H.size NN oT_1 p2 hg) (zCwV 1 C.1 wlX7_88 wiX6_append ws_X6_append wnX6 wkX6_append rfl rfl (by decide +kernel) ⟨Nat.le_of_ble_eq_true rfl, Nat.le_of_ble_eq_true rfl⟩) rfl rfl (by decide +kernel) rfl rfl rfl rfl hl.1 (Nat.le_of_ble_eq_true rfl) dX7_feed_34 ⟨Nat.zero_le _, Nat.zero_le _⟩ rfl (fun H locs hP hD hS => ?_)
    refine lv_aload C.1.1 C.1.2.1 dX7_feed_37 (lv_at hl 0 rfl) ?_
    refine lv_iload_n C.1.1 C.1.2.1 dX7_feed_39 rfl (lv_at hl 4 rfl) ?_
    obtain ⟨oT_3, hg, hf⟩ := zB1_el hf
    refine zCVv (As := [.int p3]) (rest := []) (wr := (kX7 cI cB aH (aR 0) (aM 0) (aE 0) (aC 0) (aP 0) oH ++ kX5 cI cB aR (aT 0) (aS 0) oR)) (wn := (kX7 cI cB aH (aR 0) (aM 0) (aE 0) (aC 0) (aP 0) oH ++ kX5 cI cB aR (aT 0) (aS 0) oR ++ kX6 cI cB aT oT_3)) C.1 hK hA hP hD hS [5, 6] [0, 1, 2, 3, 4] [0, 1, 2, 3, 4, 5, 6] 0 (mtX6_append l dC dI cI cB aT H.size NN oT_2 p3 hg) (zCwV 1 C.1 wlX7_88 wiX6_append ws_X6_append wnX6 wkX6_append rfl rfl (by decide +kernel) ⟨Nat.le_of_ble_eq_true rfl, Nat.le_of_ble_eq_true rfl⟩) rfl rfl (by decide +kernel) rfl rfl rfl rfl hl.1 (Nat.le_of_ble_eq_true rfl) dX7_feed_40 ⟨Nat.zero_le _, Nat.zero_le _⟩ rfl (fun H locs hP hD hS => ?_)
    refine lv_aload C.1.1 C.1.2.1 dX7_feed_43 (lv_at hl 0 rfl) ?_
    refine lv_iload C.1.1 C.1.2.1 dX7_feed_45 (lv_at hl 5 rfl) ?_
    obtain ⟨oT_4, hg, hf⟩ := zB1_el hf
    refine zCVv (As := [.int p4]) (rest := []) (wr := (kX7 cI cB aH (aR 0) (aM 0) (aE 0) (aC 0) (aP 0) oH ++ kX5 cI cB aR (aT 0) (aS 0) oR)) (wn := (kX7 cI cB aH (aR 0) (aM 0) (aE 0) (aC 0) (aP 0) oH ++ kX5 cI cB aR (aT 0) (aS 0) oR ++ kX6 cI cB aT oT_4)) C.1 hK hA hP hD hS [5, 6] [0, 1, 2, 3, 4] [0, 1, 2, 3, 4, 5, 6] 0 (mtX6_append l dC dI cI cB aT H.size NN oT_3 p4 hg) (zCwV 1 C.1 wlX7_88 wiX6_append ws_X6_append wnX6 wkX6_append rfl rfl (by decide +kernel) ⟨Nat.le_of_ble_eq_true rfl, Nat.le_of_ble_eq_true rfl⟩) rfl rfl (by decide +kernel) rfl rfl rfl rfl hl.1 (Nat.le_of_ble_eq_true rfl) dX7_feed_47 ⟨Nat.zero_le _, Nat.zero_le _⟩ rfl (fun H locs hP hD hS => ?_)
    refine lv_aload C.1.1 C.1.2.1 dX7_feed_50 (lv_at hl 0 rfl) ?_
    refine lv_iload C.1.1 C.1.2.1 dX7_feed_52 (lv_at hl 6 rfl) ?_
    obtain ⟨oT_5, hg, hf⟩ := zB1_el hf
    refine zCVv (As := [.int p5]) (rest := []) (wr := (kX7 cI cB aH (aR 0) (aM 0) (aE 0) (aC 0) (aP 0) oH ++ kX5 cI cB aR (aT 0) (aS 0) oR)) (wn := (kX7 cI cB aH (aR 0) (aM 0) (aE 0) (aC 0) (aP 0) oH ++ kX5 cI cB aR (aT 0) (aS 0) oR ++ kX6 cI cB aT oT_5)) C.1 hK hA hP hD hS [5, 6] [0, 1, 2, 3, 4] [0, 1, 2, 3, 4, 5, 6] 0 (mtX6_append l dC dI cI cB aT H.size NN oT_4 p5 hg) (zCwV 1 C.1 wlX7_88 wiX6_append ws_X6_append wnX6 wkX6_append rfl rfl (by decide +kernel) ⟨Nat.le_of_ble_eq_true rfl, Nat.le_of_ble_eq_true rfl⟩) rfl rfl (by decide +kernel) rfl rfl rfl rfl hl.1 (Nat.le_of_ble_eq_true rfl) dX7_feed_54 ⟨Nat.zero_le _, Nat.zero_le _⟩ rfl (fun H locs hP hD hS => ?_)
    refine lv_aload C.1.1 C.1.2.1 dX7_feed_57 (lv_at hl 0 rfl) ?_
    refine zGet (.int (oT_5 1 0)) C.1 wuX6 hK hP 5 rfl rfl 1 (by decide) wfX7_83 rfl rfl dX7_feed_59 ?_
    cases hf
    rw [← hQ]
    exact zRi C hK hP hD hS dX7_feed_62
  · replace hf := zIf_f hf hc
    refine lv_iconst (v := (-1)) C.1.1 C.1.2.1 dX7_feed_23 (by decide) ?_
    cases hf
    rw [← hQ]
    exact zRi C hK hP hD hS dX7_feed_24
def fX7_fault (oR : Rc) : Option (Int32) :=
  some (oR 2 0)
abbrev rX7_fault : Room := { frames := 0, cells := 0, slots := 0, locals := 0 }
set_option maxHeartbeats 4000000 in
set_option maxRecDepth 100000 in
theorem mtX7_fault (l : Launch) (dC : Nat → ClassId) (dI : Nat → Nat → Nat) (cI cB : ClassId) (aH aR aT aS aP aM aE aC : Nat → Nat) (sz : Nat) (oH : Rc) (oR : Rc) {ov : Int32} (hf : fX7_fault oR = some ov) : zMi l yX7_fault (Cond.code yX7_fault cX7_fault 1 (some .int) :: lw_g) rX7_fault (dC, dI) [(cI, .int), (cB, .byte)] [.ref (aH 0)] sz (kX7 cI cB aH (aR 0) (aM 0) (aE 0) (aC 0) (aP 0) oH ++ kX5 cI cB aR (aT 0) (aS 0) oR) ov (kX7 cI cB aH (aR 0) (aM 0) (aE 0) (aC 0) (aP 0) oH ++ kX5 cI cB aR (aT 0) (aS 0) oR) := by
  refine zSt (cc := cX7_fault) (maxL := 1) (ret := (some .int)) (own := RX7) (fun A => zQi (dC, dI) [(cI, .int), (cB, .byte)] A ov (kX7 cI cB aH (aR 0) (aM 0) (aE 0) (aC 0) (aP 0) oH ++ kX5 cI cB aR (aT 0) (aS 0) oR)) (by decide) rfl rfl (Nat.le_of_ble_eq_true rfl) ?_
  intro p e s m below meth c ls A H locs C hK hA hP hD hS hl
  generalize hQ : MQ below (zQi (dC, dI) [(cI, .int), (cB, .byte)] A ov (kX7 cI cB aH (aR 0) (aM 0) (aE 0) (aC 0) (aP 0) oH ++ kX5 cI cB aR (aT 0) (aS 0) oR)) _ s 0 0 A = QQ
  generalize ([.ref (aH 0)] : List Value).toArray = args at C hQ ⊢
  have hl : lv_has ls 1 [(0, .ref (aH 0))] := hl
  unfold fX7_fault at hf
  refine lv_aload_n C.1.1 C.1.2.1 dX7_fault_0 rfl (lv_at hl 0 rfl) ?_
  refine zGet (.ref (aR 0)) C.1 wuX7 hK hP 0 rfl rfl 0 (by decide) wfX7_12 rfl rfl dX7_fault_1 ?_
  refine zGet (.int (oR 2 0)) C.1 wuX5 hK hP 2 rfl rfl 2 (by decide) wfX7_101 rfl rfl dX7_fault_4 ?_
  cases hf
  rw [← hQ]
  exact zRi C hK hP hD hS dX7_fault_7
def fX7_where (oH : Rc) (oR : Rc) : Option (Int32) :=
  if (oH 10 0) = (3 : Int32) then (
    some (oR 3 0)
  ) else (
    some (-1 : Int32)
  )
abbrev rX7_where : Room := { frames := 0, cells := 0, slots := 0, locals := 0 }
set_option maxHeartbeats 4000000 in
set_option maxRecDepth 100000 in
theorem mtX7_where (l : Launch) (dC : Nat → ClassId) (dI : Nat → Nat → Nat) (cI cB : ClassId) (aH aR aT aS aP aM aE aC : Nat → Nat) (sz : Nat) (oH : Rc) (oR : Rc) {ov : Int32} (hf : fX7_where oH oR = some ov) : zMi l yX7_where (Cond.code yX7_where cX7_where 1 (some .int) :: lw_g) rX7_where (dC, dI) [(cI, .int), (cB, .byte)] [.ref (aH 0)] sz (kX7 cI cB aH (aR 0) (aM 0) (aE 0) (aC 0) (aP 0) oH ++ kX5 cI cB aR (aT 0) (aS 0) oR) ov (kX7 cI cB aH (aR 0) (aM 0) (aE 0) (aC 0) (aP 0) oH ++ kX5 cI cB aR (aT 0) (aS 0) oR) := by
  refine zSt (cc := cX7_where) (maxL := 1) (ret := (some .int)) (own := RX7) (fun A => zQi (dC, dI) [(cI, .int), (cB, .byte)] A ov (kX7 cI cB aH (aR 0) (aM 0) (aE 0) (aC 0) (aP 0) oH ++ kX5 cI cB aR (aT 0) (aS 0) oR)) (by decide) rfl rfl (Nat.le_of_ble_eq_true rfl) ?_
  intro p e s m below meth c ls A H locs C hK hA hP hD hS hl
  generalize hQ : MQ below (zQi (dC, dI) [(cI, .int), (cB, .byte)] A ov (kX7 cI cB aH (aR 0) (aM 0) (aE 0) (aC 0) (aP 0) oH ++ kX5 cI cB aR (aT 0) (aS 0) oR)) _ s 0 0 A = QQ
  generalize ([.ref (aH 0)] : List Value).toArray = args at C hQ ⊢
  have hl : lv_has ls 1 [(0, .ref (aH 0))] := hl
  unfold fX7_where at hf
  refine lv_aload_n C.1.1 C.1.2.1 dX7_where_0 rfl (lv_at hl 0 rfl) ?_
  refine zGet (.int (oH 10 0)) C.1 wuX7 hK hP 0 rfl rfl 10 (by decide) wfX7_61 rfl rfl dX7_where_1 ?_
  refine lv_iconst (v := 3) C.1.1 C.1.2.1 dX7_where_4 (by decide) ?_
  refine lv_icmp_ne (tgt := 18) C.1.1 C.1.2.1 dX7_where_5 (by decide) (fun hc => ?_) (fun hc => ?_)
  · replace hf := zIf_f hf hc
    refine lv_iconst (v := (-1)) C.1.1 C.1.2.1 dX7_where_18 (by decide) ?_
    cases hf
    rw [← hQ]
    exact zRi C hK hP hD hS dX7_where_19
  · replace hf := zIf_t hf hc
    refine lv_aload_n C.1.1 C.1.2.1 dX7_where_8 rfl (lv_at hl 0 rfl) ?_
    refine zGet (.ref (aR 0)) C.1 wuX7 hK hP 0 rfl rfl 0 (by decide) wfX7_12 rfl rfl dX7_where_9 ?_
    refine zGet (.int (oR 3 0)) C.1 wuX5 hK hP 2 rfl rfl 3 (by decide) wfX7_104 rfl rfl dX7_where_12 ?_
    refine lv_goto (tgt := 19) C.1.1 C.1.2.1 dX7_where_15 (by decide) ?_
    cases hf
    rw [← hQ]
    exact zRi C hK hP hD hS dX7_where_19
def fX7_isNumber (p1 : Int32) : Option (Int32) :=
  if p1 < 0 then (
    some (0 : Int32)
  ) else (
    if (8 : Int32) ≤ p1 then (
      some (0 : Int32)
    ) else (
      some (1 : Int32)
    )
  )
abbrev rX7_isNumber : Room := { frames := 0, cells := 0, slots := 0, locals := 0 }
set_option maxHeartbeats 4000000 in
set_option maxRecDepth 100000 in
theorem mtX7_isNumber (l : Launch) (dC : Nat → ClassId) (dI : Nat → Nat → Nat) (cI cB : ClassId) (aH aR aP aM aE aC : Nat → Nat) (sz : Nat) (oH : Rc) (p1 : Int32) {ov : Int32} (hf : fX7_isNumber p1 = some ov) : zMi l yX7_isNumber (Cond.code yX7_isNumber cX7_isNumber 2 (some .boolean) :: lw_g) rX7_isNumber (dC, dI) [(cI, .int), (cB, .byte)] [.ref (aH 0), .int p1] sz (kX7 cI cB aH (aR 0) (aM 0) (aE 0) (aC 0) (aP 0) oH) ov (kX7 cI cB aH (aR 0) (aM 0) (aE 0) (aC 0) (aP 0) oH) := by
  refine zSt (cc := cX7_isNumber) (maxL := 2) (ret := (some .boolean)) (own := RX7) (fun A => zQi (dC, dI) [(cI, .int), (cB, .byte)] A ov (kX7 cI cB aH (aR 0) (aM 0) (aE 0) (aC 0) (aP 0) oH)) (by decide) rfl rfl (Nat.le_of_ble_eq_true rfl) ?_
  intro p e s m below meth c ls A H locs C hK hA hP hD hS hl
  generalize hQ : MQ below (zQi (dC, dI) [(cI, .int), (cB, .byte)] A ov (kX7 cI cB aH (aR 0) (aM 0) (aE 0) (aC 0) (aP 0) oH)) _ s 0 0 A = QQ
  generalize ([.ref (aH 0), .int p1] : List Value).toArray = args at C hQ ⊢
  have hl : lv_has ls 2 [(0, .ref (aH 0)), (1, .int p1)] := hl
  unfold fX7_isNumber at hf
  refine lv_iload_n C.1.1 C.1.2.1 dX7_isNumber_0 rfl (lv_at hl 1 rfl) ?_
  refine lv_if_lt (tgt := 14) C.1.1 C.1.2.1 dX7_isNumber_1 (by decide) (fun hc => ?_) (fun hc => ?_)
  · replace hf := zIf_t hf hc
    refine lv_iconst (v := 0) C.1.1 C.1.2.1 dX7_isNumber_14 (by decide) ?_
    cases hf
    rw [← hQ]
    exact zRz C (by decide +kernel) hK hP hD hS dX7_isNumber_15
  · replace hf := zIf_f hf hc
    refine lv_iload_n C.1.1 C.1.2.1 dX7_isNumber_4 rfl (lv_at hl 1 rfl) ?_
    refine lv_bipush (v := 8) C.1.1 C.1.2.1 dX7_isNumber_5 (by decide) ?_
    refine lv_icmp_ge (tgt := 14) C.1.1 C.1.2.1 dX7_isNumber_7 (by decide) (fun hc => ?_) (fun hc => ?_)
    · replace hf := zIf_t hf hc
      refine lv_iconst (v := 0) C.1.1 C.1.2.1 dX7_isNumber_14 (by decide) ?_
      cases hf
      rw [← hQ]
      exact zRz C (by decide +kernel) hK hP hD hS dX7_isNumber_15
    · replace hf := zIf_f hf hc
      refine lv_iconst (v := 1) C.1.1 C.1.2.1 dX7_isNumber_10 (by decide) ?_
      refine lv_goto (tgt := 15) C.1.1 C.1.2.1 dX7_isNumber_11 (by decide) ?_
      cases hf
      rw [← hQ]
      exact zRz C (by decide +kernel) hK hP hD hS dX7_isNumber_15
def fX7_put (oH : Rc) (oN : Ar) (p1 : Int32) (p2 : Int32) : Option (Int32 × Rc × Ar) :=
  zB1 (fX7_isNumber p1) fun v1 =>
  zJn (fun (t2 : Int32) =>
      zB2 (fX7_refused oH t2) fun v4 oH_5 =>
      if v4 = 0 then (
        zB1 (fX7_mask oH_5) fun v6 =>
        zGd (inb p1 8) <|
        zLet (upd oN p1.toNatClampNeg (p2 &&& v6)) fun oN_7 =>
        some ((1 : Int32), oH_5, oN_7)
      ) else (
        some ((0 : Int32), oH_5, oN)
      )
    ) fun J14_3 =>
  if v1 = 0 then (
    J14_3 (1 : Int32)
  ) else (
    J14_3 (0 : Int32)
  )
abbrev rX7_put : Room := { frames := 1, cells := 0, slots := 0, locals := 21 }
set_option maxHeartbeats 4000000 in
set_option maxRecDepth 100000 in
theorem mtX7_put (l : Launch) (dC : Nat → ClassId) (dI : Nat → Nat → Nat) (cI cB : ClassId) (aH aR aP aM aN aY aK aE aC : Nat → Nat) (sz : Nat) (oH : Rc) (oN : Ar) (p1 : Int32) (p2 : Int32) {ov : Int32} {oH' : Rc} {oN' : Ar} (hf : fX7_put oH oN p1 p2 = some (ov, oH', oN')) : zMi l yX7_put (Cond.code yX7_put cX7_put 3 (some .boolean) :: lw_g) rX7_put (dC, dI) [(cI, .int), (cB, .byte)] [.ref (aH 0), .int p1, .int p2] sz (kX7 cI cB aH (aR 0) (aM 0) (aE 0) (aC 0) (aP 0) oH ++ kX1 cI cB aM (aN 0) (aY 0) (aK 0) ++ kA8 cI cB aN oN) ov (kX7 cI cB aH (aR 0) (aM 0) (aE 0) (aC 0) (aP 0) oH' ++ kX1 cI cB aM (aN 0) (aY 0) (aK 0) ++ kA8 cI cB aN oN') := by
  refine zSt (cc := cX7_put) (maxL := 3) (ret := (some .boolean)) (own := RX7) (fun A => zQi (dC, dI) [(cI, .int), (cB, .byte)] A ov (kX7 cI cB aH (aR 0) (aM 0) (aE 0) (aC 0) (aP 0) oH' ++ kX1 cI cB aM (aN 0) (aY 0) (aK 0) ++ kA8 cI cB aN oN')) (by decide) rfl rfl (Nat.le_of_ble_eq_true rfl) ?_
  intro p e s m below meth c ls A H locs C hK hA hP hD hS hl
  generalize hQ : MQ below (zQi (dC, dI) [(cI, .int), (cB, .byte)] A ov (kX7 cI cB aH (aR 0) (aM 0) (aE 0) (aC 0) (aP 0) oH' ++ kX1 cI cB aM (aN 0) (aY 0) (aK 0) ++ kA8 cI cB aN oN')) _ s 0 0 A = QQ
  generalize ([.ref (aH 0), .int p1, .int p2] : List Value).toArray = args at C hQ ⊢
  have hl : lv_has ls 3 [(0, .ref (aH 0)), (1, .int p1), (2, .int p2)] := hl
  unfold fX7_put at hf
  refine lv_aload_n C.1.1 C.1.2.1 dX7_put_0 rfl (lv_at hl 0 rfl) ?_
  refine lv_aload_n C.1.1 C.1.2.1 dX7_put_1 rfl (lv_at hl 0 rfl) ?_
  refine lv_iload_n C.1.1 C.1.2.1 dX7_put_2 rfl (lv_at hl 1 rfl) ?_
  obtain ⟨v1, hg, hf⟩ := zB1_el hf
  refine zCVi (As := [.int p1]) (rest := [.ref (aH 0)]) (wr := (kX1 cI cB aM (aN 0) (aY 0) (aK 0) ++ kA8 cI cB aN oN)) (wn := (kX7 cI cB aH (aR 0) (aM 0) (aE 0) (aC 0) (aP 0) oH ++ kX1 cI cB aM (aN 0) (aY 0) (aK 0) ++ kA8 cI cB aN oN)) C.1 hK hA hP hD hS [0, 1] [2, 3] [2, 3, 0, 1] 0 (mtX7_isNumber l dC dI cI cB aH aR aP aM aE aC H.size oH p1 hg) (zCwV 1 C.1 wlX7_107 wiX7_isNumber ws_X7_isNumber wnX7 wkX7_isNumber rfl rfl (by decide +kernel) ⟨Nat.le_of_ble_eq_true rfl, Nat.le_of_ble_eq_true rfl⟩) rfl rfl (by decide +kernel) rfl rfl rfl rfl hl.1 (Nat.le_of_ble_eq_true rfl) dX7_put_3 ⟨Nat.zero_le _, Nat.zero_le _⟩ rfl (fun H locs hP hD hS => ?_)
  obtain ⟨J14_3, eJ14_3, hf⟩ := zJn_el hf
  have hJ14_3 : ∀ (t2 : Int32), J14_3 t2 = some (ov, oH', oN') → ∀ (H : Heap) (locs : List Loc), va_P (dC, dI) vwCl (kX7 cI cB aH (aR 0) (aM 0) (aE 0) (aC 0) (aP 0) oH ++ kX1 cI cB aM (aN 0) (aY 0) (aK 0) ++ kA8 cI cB aN oN) H → va_D A (kX7 cI cB aH (aR 0) (aM 0) (aE 0) (aC 0) (aP 0) oH ++ kX1 cI cB aM (aN 0) (aY 0) (aK 0) ++ kA8 cI cB aN oN) → va_S A s.heap H locs → ∀ (ls : Array Slot), lv_has ls 3 [(0, .ref (aH 0)), (1, .int p1), (2, .int p2)] → W p l e rX7_put s m args below meth c H locs 0 0 QQ (F0 m 14 ls [.int t2, .ref (aH 0)]) := by
    intro t2 hf H locs hP hD hS ls hl
    rw [eJ14_3] at hf
    obtain ⟨v4, oH_5, hg, hf⟩ := zB2_el hf
    refine zCVi (As := [.int t2]) (rest := []) (wr := (kX1 cI cB aM (aN 0) (aY 0) (aK 0) ++ kA8 cI cB aN oN)) (wn := (kX7 cI cB aH (aR 0) (aM 0) (aE 0) (aC 0) (aP 0) oH_5 ++ kX1 cI cB aM (aN 0) (aY 0) (aK 0) ++ kA8 cI cB aN oN)) C.1 hK hA hP hD hS [0, 1] [2, 3] [2, 3, 0, 1] 0 (mtX7_refused l dC dI cI cB aH aR aP aM aE aC H.size oH t2 hg) (zCwV 1 C.1 wlX7_64 wiX7_refused ws_X7_refused wnX7 wkX7_refused rfl rfl (by decide +kernel) ⟨Nat.le_of_ble_eq_true rfl, Nat.le_of_ble_eq_true rfl⟩) rfl rfl (by decide +kernel) rfl rfl rfl rfl hl.1 (Nat.le_of_ble_eq_true rfl) dX7_put_14 ⟨Nat.zero_le _, Nat.zero_le _⟩ rfl (fun H locs hP hD hS => ?_)
    refine lv_if_eq (tgt := 22) C.1.1 C.1.2.1 dX7_put_17 (by decide) (fun hc => ?_) (fun hc => ?_)
    · replace hf := zIf_t hf hc
      refine lv_aload_n C.1.1 C.1.2.1 dX7_put_22 rfl (lv_at hl 0 rfl) ?_
      refine zGet (.ref (aM 0)) C.1 wuX7 hK hP 0 rfl rfl 1 (by decide) wfX7_19 rfl rfl dX7_put_23 ?_
      refine zGet (.ref (aN 0)) C.1 wuX1 hK hP 2 rfl rfl 0 (by decide) wfX7_110 rfl rfl dX7_put_26 ?_
      refine lv_iload_n C.1.1 C.1.2.1 dX7_put_29 rfl (lv_at hl 1 rfl) ?_
      refine lv_iload_n C.1.1 C.1.2.1 dX7_put_30 rfl (lv_at hl 2 rfl) ?_
      refine lv_aload_n C.1.1 C.1.2.1 dX7_put_31 rfl (lv_at hl 0 rfl) ?_
      obtain ⟨v6, hg, hf⟩ := zB1_el hf
      refine zCVi (As := []) (rest := [.int p2, .int p1, .ref (aN 0)]) (wr := (kX1 cI cB aM (aN 0) (aY 0) (aK 0) ++ kA8 cI cB aN oN)) (wn := (kX7 cI cB aH (aR 0) (aM 0) (aE 0) (aC 0) (aP 0) oH_5 ++ kX1 cI cB aM (aN 0) (aY 0) (aK 0) ++ kA8 cI cB aN oN)) C.1 hK hA hP hD hS [0, 1] [2, 3] [2, 3, 0, 1] 0 (mtX7_mask l dC dI cI cB aH aR aP aM aE aC H.size oH_5 hg) (zCwV 0 C.1 wlX7_68 wiX7_mask ws_X7_mask wnX7 wkX7_mask rfl rfl (by decide +kernel) ⟨Nat.le_of_ble_eq_true rfl, Nat.le_of_ble_eq_true rfl⟩) rfl rfl (by decide +kernel) rfl rfl rfl rfl hl.1 (Nat.le_of_ble_eq_true rfl) dX7_put_32 ⟨Nat.zero_le _, Nat.zero_le _⟩ rfl (fun H locs hP hD hS => ?_)
      refine lv_iand C.1.1 C.1.2.1 dX7_put_35 ?_
      obtain ⟨hib, hf⟩ := zGd_el hf
      obtain ⟨oN_7, eoN_7, hf⟩ := zLet_el hf
      refine zIast (kX7 cI cB aH (aR 0) (aM 0) (aE 0) (aC 0) (aP 0) oH_5 ++ kX1 cI cB aM (aN 0) (aY 0) (aK 0) ++ kA8 cI cB aN oN_7) C.1 hK hP hD hS 3 0 rfl rfl hib dX7_put_36 (by rw [eoN_7]; rfl) (fun H locs hP hD hS => ?_)
      refine lv_iconst (v := 1) C.1.1 C.1.2.1 dX7_put_37 (by decide) ?_
      cases hf
      rw [← hQ]
      exact zRz C (by decide +kernel) hK hP hD hS dX7_put_38
    · replace hf := zIf_f hf hc
      refine lv_iconst (v := 0) C.1.1 C.1.2.1 dX7_put_20 (by decide) ?_
      cases hf
      rw [← hQ]
      exact zRz C (by decide +kernel) hK hP hD hS dX7_put_21
  refine lv_if_eq (tgt := 13) C.1.1 C.1.2.1 dX7_put_6 (by decide) (fun hc => ?_) (fun hc => ?_)
  · replace hf := zIf_t hf hc
    refine lv_iconst (v := 1) C.1.1 C.1.2.1 dX7_put_13 (by decide) ?_
    exact hJ14_3 (1 : Int32) hf H locs hP hD hS ls (lv_sub hl [0, 1, 2] rfl)
  · replace hf := zIf_f hf hc
    refine lv_iconst (v := 0) C.1.1 C.1.2.1 dX7_put_9 (by decide) ?_
    refine lv_goto (tgt := 14) C.1.1 C.1.2.1 dX7_put_10 (by decide) ?_
    exact hJ14_3 (0 : Int32) hf H locs hP hD hS ls (lv_sub hl [0, 1, 2] rfl)
def fX7_get (oN : Ar) (p1 : Int32) : Option (Int32) :=
  zB1 (fX7_isNumber p1) fun v1 =>
  if v1 = 0 then (
    some (-1 : Int32)
  ) else (
    zGd (inb p1 8) <|
    some (oN p1.toNatClampNeg)
  )
abbrev rX7_get : Room := { frames := 1, cells := 0, slots := 0, locals := 21 }
set_option maxHeartbeats 4000000 in
set_option maxRecDepth 100000 in
theorem mtX7_get (l : Launch) (dC : Nat → ClassId) (dI : Nat → Nat → Nat) (cI cB : ClassId) (aH aR aP aM aN aY aK aE aC : Nat → Nat) (sz : Nat) (oH : Rc) (oN : Ar) (p1 : Int32) {ov : Int32} (hf : fX7_get oN p1 = some ov) : zMi l yX7_get (Cond.code yX7_get cX7_get 2 (some .int) :: lw_g) rX7_get (dC, dI) [(cI, .int), (cB, .byte)] [.ref (aH 0), .int p1] sz (kX7 cI cB aH (aR 0) (aM 0) (aE 0) (aC 0) (aP 0) oH ++ kX1 cI cB aM (aN 0) (aY 0) (aK 0) ++ kA8 cI cB aN oN) ov (kX7 cI cB aH (aR 0) (aM 0) (aE 0) (aC 0) (aP 0) oH ++ kX1 cI cB aM (aN 0) (aY 0) (aK 0) ++ kA8 cI cB aN oN) := by
  refine zSt (cc := cX7_get) (maxL := 2) (ret := (some .int)) (own := RX7) (fun A => zQi (dC, dI) [(cI, .int), (cB, .byte)] A ov (kX7 cI cB aH (aR 0) (aM 0) (aE 0) (aC 0) (aP 0) oH ++ kX1 cI cB aM (aN 0) (aY 0) (aK 0) ++ kA8 cI cB aN oN)) (by decide) rfl rfl (Nat.le_of_ble_eq_true rfl) ?_
  intro p e s m below meth c ls A H locs C hK hA hP hD hS hl
  generalize hQ : MQ below (zQi (dC, dI) [(cI, .int), (cB, .byte)] A ov (kX7 cI cB aH (aR 0) (aM 0) (aE 0) (aC 0) (aP 0) oH ++ kX1 cI cB aM (aN 0) (aY 0) (aK 0) ++ kA8 cI cB aN oN)) _ s 0 0 A = QQ
  generalize ([.ref (aH 0), .int p1] : List Value).toArray = args at C hQ ⊢
  have hl : lv_has ls 2 [(0, .ref (aH 0)), (1, .int p1)] := hl
  unfold fX7_get at hf
  refine lv_aload_n C.1.1 C.1.2.1 dX7_get_0 rfl (lv_at hl 0 rfl) ?_
  refine lv_iload_n C.1.1 C.1.2.1 dX7_get_1 rfl (lv_at hl 1 rfl) ?_
  obtain ⟨v1, hg, hf⟩ := zB1_el hf
  refine zCVi (As := [.int p1]) (rest := []) (wr := (kX1 cI cB aM (aN 0) (aY 0) (aK 0) ++ kA8 cI cB aN oN)) (wn := (kX7 cI cB aH (aR 0) (aM 0) (aE 0) (aC 0) (aP 0) oH ++ kX1 cI cB aM (aN 0) (aY 0) (aK 0) ++ kA8 cI cB aN oN)) C.1 hK hA hP hD hS [0, 1] [2, 3] [2, 3, 0, 1] 0 (mtX7_isNumber l dC dI cI cB aH aR aP aM aE aC H.size oH p1 hg) (zCwV 1 C.1 wlX7_107 wiX7_isNumber ws_X7_isNumber wnX7 wkX7_isNumber rfl rfl (by decide +kernel) ⟨Nat.le_of_ble_eq_true rfl, Nat.le_of_ble_eq_true rfl⟩) rfl rfl (by decide +kernel) rfl rfl rfl rfl hl.1 (Nat.le_of_ble_eq_true rfl) dX7_get_2 ⟨Nat.zero_le _, Nat.zero_le _⟩ rfl (fun H locs hP hD hS => ?_)
  refine lv_if_eq (tgt := 20) C.1.1 C.1.2.1 dX7_get_5 (by decide) (fun hc => ?_) (fun hc => ?_)
  · replace hf := zIf_t hf hc
    refine lv_iconst (v := (-1)) C.1.1 C.1.2.1 dX7_get_20 (by decide) ?_
    cases hf
    rw [← hQ]
    exact zRi C hK hP hD hS dX7_get_21
  · replace hf := zIf_f hf hc
    refine lv_aload_n C.1.1 C.1.2.1 dX7_get_8 rfl (lv_at hl 0 rfl) ?_
    refine zGet (.ref (aM 0)) C.1 wuX7 hK hP 0 rfl rfl 1 (by decide) wfX7_19 rfl rfl dX7_get_9 ?_
    refine zGet (.ref (aN 0)) C.1 wuX1 hK hP 2 rfl rfl 0 (by decide) wfX7_110 rfl rfl dX7_get_12 ?_
    refine lv_iload_n C.1.1 C.1.2.1 dX7_get_15 rfl (lv_at hl 1 rfl) ?_
    obtain ⟨hib, hf⟩ := zGd_el hf
    refine va_iald C.1.1 C.1.2.1 hK.1 hP 3 0 rfl rfl hib dX7_get_16 ?_
    refine lv_goto (tgt := 21) C.1.1 C.1.2.1 dX7_get_17 (by decide) ?_
    cases hf
    rw [← hQ]
    exact zRi C hK hP hD hS dX7_get_21
def fX7_isBlock (oP : Rc) (p1 : Int32) : Option (Int32) :=
  if p1 < 0 then (
    some (0 : Int32)
  ) else (
    if (oP 0 0) ≤ p1 then (
      some (0 : Int32)
    ) else (
      some (1 : Int32)
    )
  )
abbrev rX7_isBlock : Room := { frames := 0, cells := 0, slots := 0, locals := 0 }
set_option maxHeartbeats 4000000 in
set_option maxRecDepth 100000 in
theorem mtX7_isBlock (l : Launch) (dC : Nat → ClassId) (dI : Nat → Nat → Nat) (cI cB : ClassId) (aH aR aP aM aE aC : Nat → Nat) (sz : Nat) (oH : Rc) (oP : Rc) (p1 : Int32) {ov : Int32} (hf : fX7_isBlock oP p1 = some ov) : zMi l yX7_isBlock (Cond.code yX7_isBlock cX7_isBlock 2 (some .boolean) :: lw_g) rX7_isBlock (dC, dI) [(cI, .int), (cB, .byte)] [.ref (aH 0), .int p1] sz (kX7 cI cB aH (aR 0) (aM 0) (aE 0) (aC 0) (aP 0) oH ++ kX4 cI cB aP oP) ov (kX7 cI cB aH (aR 0) (aM 0) (aE 0) (aC 0) (aP 0) oH ++ kX4 cI cB aP oP) := by
  refine zSt (cc := cX7_isBlock) (maxL := 2) (ret := (some .boolean)) (own := RX7) (fun A => zQi (dC, dI) [(cI, .int), (cB, .byte)] A ov (kX7 cI cB aH (aR 0) (aM 0) (aE 0) (aC 0) (aP 0) oH ++ kX4 cI cB aP oP)) (by decide) rfl rfl (Nat.le_of_ble_eq_true rfl) ?_
  intro p e s m below meth c ls A H locs C hK hA hP hD hS hl
  generalize hQ : MQ below (zQi (dC, dI) [(cI, .int), (cB, .byte)] A ov (kX7 cI cB aH (aR 0) (aM 0) (aE 0) (aC 0) (aP 0) oH ++ kX4 cI cB aP oP)) _ s 0 0 A = QQ
  generalize ([.ref (aH 0), .int p1] : List Value).toArray = args at C hQ ⊢
  have hl : lv_has ls 2 [(0, .ref (aH 0)), (1, .int p1)] := hl
  unfold fX7_isBlock at hf
  refine lv_iload_n C.1.1 C.1.2.1 dX7_isBlock_0 rfl (lv_at hl 1 rfl) ?_
  refine lv_if_lt (tgt := 19) C.1.1 C.1.2.1 dX7_isBlock_1 (by decide) (fun hc => ?_) (fun hc => ?_)
  · replace hf := zIf_t hf hc
    refine lv_iconst (v := 0) C.1.1 C.1.2.1 dX7_isBlock_19 (by decide) ?_
    cases hf
    rw [← hQ]
    exact zRz C (by decide +kernel) hK hP hD hS dX7_isBlock_20
  · replace hf := zIf_f hf hc
    refine lv_iload_n C.1.1 C.1.2.1 dX7_isBlock_4 rfl (lv_at hl 1 rfl) ?_
    refine lv_aload_n C.1.1 C.1.2.1 dX7_isBlock_5 rfl (lv_at hl 0 rfl) ?_
    refine zGet (.ref (aP 0)) C.1 wuX7 hK hP 0 rfl rfl 6 (by decide) wfX7_48 rfl rfl dX7_isBlock_6 ?_
    refine zGet (.int (oP 0 0)) C.1 wuX4 hK hP 2 rfl rfl 0 (by decide) wfX7_98 rfl rfl dX7_isBlock_9 ?_
    refine lv_icmp_ge (tgt := 19) C.1.1 C.1.2.1 dX7_isBlock_12 (by decide) (fun hc => ?_) (fun hc => ?_)
    · replace hf := zIf_t hf hc
      refine lv_iconst (v := 0) C.1.1 C.1.2.1 dX7_isBlock_19 (by decide) ?_
      cases hf
      rw [← hQ]
      exact zRz C (by decide +kernel) hK hP hD hS dX7_isBlock_20
    · replace hf := zIf_f hf hc
      refine lv_iconst (v := 1) C.1.1 C.1.2.1 dX7_isBlock_15 (by decide) ?_
      refine lv_goto (tgt := 20) C.1.1 C.1.2.1 dX7_isBlock_16 (by decide) ?_
      cases hf
      rw [← hQ]
      exact zRz C (by decide +kernel) hK hP hD hS dX7_isBlock_20
def fX7_block (oP : Rc) (oE : Rc) (p1 : Int32) (p2 : Int32) : Option (Int32) :=
  zB1 (fX7_isBlock oP p1) fun v1 =>
  if v1 = 0 then (
    some (-1 : Int32)
  ) else (
    if p2 = 0 then (
      zGd (inb p1 12) <|
      some (oP 6 p1.toNatClampNeg)
    ) else (
      if p2 = 1 then (
        zB1 (fX4_linesIn oP p1) fun v4 =>
        some v4
      ) else (
        if p2 = 2 then (
          zGd (inb p1 12) <|
          some (oE 0 p1.toNatClampNeg)
        ) else (
          if p2 = 3 then (
            zGd (inb p1 12) <|
            some (oE 1 p1.toNatClampNeg)
          ) else (
            if p2 = 4 then (
              zGd (inb p1 12) <|
              some (oE 2 p1.toNatClampNeg)
            ) else (
              if p2 = 5 then (
                zGd (inb p1 12) <|
                some (oE 3 p1.toNatClampNeg)
              ) else (
                if p2 = 6 then (
                  zGd (inb p1 12) <|
                  some (oE 4 p1.toNatClampNeg)
                ) else (
                  if p2 = 7 then (
                    zGd (inb p1 12) <|
                    some (oE 5 p1.toNatClampNeg)
                  ) else (
                    if p2 = 8 then (
                      zGd (inb p1 12) <|
                      some (oE 6 p1.toNatClampNeg)
                    ) else (
                      some (-1 : Int32)
                    )
                  )
                )
              )
            )
          )
        )
      )
    )
  )
abbrev rX7_block : Room := { frames := 1, cells := 0, slots := 0, locals := 21 }
set_option maxHeartbeats 4000000 in
set_option maxRecDepth 100000 in
theorem mtX7_block (l : Launch) (dC : Nat → ClassId) (dI : Nat → Nat → Nat) (cI cB : ClassId) (aH aR aP aM aE aQ aC : Nat → Nat) (sz : Nat) (oH : Rc) (oP : Rc) (oE : Rc) (p1 : Int32) (p2 : Int32) {ov : Int32} (hf : fX7_block oP oE p1 p2 = some ov) : zMi l yX7_block (Cond.code yX7_block cX7_block 3 (some .int) :: lw_g) rX7_block (dC, dI) [(cI, .int), (cB, .byte)] [.ref (aH 0), .int p1, .int p2] sz (kX7 cI cB aH (aR 0) (aM 0) (aE 0) (aC 0) (aP 0) oH ++ kX4 cI cB aP oP ++ kX2 cI cB aE (aQ 0) oE) ov (kX7 cI cB aH (aR 0) (aM 0) (aE 0) (aC 0) (aP 0) oH ++ kX4 cI cB aP oP ++ kX2 cI cB aE (aQ 0) oE) := by
  refine zSt (cc := cX7_block) (maxL := 3) (ret := (some .int)) (own := RX7) (fun A => zQi (dC, dI) [(cI, .int), (cB, .byte)] A ov (kX7 cI cB aH (aR 0) (aM 0) (aE 0) (aC 0) (aP 0) oH ++ kX4 cI cB aP oP ++ kX2 cI cB aE (aQ 0) oE)) (by decide) rfl rfl (Nat.le_of_ble_eq_true rfl) ?_
  intro p e s m below meth c ls A H locs C hK hA hP hD hS hl
  generalize hQ : MQ below (zQi (dC, dI) [(cI, .int), (cB, .byte)] A ov (kX7 cI cB aH (aR 0) (aM 0) (aE 0) (aC 0) (aP 0) oH ++ kX4 cI cB aP oP ++ kX2 cI cB aE (aQ 0) oE)) _ s 0 0 A = QQ
  generalize ([.ref (aH 0), .int p1, .int p2] : List Value).toArray = args at C hQ ⊢
  have hl : lv_has ls 3 [(0, .ref (aH 0)), (1, .int p1), (2, .int p2)] := hl
  unfold fX7_block at hf
  refine lv_aload_n C.1.1 C.1.2.1 dX7_block_0 rfl (lv_at hl 0 rfl) ?_
  refine lv_iload_n C.1.1 C.1.2.1 dX7_block_1 rfl (lv_at hl 1 rfl) ?_
  obtain ⟨v1, hg, hf⟩ := zB1_el hf
  refine zCVi (As := [.int p1]) (rest := []) (wr := (kX2 cI cB aE (aQ 0) oE)) (wn := (kX7 cI cB aH (aR 0) (aM 0) (aE 0) (aC 0) (aP 0) oH ++ kX4 cI cB aP oP ++ kX2 cI cB aE (aQ 0) oE)) C.1 hK hA hP hD hS [0, 1, 2, 3, 4, 5, 6, 7, 8, 9, 10, 11] [12, 13, 14, 15, 16, 17, 18, 19, 20] [9, 10, 11, 12, 13, 14, 15, 16, 17, 18, 19, 20, 0, 1, 2, 3, 4, 5, 6, 7, 8] 0 (mtX7_isBlock l dC dI cI cB aH aR aP aM aE aC H.size oH oP p1 hg) (zCwV 1 C.1 wlX7_113 wiX7_isBlock ws_X7_isBlock wnX7 wkX7_isBlock rfl rfl (by decide +kernel) ⟨Nat.le_of_ble_eq_true rfl, Nat.le_of_ble_eq_true rfl⟩) rfl rfl (by decide +kernel) rfl rfl rfl rfl hl.1 (Nat.le_of_ble_eq_true rfl) dX7_block_2 ⟨Nat.zero_le _, Nat.zero_le _⟩ rfl (fun H locs hP hD hS => ?_)
  refine lv_if_ne (tgt := 10) C.1.1 C.1.2.1 dX7_block_5 (by decide) (fun hc => ?_) (fun hc => ?_)
  · replace hf := zIf_f hf hc
    refine lv_iload_n C.1.1 C.1.2.1 dX7_block_10 rfl (lv_at hl 2 rfl) ?_
    rcases Classical.em (p2 = 0) with hk2 | hk2
    · replace hf := zIf_t hf hk2
      refine lv_tableIn (off := 49) (tgt := 60) C.1.1 C.1.2.1 dX7_block_11 (by rw [hk2] <;> decide +kernel) (by rw [hk2] <;> decide +kernel) (by rw [hk2] <;> decide +kernel) (by decide) ?_
      refine lv_aload_n C.1.1 C.1.2.1 dX7_block_60 rfl (lv_at hl 0 rfl) ?_
      refine zGet (.ref (aP 0)) C.1 wuX7 hK hP 0 rfl rfl 6 (by decide) wfX7_48 rfl rfl dX7_block_61 ?_
      refine zGet (.ref (aP 3)) C.1 wuX4 hK hP 2 rfl rfl 6 (by decide) wfX7_116 rfl rfl dX7_block_64 ?_
      refine lv_iload_n C.1.1 C.1.2.1 dX7_block_67 rfl (lv_at hl 1 rfl) ?_
      obtain ⟨hib, hf⟩ := zGd_el hf
      refine va_iald C.1.1 C.1.2.1 hK.1 hP 5 0 rfl rfl hib dX7_block_68 ?_
      cases hf
      rw [← hQ]
      exact zRi C hK hP hD hS dX7_block_69
    · replace hf := zIf_f hf hk2
      rcases Classical.em (p2 = 1) with hk3 | hk3
      · replace hf := zIf_t hf hk3
        refine lv_tableIn (off := 59) (tgt := 70) C.1.1 C.1.2.1 dX7_block_11 (by rw [hk3] <;> decide +kernel) (by rw [hk3] <;> decide +kernel) (by rw [hk3] <;> decide +kernel) (by decide) ?_
        refine lv_aload_n C.1.1 C.1.2.1 dX7_block_70 rfl (lv_at hl 0 rfl) ?_
        refine zGet (.ref (aP 0)) C.1 wuX7 hK hP 0 rfl rfl 6 (by decide) wfX7_48 rfl rfl dX7_block_71 ?_
        refine lv_iload_n C.1.1 C.1.2.1 dX7_block_74 rfl (lv_at hl 1 rfl) ?_
        obtain ⟨v4, hg, hf⟩ := zB1_el hf
        refine zCVi (As := [.int p1]) (rest := []) (wr := (kX7 cI cB aH (aR 0) (aM 0) (aE 0) (aC 0) (aP 0) oH ++ kX2 cI cB aE (aQ 0) oE)) (wn := (kX7 cI cB aH (aR 0) (aM 0) (aE 0) (aC 0) (aP 0) oH ++ kX4 cI cB aP oP ++ kX2 cI cB aE (aQ 0) oE)) C.1 hK hA hP hD hS [2, 3, 4, 5, 6, 7, 8, 9, 10, 11] [0, 1, 12, 13, 14, 15, 16, 17, 18, 19, 20] [0, 1, 11, 12, 13, 14, 15, 16, 17, 18, 19, 20, 2, 3, 4, 5, 6, 7, 8, 9, 10] 0 (mtX4_linesIn l dC dI cI cB aP H.size oP p1 hg) (zCwV 1 C.1 wlX7_119 wiX4_linesIn ws_X4_linesIn wnX4 wkX4_linesIn rfl rfl (by decide +kernel) ⟨Nat.le_of_ble_eq_true rfl, Nat.le_of_ble_eq_true rfl⟩) rfl rfl (by decide +kernel) rfl rfl rfl rfl hl.1 (Nat.le_of_ble_eq_true rfl) dX7_block_75 ⟨Nat.zero_le _, Nat.zero_le _⟩ rfl (fun H locs hP hD hS => ?_)
        cases hf
        rw [← hQ]
        exact zRi C hK hP hD hS dX7_block_78
      · replace hf := zIf_f hf hk3
        rcases Classical.em (p2 = 2) with hk5 | hk5
        · replace hf := zIf_t hf hk5
          refine lv_tableIn (off := 68) (tgt := 79) C.1.1 C.1.2.1 dX7_block_11 (by rw [hk5] <;> decide +kernel) (by rw [hk5] <;> decide +kernel) (by rw [hk5] <;> decide +kernel) (by decide) ?_
          refine lv_aload_n C.1.1 C.1.2.1 dX7_block_79 rfl (lv_at hl 0 rfl) ?_
          refine zGet (.ref (aE 0)) C.1 wuX7 hK hP 0 rfl rfl 2 (by decide) wfX7_26 rfl rfl dX7_block_80 ?_
          refine zGet (.ref (aE 1)) C.1 wuX2 hK hP 12 rfl rfl 0 (by decide) wfX7_123 rfl rfl dX7_block_83 ?_
          refine lv_iload_n C.1.1 C.1.2.1 dX7_block_86 rfl (lv_at hl 1 rfl) ?_
          obtain ⟨hib, hf⟩ := zGd_el hf
          refine va_iald C.1.1 C.1.2.1 hK.1 hP 13 0 rfl rfl hib dX7_block_87 ?_
          cases hf
          rw [← hQ]
          exact zRi C hK hP hD hS dX7_block_88
        · replace hf := zIf_f hf hk5
          rcases Classical.em (p2 = 3) with hk6 | hk6
          · replace hf := zIf_t hf hk6
            refine lv_tableIn (off := 78) (tgt := 89) C.1.1 C.1.2.1 dX7_block_11 (by rw [hk6] <;> decide +kernel) (by rw [hk6] <;> decide +kernel) (by rw [hk6] <;> decide +kernel) (by decide) ?_
            refine lv_aload_n C.1.1 C.1.2.1 dX7_block_89 rfl (lv_at hl 0 rfl) ?_
            refine zGet (.ref (aE 0)) C.1 wuX7 hK hP 0 rfl rfl 2 (by decide) wfX7_26 rfl rfl dX7_block_90 ?_
            refine zGet (.ref (aE 2)) C.1 wuX2 hK hP 12 rfl rfl 1 (by decide) wfX7_126 rfl rfl dX7_block_93 ?_
            refine lv_iload_n C.1.1 C.1.2.1 dX7_block_96 rfl (lv_at hl 1 rfl) ?_
            obtain ⟨hib, hf⟩ := zGd_el hf
            refine va_iald C.1.1 C.1.2.1 hK.1 hP 14 0 rfl rfl hib dX7_block_97 ?_
            cases hf
            rw [← hQ]
            exact zRi C hK hP hD hS dX7_block_98
          · replace hf := zIf_f hf hk6
            rcases Classical.em (p2 = 4) with hk7 | hk7
            · replace hf := zIf_t hf hk7
              refine lv_tableIn (off := 88) (tgt := 99) C.1.1 C.1.2.1 dX7_block_11 (by rw [hk7] <;> decide +kernel) (by rw [hk7] <;> decide +kernel) (by rw [hk7] <;> decide +kernel) (by decide) ?_
              refine lv_aload_n C.1.1 C.1.2.1 dX7_block_99 rfl (lv_at hl 0 rfl) ?_
              refine zGet (.ref (aE 0)) C.1 wuX7 hK hP 0 rfl rfl 2 (by decide) wfX7_26 rfl rfl dX7_block_100 ?_
              refine zGet (.ref (aE 3)) C.1 wuX2 hK hP 12 rfl rfl 2 (by decide) wfX7_129 rfl rfl dX7_block_103 ?_
              refine lv_iload_n C.1.1 C.1.2.1 dX7_block_106 rfl (lv_at hl 1 rfl) ?_
              obtain ⟨hib, hf⟩ := zGd_el hf
              refine va_iald C.1.1 C.1.2.1 hK.1 hP 15 0 rfl rfl hib dX7_block_107 ?_
              cases hf
              rw [← hQ]
              exact zRi C hK hP hD hS dX7_block_108
            · replace hf := zIf_f hf hk7
              rcases Classical.em (p2 = 5) with hk8 | hk8
              · replace hf := zIf_t hf hk8
                refine lv_tableIn (off := 98) (tgt := 109) C.1.1 C.1.2.1 dX7_block_11 (by rw [hk8] <;> decide +kernel) (by rw [hk8] <;> decide +kernel) (by rw [hk8] <;> decide +kernel) (by decide) ?_
                refine lv_aload_n C.1.1 C.1.2.1 dX7_block_109 rfl (lv_at hl 0 rfl) ?_
                refine zGet (.ref (aE 0)) C.1 wuX7 hK hP 0 rfl rfl 2 (by decide) wfX7_26 rfl rfl dX7_block_110 ?_
                refine zGet (.ref (aE 4)) C.1 wuX2 hK hP 12 rfl rfl 3 (by decide) wfX7_132 rfl rfl dX7_block_113 ?_
                refine lv_iload_n C.1.1 C.1.2.1 dX7_block_116 rfl (lv_at hl 1 rfl) ?_
                obtain ⟨hib, hf⟩ := zGd_el hf
                refine va_iald C.1.1 C.1.2.1 hK.1 hP 16 0 rfl rfl hib dX7_block_117 ?_
                cases hf
                rw [← hQ]
                exact zRi C hK hP hD hS dX7_block_118
              · replace hf := zIf_f hf hk8
                rcases Classical.em (p2 = 6) with hk9 | hk9
                · replace hf := zIf_t hf hk9
                  refine lv_tableIn (off := 108) (tgt := 119) C.1.1 C.1.2.1 dX7_block_11 (by rw [hk9] <;> decide +kernel) (by rw [hk9] <;> decide +kernel) (by rw [hk9] <;> decide +kernel) (by decide) ?_
                  refine lv_aload_n C.1.1 C.1.2.1 dX7_block_119 rfl (lv_at hl 0 rfl) ?_
                  refine zGet (.ref (aE 0)) C.1 wuX7 hK hP 0 rfl rfl 2 (by decide) wfX7_26 rfl rfl dX7_block_120 ?_
                  refine zGet (.ref (aE 5)) C.1 wuX2 hK hP 12 rfl rfl 4 (by decide) wfX7_135 rfl rfl dX7_block_123 ?_
                  refine lv_iload_n C.1.1 C.1.2.1 dX7_block_126 rfl (lv_at hl 1 rfl) ?_
                  obtain ⟨hib, hf⟩ := zGd_el hf
                  refine va_iald C.1.1 C.1.2.1 hK.1 hP 17 0 rfl rfl hib dX7_block_127 ?_
                  cases hf
                  rw [← hQ]
                  exact zRi C hK hP hD hS dX7_block_128
                · replace hf := zIf_f hf hk9
                  rcases Classical.em (p2 = 7) with hk10 | hk10
                  · replace hf := zIf_t hf hk10
                    refine lv_tableIn (off := 118) (tgt := 129) C.1.1 C.1.2.1 dX7_block_11 (by rw [hk10] <;> decide +kernel) (by rw [hk10] <;> decide +kernel) (by rw [hk10] <;> decide +kernel) (by decide) ?_
                    refine lv_aload_n C.1.1 C.1.2.1 dX7_block_129 rfl (lv_at hl 0 rfl) ?_
                    refine zGet (.ref (aE 0)) C.1 wuX7 hK hP 0 rfl rfl 2 (by decide) wfX7_26 rfl rfl dX7_block_130 ?_
                    refine zGet (.ref (aE 6)) C.1 wuX2 hK hP 12 rfl rfl 5 (by decide) wfX7_138 rfl rfl dX7_block_133 ?_
                    refine lv_iload_n C.1.1 C.1.2.1 dX7_block_136 rfl (lv_at hl 1 rfl) ?_
                    obtain ⟨hib, hf⟩ := zGd_el hf
                    refine va_iald C.1.1 C.1.2.1 hK.1 hP 18 0 rfl rfl hib dX7_block_137 ?_
                    cases hf
                    rw [← hQ]
                    exact zRi C hK hP hD hS dX7_block_138
                  · replace hf := zIf_f hf hk10
                    rcases Classical.em (p2 = 8) with hk11 | hk11
                    · replace hf := zIf_t hf hk11
                      refine lv_tableIn (off := 128) (tgt := 139) C.1.1 C.1.2.1 dX7_block_11 (by rw [hk11] <;> decide +kernel) (by rw [hk11] <;> decide +kernel) (by rw [hk11] <;> decide +kernel) (by decide) ?_
                      refine lv_aload_n C.1.1 C.1.2.1 dX7_block_139 rfl (lv_at hl 0 rfl) ?_
                      refine zGet (.ref (aE 0)) C.1 wuX7 hK hP 0 rfl rfl 2 (by decide) wfX7_26 rfl rfl dX7_block_140 ?_
                      refine zGet (.ref (aE 7)) C.1 wuX2 hK hP 12 rfl rfl 6 (by decide) wfX7_141 rfl rfl dX7_block_143 ?_
                      refine lv_iload_n C.1.1 C.1.2.1 dX7_block_146 rfl (lv_at hl 1 rfl) ?_
                      obtain ⟨hib, hf⟩ := zGd_el hf
                      refine va_iald C.1.1 C.1.2.1 hK.1 hP 19 0 rfl rfl hib dX7_block_147 ?_
                      cases hf
                      rw [← hQ]
                      exact zRi C hK hP hD hS dX7_block_148
                    · replace hf := zIf_f hf hk11
                      have nhk2 := lv_neT hk2 (a := 0) (by decide)
                      have nhk3 := lv_neT hk3 (a := 1) (by decide)
                      have nhk5 := lv_neT hk5 (a := 2) (by decide)
                      have nhk6 := lv_neT hk6 (a := 3) (by decide)
                      have nhk7 := lv_neT hk7 (a := 4) (by decide)
                      have nhk8 := lv_neT hk8 (a := 5) (by decide)
                      have nhk9 := lv_neT hk9 (a := 6) (by decide)
                      have nhk10 := lv_neT hk10 (a := 7) (by decide)
                      have nhk11 := lv_neT hk11 (a := 8) (by decide)
                      refine lv_tableOut (tgt := 149) C.1.1 C.1.2.1 dX7_block_11 (by omega) (by decide) ?_
                      refine lv_iconst (v := (-1)) C.1.1 C.1.2.1 dX7_block_149 (by decide) ?_
                      cases hf
                      rw [← hQ]
                      exact zRi C hK hP hD hS dX7_block_150
  · replace hf := zIf_t hf hc
    refine lv_iconst (v := (-1)) C.1.1 C.1.2.1 dX7_block_8 (by decide) ?_
    cases hf
    rw [← hQ]
    exact zRi C hK hP hD hS dX7_block_9
def fX7_hasProgram (oP : Rc) : Option (Int32) :=
  if (oP 0 0) ≤ 0 then (
    some (0 : Int32)
  ) else (
    some (1 : Int32)
  )
abbrev rX7_hasProgram : Room := { frames := 0, cells := 0, slots := 0, locals := 0 }
set_option maxHeartbeats 4000000 in
set_option maxRecDepth 100000 in
theorem mtX7_hasProgram (l : Launch) (dC : Nat → ClassId) (dI : Nat → Nat → Nat) (cI cB : ClassId) (aH aR aP aM aE aC : Nat → Nat) (sz : Nat) (oH : Rc) (oP : Rc) {ov : Int32} (hf : fX7_hasProgram oP = some ov) : zMi l yX7_hasProgram (Cond.code yX7_hasProgram cX7_hasProgram 1 (some .boolean) :: lw_g) rX7_hasProgram (dC, dI) [(cI, .int), (cB, .byte)] [.ref (aH 0)] sz (kX7 cI cB aH (aR 0) (aM 0) (aE 0) (aC 0) (aP 0) oH ++ kX4 cI cB aP oP) ov (kX7 cI cB aH (aR 0) (aM 0) (aE 0) (aC 0) (aP 0) oH ++ kX4 cI cB aP oP) := by
  refine zSt (cc := cX7_hasProgram) (maxL := 1) (ret := (some .boolean)) (own := RX7) (fun A => zQi (dC, dI) [(cI, .int), (cB, .byte)] A ov (kX7 cI cB aH (aR 0) (aM 0) (aE 0) (aC 0) (aP 0) oH ++ kX4 cI cB aP oP)) (by decide) rfl rfl (Nat.le_of_ble_eq_true rfl) ?_
  intro p e s m below meth c ls A H locs C hK hA hP hD hS hl
  generalize hQ : MQ below (zQi (dC, dI) [(cI, .int), (cB, .byte)] A ov (kX7 cI cB aH (aR 0) (aM 0) (aE 0) (aC 0) (aP 0) oH ++ kX4 cI cB aP oP)) _ s 0 0 A = QQ
  generalize ([.ref (aH 0)] : List Value).toArray = args at C hQ ⊢
  have hl : lv_has ls 1 [(0, .ref (aH 0))] := hl
  unfold fX7_hasProgram at hf
  refine lv_aload_n C.1.1 C.1.2.1 dX7_hasProgram_0 rfl (lv_at hl 0 rfl) ?_
  refine zGet (.ref (aP 0)) C.1 wuX7 hK hP 0 rfl rfl 6 (by decide) wfX7_48 rfl rfl dX7_hasProgram_1 ?_
  refine zGet (.int (oP 0 0)) C.1 wuX4 hK hP 2 rfl rfl 0 (by decide) wfX7_98 rfl rfl dX7_hasProgram_4 ?_
  refine lv_if_le (tgt := 14) C.1.1 C.1.2.1 dX7_hasProgram_7 (by decide) (fun hc => ?_) (fun hc => ?_)
  · replace hf := zIf_t hf hc
    refine lv_iconst (v := 0) C.1.1 C.1.2.1 dX7_hasProgram_14 (by decide) ?_
    cases hf
    rw [← hQ]
    exact zRz C (by decide +kernel) hK hP hD hS dX7_hasProgram_15
  · replace hf := zIf_f hf hc
    refine lv_iconst (v := 1) C.1.1 C.1.2.1 dX7_hasProgram_10 (by decide) ?_
    refine lv_goto (tgt := 15) C.1.1 C.1.2.1 dX7_hasProgram_11 (by decide) ?_
    cases hf
    rw [← hQ]
    exact zRz C (by decide +kernel) hK hP hD hS dX7_hasProgram_15
def fX7_troubleOfCut (oP : Rc) (p1 : Int32) : Option (Int32) :=
  zB1 (fX7_hasProgram oP) fun v1 =>
  if v1 = 0 then (
    some (4 : Int32)
  ) else (
    if p1 < 0 then (
      some (2 : Int32)
    ) else (
      if ((1 : Int32) <<< ((oP 0 0) &&& 31)) ≤ p1 then (
        some (2 : Int32)
      ) else (
        some (0 : Int32)
      )
    )
  )
abbrev rX7_troubleOfCut : Room := { frames := 1, cells := 0, slots := 0, locals := 20 }
set_option maxHeartbeats 4000000 in
set_option maxRecDepth 100000 in
theorem mtX7_troubleOfCut (l : Launch) (dC : Nat → ClassId) (dI : Nat → Nat → Nat) (cI cB : ClassId) (aH aR aP aM aE aC : Nat → Nat) (sz : Nat) (oH : Rc) (oP : Rc) (p1 : Int32) {ov : Int32} (hf : fX7_troubleOfCut oP p1 = some ov) : zMi l yX7_troubleOfCut (Cond.code yX7_troubleOfCut cX7_troubleOfCut 2 (some .int) :: lw_g) rX7_troubleOfCut (dC, dI) [(cI, .int), (cB, .byte)] [.ref (aH 0), .int p1] sz (kX7 cI cB aH (aR 0) (aM 0) (aE 0) (aC 0) (aP 0) oH ++ kX4 cI cB aP oP) ov (kX7 cI cB aH (aR 0) (aM 0) (aE 0) (aC 0) (aP 0) oH ++ kX4 cI cB aP oP) := by
  refine zSt (cc := cX7_troubleOfCut) (maxL := 2) (ret := (some .int)) (own := RX7) (fun A => zQi (dC, dI) [(cI, .int), (cB, .byte)] A ov (kX7 cI cB aH (aR 0) (aM 0) (aE 0) (aC 0) (aP 0) oH ++ kX4 cI cB aP oP)) (by decide) rfl rfl (Nat.le_of_ble_eq_true rfl) ?_
  intro p e s m below meth c ls A H locs C hK hA hP hD hS hl
  generalize hQ : MQ below (zQi (dC, dI) [(cI, .int), (cB, .byte)] A ov (kX7 cI cB aH (aR 0) (aM 0) (aE 0) (aC 0) (aP 0) oH ++ kX4 cI cB aP oP)) _ s 0 0 A = QQ
  generalize ([.ref (aH 0), .int p1] : List Value).toArray = args at C hQ ⊢
  have hl : lv_has ls 2 [(0, .ref (aH 0)), (1, .int p1)] := hl
  unfold fX7_troubleOfCut at hf
  refine lv_aload_n C.1.1 C.1.2.1 dX7_troubleOfCut_0 rfl (lv_at hl 0 rfl) ?_
  obtain ⟨v1, hg, hf⟩ := zB1_el hf
  refine zCVi (As := []) (rest := []) (wr := ([] : va_W)) (wn := (kX7 cI cB aH (aR 0) (aM 0) (aE 0) (aC 0) (aP 0) oH ++ kX4 cI cB aP oP)) C.1 hK hA hP hD hS [0, 1, 2, 3, 4, 5, 6, 7, 8, 9, 10, 11] [] [0, 1, 2, 3, 4, 5, 6, 7, 8, 9, 10, 11] 0 (mtX7_hasProgram l dC dI cI cB aH aR aP aM aE aC H.size oH oP hg) (zCwV 0 C.1 wlX7_184 wiX7_hasProgram ws_X7_hasProgram wnX7 wkX7_hasProgram rfl rfl (by decide +kernel) ⟨Nat.le_of_ble_eq_true rfl, Nat.le_of_ble_eq_true rfl⟩) rfl rfl (by decide +kernel) rfl rfl rfl rfl hl.1 (Nat.le_of_ble_eq_true rfl) dX7_troubleOfCut_1 ⟨Nat.zero_le _, Nat.zero_le _⟩ rfl (fun H locs hP hD hS => ?_)
  refine lv_if_ne (tgt := 9) C.1.1 C.1.2.1 dX7_troubleOfCut_4 (by decide) (fun hc => ?_) (fun hc => ?_)
  · replace hf := zIf_f hf hc
    refine lv_iload_n C.1.1 C.1.2.1 dX7_troubleOfCut_9 rfl (lv_at hl 1 rfl) ?_
    refine lv_if_lt (tgt := 30) C.1.1 C.1.2.1 dX7_troubleOfCut_10 (by decide) (fun hc => ?_) (fun hc => ?_)
    · replace hf := zIf_t hf hc
      refine lv_iconst (v := 2) C.1.1 C.1.2.1 dX7_troubleOfCut_30 (by decide) ?_
      cases hf
      rw [← hQ]
      exact zRi C hK hP hD hS dX7_troubleOfCut_31
    · replace hf := zIf_f hf hc
      refine lv_iload_n C.1.1 C.1.2.1 dX7_troubleOfCut_13 rfl (lv_at hl 1 rfl) ?_
      refine lv_iconst (v := 1) C.1.1 C.1.2.1 dX7_troubleOfCut_14 (by decide) ?_
      refine lv_aload_n C.1.1 C.1.2.1 dX7_troubleOfCut_15 rfl (lv_at hl 0 rfl) ?_
      refine zGet (.ref (aP 0)) C.1 wuX7 hK hP 0 rfl rfl 6 (by decide) wfX7_48 rfl rfl dX7_troubleOfCut_16 ?_
      refine zGet (.int (oP 0 0)) C.1 wuX4 hK hP 2 rfl rfl 0 (by decide) wfX7_98 rfl rfl dX7_troubleOfCut_19 ?_
      refine lv_ishl C.1.1 C.1.2.1 dX7_troubleOfCut_22 ?_
      refine lv_icmp_ge (tgt := 30) C.1.1 C.1.2.1 dX7_troubleOfCut_23 (by decide) (fun hc => ?_) (fun hc => ?_)
      · replace hf := zIf_t hf hc
        refine lv_iconst (v := 2) C.1.1 C.1.2.1 dX7_troubleOfCut_30 (by decide) ?_
        cases hf
        rw [← hQ]
        exact zRi C hK hP hD hS dX7_troubleOfCut_31
      · replace hf := zIf_f hf hc
        refine lv_iconst (v := 0) C.1.1 C.1.2.1 dX7_troubleOfCut_26 (by decide) ?_
        refine lv_goto (tgt := 31) C.1.1 C.1.2.1 dX7_troubleOfCut_27 (by decide) ?_
        cases hf
        rw [← hQ]
        exact zRi C hK hP hD hS dX7_troubleOfCut_31
  · replace hf := zIf_t hf hc
    refine lv_iconst (v := 4) C.1.1 C.1.2.1 dX7_troubleOfCut_7 (by decide) ?_
    cases hf
    rw [← hQ]
    exact zRi C hK hP hD hS dX7_troubleOfCut_8
def fX7_ticksOf (NN : Nat) (oH : Rc) (oP : Rc) (oE : Rc) (oC : Rc) (p1 : Int32) : Option (Int32 × Rc) :=
  zB1 (fX0_follow NN oE oC (oP 0 0) p1) fun oC_1 =>
  some (((oC_1 1 0) + ((oH 9 0) * (oC_1 3 0))), oC_1)
abbrev rX7_ticksOf : Room := { frames := 3, cells := 0, slots := 0, locals := 78 }
set_option maxHeartbeats 4000000 in
set_option maxRecDepth 100000 in
theorem mtX7_ticksOf (l : Launch) (dC : Nat → ClassId) (dI : Nat → Nat → Nat) (cI cB : ClassId) (aH aR aP aM aE aQ aC : Nat → Nat) (sz : Nat) (NN : Nat) (oH : Rc) (oP : Rc) (oE : Rc) (oC : Rc) (p1 : Int32) {ov : Int32} {oC' : Rc} (hf : fX7_ticksOf NN oH oP oE oC p1 = some (ov, oC')) : zMi l yX7_ticksOf (Cond.code yX7_ticksOf cX7_ticksOf 2 (some .int) :: lw_g) rX7_ticksOf (dC, dI) [(cI, .int), (cB, .byte)] [.ref (aH 0), .int p1] sz (kX7 cI cB aH (aR 0) (aM 0) (aE 0) (aC 0) (aP 0) oH ++ kX4 cI cB aP oP ++ kX2 cI cB aE (aQ 0) oE ++ kX0 cI cB aC oC) ov (kX7 cI cB aH (aR 0) (aM 0) (aE 0) (aC 0) (aP 0) oH ++ kX4 cI cB aP oP ++ kX2 cI cB aE (aQ 0) oE ++ kX0 cI cB aC oC') := by
  refine zSt (cc := cX7_ticksOf) (maxL := 2) (ret := (some .int)) (own := RX7) (fun A => zQi (dC, dI) [(cI, .int), (cB, .byte)] A ov (kX7 cI cB aH (aR 0) (aM 0) (aE 0) (aC 0) (aP 0) oH ++ kX4 cI cB aP oP ++ kX2 cI cB aE (aQ 0) oE ++ kX0 cI cB aC oC')) (by decide) rfl rfl (Nat.le_of_ble_eq_true rfl) ?_
  intro p e s m below meth c ls A H locs C hK hA hP hD hS hl
  generalize hQ : MQ below (zQi (dC, dI) [(cI, .int), (cB, .byte)] A ov (kX7 cI cB aH (aR 0) (aM 0) (aE 0) (aC 0) (aP 0) oH ++ kX4 cI cB aP oP ++ kX2 cI cB aE (aQ 0) oE ++ kX0 cI cB aC oC')) _ s 0 0 A = QQ
  generalize ([.ref (aH 0), .int p1] : List Value).toArray = args at C hQ ⊢
  have hl : lv_has ls 2 [(0, .ref (aH 0)), (1, .int p1)] := hl
  unfold fX7_ticksOf at hf
  refine lv_aload_n C.1.1 C.1.2.1 dX7_ticksOf_0 rfl (lv_at hl 0 rfl) ?_
  refine zGet (.ref (aC 0)) C.1 wuX7 hK hP 0 rfl rfl 3 (by decide) wfX7_33 rfl rfl dX7_ticksOf_1 ?_
  refine lv_aload_n C.1.1 C.1.2.1 dX7_ticksOf_4 rfl (lv_at hl 0 rfl) ?_
  refine zGet (.ref (aE 0)) C.1 wuX7 hK hP 0 rfl rfl 2 (by decide) wfX7_26 rfl rfl dX7_ticksOf_5 ?_
  refine lv_aload_n C.1.1 C.1.2.1 dX7_ticksOf_8 rfl (lv_at hl 0 rfl) ?_
  refine zGet (.ref (aP 0)) C.1 wuX7 hK hP 0 rfl rfl 6 (by decide) wfX7_48 rfl rfl dX7_ticksOf_9 ?_
  refine zGet (.int (oP 0 0)) C.1 wuX4 hK hP 2 rfl rfl 0 (by decide) wfX7_98 rfl rfl dX7_ticksOf_12 ?_
  refine lv_iload_n C.1.1 C.1.2.1 dX7_ticksOf_15 rfl (lv_at hl 1 rfl) ?_
  obtain ⟨oC_1, hg, hf⟩ := zB1_el hf
  refine zCVv (As := [.ref (aE 0), .int (oP 0 0), .int p1]) (rest := []) (wr := (kX7 cI cB aH (aR 0) (aM 0) (aE 0) (aC 0) (aP 0) oH ++ kX4 cI cB aP oP)) (wn := (kX7 cI cB aH (aR 0) (aM 0) (aE 0) (aC 0) (aP 0) oH ++ kX4 cI cB aP oP ++ kX2 cI cB aE (aQ 0) oE ++ kX0 cI cB aC oC_1)) C.1 hK hA hP hD hS [12, 13, 14, 15, 16, 17, 18, 19, 20, 21, 22, 23, 24, 25, 26] [0, 1, 2, 3, 4, 5, 6, 7, 8, 9, 10, 11] [0, 1, 2, 3, 4, 5, 6, 7, 8, 9, 10, 11, 12, 13, 14, 15, 16, 17, 18, 19, 20, 21, 22, 23, 24, 25, 26] 9 (mtX0_follow l dC dI cI cB aE aQ aC H.size NN oE oC (oP 0 0) p1 hg) (zCwV 3 C.1 wlX7_150 wiX0_follow ws_X0_follow wnX0 wkX0_follow rfl rfl (by decide +kernel) ⟨Nat.le_of_ble_eq_true rfl, Nat.le_of_ble_eq_true rfl⟩) rfl rfl (by decide +kernel) rfl rfl rfl rfl hl.1 (Nat.le_of_ble_eq_true rfl) dX7_ticksOf_16 ⟨Nat.zero_le _, Nat.zero_le _⟩ rfl (fun H locs hP hD hS => ?_)
  refine lv_aload_n C.1.1 C.1.2.1 dX7_ticksOf_19 rfl (lv_at hl 0 rfl) ?_
  refine zGet (.ref (aC 0)) C.1 wuX7 hK hP 0 rfl rfl 3 (by decide) wfX7_33 rfl rfl dX7_ticksOf_20 ?_
  refine zGet (.int (oC_1 1 0)) C.1 wuX0 hK hP 21 rfl rfl 1 (by decide) wfX7_225 rfl rfl dX7_ticksOf_23 ?_
  refine lv_aload_n C.1.1 C.1.2.1 dX7_ticksOf_26 rfl (lv_at hl 0 rfl) ?_
  refine zGet (.int (oH 9 0)) C.1 wuX7 hK hP 0 rfl rfl 9 (by decide) wfX7_58 rfl rfl dX7_ticksOf_27 ?_
  refine lv_aload_n C.1.1 C.1.2.1 dX7_ticksOf_30 rfl (lv_at hl 0 rfl) ?_
  refine zGet (.ref (aC 0)) C.1 wuX7 hK hP 0 rfl rfl 3 (by decide) wfX7_33 rfl rfl dX7_ticksOf_31 ?_
  refine zGet (.int (oC_1 3 0)) C.1 wuX0 hK hP 21 rfl rfl 3 (by decide) wfX7_156 rfl rfl dX7_ticksOf_34 ?_
  refine lv_imul C.1.1 C.1.2.1 dX7_ticksOf_37 ?_
  refine lv_iadd C.1.1 C.1.2.1 dX7_ticksOf_38 ?_
  cases hf
  rw [← hQ]
  exact zRi C hK hP hD hS dX7_ticksOf_39
def fX7_ticks (NN : Nat) (oH : Rc) (oP : Rc) (oE : Rc) (oC : Rc) (p1 : Int32) : Option (Int32 × Rc × Rc) :=
  zB1 (fX7_troubleOfCut oP p1) fun v1 =>
  zB2 (fX7_refused oH v1) fun v2 oH_3 =>
  if v2 = 0 then (
    zB2 (fX7_ticksOf NN oH_3 oP oE oC p1) fun v4 oC_5 =>
    some (v4, oH_3, oC_5)
  ) else (
    some ((-1 : Int32), oH_3, oC)
  )
abbrev rX7_ticks : Room := { frames := 4, cells := 0, slots := 0, locals := 99 }
set_option maxHeartbeats 4000000 in
set_option maxRecDepth 100000 in
theorem mtX7_ticks (l : Launch) (dC : Nat → ClassId) (dI : Nat → Nat → Nat) (cI cB : ClassId) (aH aR aP aM aE aQ aC : Nat → Nat) (sz : Nat) (NN : Nat) (oH : Rc) (oP : Rc) (oE : Rc) (oC : Rc) (p1 : Int32) {ov : Int32} {oH' : Rc} {oC' : Rc} (hf : fX7_ticks NN oH oP oE oC p1 = some (ov, oH', oC')) : zMi l yX7_ticks (Cond.code yX7_ticks cX7_ticks 2 (some .int) :: lw_g) rX7_ticks (dC, dI) [(cI, .int), (cB, .byte)] [.ref (aH 0), .int p1] sz (kX7 cI cB aH (aR 0) (aM 0) (aE 0) (aC 0) (aP 0) oH ++ kX4 cI cB aP oP ++ kX2 cI cB aE (aQ 0) oE ++ kX0 cI cB aC oC) ov (kX7 cI cB aH (aR 0) (aM 0) (aE 0) (aC 0) (aP 0) oH' ++ kX4 cI cB aP oP ++ kX2 cI cB aE (aQ 0) oE ++ kX0 cI cB aC oC') := by
  refine zSt (cc := cX7_ticks) (maxL := 2) (ret := (some .int)) (own := RX7) (fun A => zQi (dC, dI) [(cI, .int), (cB, .byte)] A ov (kX7 cI cB aH (aR 0) (aM 0) (aE 0) (aC 0) (aP 0) oH' ++ kX4 cI cB aP oP ++ kX2 cI cB aE (aQ 0) oE ++ kX0 cI cB aC oC')) (by decide) rfl rfl (Nat.le_of_ble_eq_true rfl) ?_
  intro p e s m below meth c ls A H locs C hK hA hP hD hS hl
  generalize hQ : MQ below (zQi (dC, dI) [(cI, .int), (cB, .byte)] A ov (kX7 cI cB aH (aR 0) (aM 0) (aE 0) (aC 0) (aP 0) oH' ++ kX4 cI cB aP oP ++ kX2 cI cB aE (aQ 0) oE ++ kX0 cI cB aC oC')) _ s 0 0 A = QQ
  generalize ([.ref (aH 0), .int p1] : List Value).toArray = args at C hQ ⊢
  have hl : lv_has ls 2 [(0, .ref (aH 0)), (1, .int p1)] := hl
  unfold fX7_ticks at hf
  refine lv_aload_n C.1.1 C.1.2.1 dX7_ticks_0 rfl (lv_at hl 0 rfl) ?_
  refine lv_aload_n C.1.1 C.1.2.1 dX7_ticks_1 rfl (lv_at hl 0 rfl) ?_
  refine lv_iload_n C.1.1 C.1.2.1 dX7_ticks_2 rfl (lv_at hl 1 rfl) ?_
  obtain ⟨v1, hg, hf⟩ := zB1_el hf
  refine zCVi (As := [.int p1]) (rest := [.ref (aH 0)]) (wr := (kX2 cI cB aE (aQ 0) oE ++ kX0 cI cB aC oC)) (wn := (kX7 cI cB aH (aR 0) (aM 0) (aE 0) (aC 0) (aP 0) oH ++ kX4 cI cB aP oP ++ kX2 cI cB aE (aQ 0) oE ++ kX0 cI cB aC oC)) C.1 hK hA hP hD hS [0, 1, 2, 3, 4, 5, 6, 7, 8, 9, 10, 11] [12, 13, 14, 15, 16, 17, 18, 19, 20, 21, 22, 23, 24, 25, 26] [15, 16, 17, 18, 19, 20, 21, 22, 23, 24, 25, 26, 0, 1, 2, 3, 4, 5, 6, 7, 8, 9, 10, 11, 12, 13, 14] 0 (mtX7_troubleOfCut l dC dI cI cB aH aR aP aM aE aC H.size oH oP p1 hg) (zCwV 1 C.1 wlX7_144 wiX7_troubleOfCut ws_X7_troubleOfCut wnX7 wkX7_troubleOfCut rfl rfl (by decide +kernel) ⟨Nat.le_of_ble_eq_true rfl, Nat.le_of_ble_eq_true rfl⟩) rfl rfl (by decide +kernel) rfl rfl rfl rfl hl.1 (Nat.le_of_ble_eq_true rfl) dX7_ticks_3 ⟨Nat.zero_le _, Nat.zero_le _⟩ rfl (fun H locs hP hD hS => ?_)
  obtain ⟨v2, oH_3, hg, hf⟩ := zB2_el hf
  refine zCVi (As := [.int v1]) (rest := []) (wr := (kX4 cI cB aP oP ++ kX2 cI cB aE (aQ 0) oE ++ kX0 cI cB aC oC)) (wn := (kX7 cI cB aH (aR 0) (aM 0) (aE 0) (aC 0) (aP 0) oH_3 ++ kX4 cI cB aP oP ++ kX2 cI cB aE (aQ 0) oE ++ kX0 cI cB aC oC)) C.1 hK hA hP hD hS [0, 1] [2, 3, 4, 5, 6, 7, 8, 9, 10, 11, 12, 13, 14, 15, 16, 17, 18, 19, 20, 21, 22, 23, 24, 25, 26] [25, 26, 0, 1, 2, 3, 4, 5, 6, 7, 8, 9, 10, 11, 12, 13, 14, 15, 16, 17, 18, 19, 20, 21, 22, 23, 24] 0 (mtX7_refused l dC dI cI cB aH aR aP aM aE aC H.size oH v1 hg) (zCwV 1 C.1 wlX7_64 wiX7_refused ws_X7_refused wnX7 wkX7_refused rfl rfl (by decide +kernel) ⟨Nat.le_of_ble_eq_true rfl, Nat.le_of_ble_eq_true rfl⟩) rfl rfl (by decide +kernel) rfl rfl rfl rfl hl.1 (Nat.le_of_ble_eq_true rfl) dX7_ticks_6 ⟨Nat.zero_le _, Nat.zero_le _⟩ rfl (fun H locs hP hD hS => ?_)
  refine lv_if_eq (tgt := 14) C.1.1 C.1.2.1 dX7_ticks_9 (by decide) (fun hc => ?_) (fun hc => ?_)
  · replace hf := zIf_t hf hc
    refine lv_aload_n C.1.1 C.1.2.1 dX7_ticks_14 rfl (lv_at hl 0 rfl) ?_
    refine lv_iload_n C.1.1 C.1.2.1 dX7_ticks_15 rfl (lv_at hl 1 rfl) ?_
    obtain ⟨v4, oC_5, hg, hf⟩ := zB2_el hf
    refine zCVi (As := [.int p1]) (rest := []) (wr := ([] : va_W)) (wn := (kX7 cI cB aH (aR 0) (aM 0) (aE 0) (aC 0) (aP 0) oH_3 ++ kX4 cI cB aP oP ++ kX2 cI cB aE (aQ 0) oE ++ kX0 cI cB aC oC_5)) C.1 hK hA hP hD hS [0, 1, 2, 3, 4, 5, 6, 7, 8, 9, 10, 11, 12, 13, 14, 15, 16, 17, 18, 19, 20, 21, 22, 23, 24, 25, 26] [] [0, 1, 2, 3, 4, 5, 6, 7, 8, 9, 10, 11, 12, 13, 14, 15, 16, 17, 18, 19, 20, 21, 22, 23, 24, 25, 26] 0 (mtX7_ticksOf l dC dI cI cB aH aR aP aM aE aQ aC H.size NN oH_3 oP oE oC p1 hg) (zCwV 1 C.1 wlX7_147 wiX7_ticksOf ws_X7_ticksOf wnX7 wkX7_ticksOf rfl rfl (by decide +kernel) ⟨Nat.le_of_ble_eq_true rfl, Nat.le_of_ble_eq_true rfl⟩) rfl rfl (by decide +kernel) rfl rfl rfl rfl hl.1 (Nat.le_of_ble_eq_true rfl) dX7_ticks_16 ⟨Nat.zero_le _, Nat.zero_le _⟩ rfl (fun H locs hP hD hS => ?_)
    cases hf
    rw [← hQ]
    exact zRi C hK hP hD hS dX7_ticks_19
  · replace hf := zIf_f hf hc
    refine lv_iconst (v := (-1)) C.1.1 C.1.2.1 dX7_ticks_12 (by decide) ?_
    cases hf
    rw [← hQ]
    exact zRi C hK hP hD hS dX7_ticks_13
def fX7_gates (NN : Nat) (oH : Rc) (oP : Rc) (oE : Rc) (oC : Rc) (p1 : Int32) : Option (Int32 × Rc × Rc) :=
  zB1 (fX7_troubleOfCut oP p1) fun v1 =>
  zB2 (fX7_refused oH v1) fun v2 oH_3 =>
  if v2 = 0 then (
    zB1 (fX0_follow NN oE oC (oP 0 0) p1) fun oC_4 =>
    some ((oC_4 2 0), oH_3, oC_4)
  ) else (
    some ((-1 : Int32), oH_3, oC)
  )
abbrev rX7_gates : Room := { frames := 3, cells := 0, slots := 0, locals := 78 }
set_option maxHeartbeats 4000000 in
set_option maxRecDepth 100000 in
theorem mtX7_gates (l : Launch) (dC : Nat → ClassId) (dI : Nat → Nat → Nat) (cI cB : ClassId) (aH aR aP aM aE aQ aC : Nat → Nat) (sz : Nat) (NN : Nat) (oH : Rc) (oP : Rc) (oE : Rc) (oC : Rc) (p1 : Int32) {ov : Int32} {oH' : Rc} {oC' : Rc} (hf : fX7_gates NN oH oP oE oC p1 = some (ov, oH', oC')) : zMi l yX7_gates (Cond.code yX7_gates cX7_gates 2 (some .int) :: lw_g) rX7_gates (dC, dI) [(cI, .int), (cB, .byte)] [.ref (aH 0), .int p1] sz (kX7 cI cB aH (aR 0) (aM 0) (aE 0) (aC 0) (aP 0) oH ++ kX4 cI cB aP oP ++ kX2 cI cB aE (aQ 0) oE ++ kX0 cI cB aC oC) ov (kX7 cI cB aH (aR 0) (aM 0) (aE 0) (aC 0) (aP 0) oH' ++ kX4 cI cB aP oP ++ kX2 cI cB aE (aQ 0) oE ++ kX0 cI cB aC oC') := by
  refine zSt (cc := cX7_gates) (maxL := 2) (ret := (some .int)) (own := RX7) (fun A => zQi (dC, dI) [(cI, .int), (cB, .byte)] A ov (kX7 cI cB aH (aR 0) (aM 0) (aE 0) (aC 0) (aP 0) oH' ++ kX4 cI cB aP oP ++ kX2 cI cB aE (aQ 0) oE ++ kX0 cI cB aC oC')) (by decide) rfl rfl (Nat.le_of_ble_eq_true rfl) ?_
  intro p e s m below meth c ls A H locs C hK hA hP hD hS hl
  generalize hQ : MQ below (zQi (dC, dI) [(cI, .int), (cB, .byte)] A ov (kX7 cI cB aH (aR 0) (aM 0) (aE 0) (aC 0) (aP 0) oH' ++ kX4 cI cB aP oP ++ kX2 cI cB aE (aQ 0) oE ++ kX0 cI cB aC oC')) _ s 0 0 A = QQ
  generalize ([.ref (aH 0), .int p1] : List Value).toArray = args at C hQ ⊢
  have hl : lv_has ls 2 [(0, .ref (aH 0)), (1, .int p1)] := hl
  unfold fX7_gates at hf
  refine lv_aload_n C.1.1 C.1.2.1 dX7_gates_0 rfl (lv_at hl 0 rfl) ?_
  refine lv_aload_n C.1.1 C.1.2.1 dX7_gates_1 rfl (lv_at hl 0 rfl) ?_
  refine lv_iload_n C.1.1 C.1.2.1 dX7_gates_2 rfl (lv_at hl 1 rfl) ?_
  obtain ⟨v1, hg, hf⟩ := zB1_el hf
  refine zCVi (As := [.int p1]) (rest := [.ref (aH 0)]) (wr := (kX2 cI cB aE (aQ 0) oE ++ kX0 cI cB aC oC)) (wn := (kX7 cI cB aH (aR 0) (aM 0) (aE 0) (aC 0) (aP 0) oH ++ kX4 cI cB aP oP ++ kX2 cI cB aE (aQ 0) oE ++ kX0 cI cB aC oC)) C.1 hK hA hP hD hS [0, 1, 2, 3, 4, 5, 6, 7, 8, 9, 10, 11] [12, 13, 14, 15, 16, 17, 18, 19, 20, 21, 22, 23, 24, 25, 26] [15, 16, 17, 18, 19, 20, 21, 22, 23, 24, 25, 26, 0, 1, 2, 3, 4, 5, 6, 7, 8, 9, 10, 11, 12, 13, 14] 0 (mtX7_troubleOfCut l dC dI cI cB aH aR aP aM aE aC H.size oH oP p1 hg) (zCwV 1 C.1 wlX7_144 wiX7_troubleOfCut ws_X7_troubleOfCut wnX7 wkX7_troubleOfCut rfl rfl (by decide +kernel) ⟨Nat.le_of_ble_eq_true rfl, Nat.le_of_ble_eq_true rfl⟩) rfl rfl (by decide +kernel) rfl rfl rfl rfl hl.1 (Nat.le_of_ble_eq_true rfl) dX7_gates_3 ⟨Nat.zero_le _, Nat.zero_le _⟩ rfl (fun H locs hP hD hS => ?_)
  obtain ⟨v2, oH_3, hg, hf⟩ := zB2_el hf
  refine zCVi (As := [.int v1]) (rest := []) (wr := (kX4 cI cB aP oP ++ kX2 cI cB aE (aQ 0) oE ++ kX0 cI cB aC oC)) (wn := (kX7 cI cB aH (aR 0) (aM 0) (aE 0) (aC 0) (aP 0) oH_3 ++ kX4 cI cB aP oP ++ kX2 cI cB aE (aQ 0) oE ++ kX0 cI cB aC oC)) C.1 hK hA hP hD hS [0, 1] [2, 3, 4, 5, 6, 7, 8, 9, 10, 11, 12, 13, 14, 15, 16, 17, 18, 19, 20, 21, 22, 23, 24, 25, 26] [25, 26, 0, 1, 2, 3, 4, 5, 6, 7, 8, 9, 10, 11, 12, 13, 14, 15, 16, 17, 18, 19, 20, 21, 22, 23, 24] 0 (mtX7_refused l dC dI cI cB aH aR aP aM aE aC H.size oH v1 hg) (zCwV 1 C.1 wlX7_64 wiX7_refused ws_X7_refused wnX7 wkX7_refused rfl rfl (by decide +kernel) ⟨Nat.le_of_ble_eq_true rfl, Nat.le_of_ble_eq_true rfl⟩) rfl rfl (by decide +kernel) rfl rfl rfl rfl hl.1 (Nat.le_of_ble_eq_true rfl) dX7_gates_6 ⟨Nat.zero_le _, Nat.zero_le _⟩ rfl (fun H locs hP hD hS => ?_)
  refine lv_if_eq (tgt := 14) C.1.1 C.1.2.1 dX7_gates_9 (by decide) (fun hc => ?_) (fun hc => ?_)
  · replace hf := zIf_t hf hc
    refine lv_aload_n C.1.1 C.1.2.1 dX7_gates_14 rfl (lv_at hl 0 rfl) ?_
    refine zGet (.ref (aC 0)) C.1 wuX7 hK hP 0 rfl rfl 3 (by decide) wfX7_33 rfl rfl dX7_gates_15 ?_
    refine lv_aload_n C.1.1 C.1.2.1 dX7_gates_18 rfl (lv_at hl 0 rfl) ?_
    refine zGet (.ref (aE 0)) C.1 wuX7 hK hP 0 rfl rfl 2 (by decide) wfX7_26 rfl rfl dX7_gates_19 ?_
    refine lv_aload_n C.1.1 C.1.2.1 dX7_gates_22 rfl (lv_at hl 0 rfl) ?_
    refine zGet (.ref (aP 0)) C.1 wuX7 hK hP 0 rfl rfl 6 (by decide) wfX7_48 rfl rfl dX7_gates_23 ?_
    refine zGet (.int (oP 0 0)) C.1 wuX4 hK hP 2 rfl rfl 0 (by decide) wfX7_98 rfl rfl dX7_gates_26 ?_
    refine lv_iload_n C.1.1 C.1.2.1 dX7_gates_29 rfl (lv_at hl 1 rfl) ?_
    obtain ⟨oC_4, hg, hf⟩ := zB1_el hf
    refine zCVv (As := [.ref (aE 0), .int (oP 0 0), .int p1]) (rest := []) (wr := (kX7 cI cB aH (aR 0) (aM 0) (aE 0) (aC 0) (aP 0) oH_3 ++ kX4 cI cB aP oP)) (wn := (kX7 cI cB aH (aR 0) (aM 0) (aE 0) (aC 0) (aP 0) oH_3 ++ kX4 cI cB aP oP ++ kX2 cI cB aE (aQ 0) oE ++ kX0 cI cB aC oC_4)) C.1 hK hA hP hD hS [12, 13, 14, 15, 16, 17, 18, 19, 20, 21, 22, 23, 24, 25, 26] [0, 1, 2, 3, 4, 5, 6, 7, 8, 9, 10, 11] [0, 1, 2, 3, 4, 5, 6, 7, 8, 9, 10, 11, 12, 13, 14, 15, 16, 17, 18, 19, 20, 21, 22, 23, 24, 25, 26] 9 (mtX0_follow l dC dI cI cB aE aQ aC H.size NN oE oC (oP 0 0) p1 hg) (zCwV 3 C.1 wlX7_150 wiX0_follow ws_X0_follow wnX0 wkX0_follow rfl rfl (by decide +kernel) ⟨Nat.le_of_ble_eq_true rfl, Nat.le_of_ble_eq_true rfl⟩) rfl rfl (by decide +kernel) rfl rfl rfl rfl hl.1 (Nat.le_of_ble_eq_true rfl) dX7_gates_30 ⟨Nat.zero_le _, Nat.zero_le _⟩ rfl (fun H locs hP hD hS => ?_)
    refine lv_aload_n C.1.1 C.1.2.1 dX7_gates_33 rfl (lv_at hl 0 rfl) ?_
    refine zGet (.ref (aC 0)) C.1 wuX7 hK hP 0 rfl rfl 3 (by decide) wfX7_33 rfl rfl dX7_gates_34 ?_
    refine zGet (.int (oC_4 2 0)) C.1 wuX0 hK hP 21 rfl rfl 2 (by decide) wfX7_154 rfl rfl dX7_gates_37 ?_
    cases hf
    rw [← hQ]
    exact zRi C hK hP hD hS dX7_gates_40
  · replace hf := zIf_f hf hc
    refine lv_iconst (v := (-1)) C.1.1 C.1.2.1 dX7_gates_12 (by decide) ?_
    cases hf
    rw [← hQ]
    exact zRi C hK hP hD hS dX7_gates_13
def fX7_moved (NN : Nat) (oH : Rc) (oP : Rc) (oE : Rc) (oC : Rc) (p1 : Int32) : Option (Int32 × Rc × Rc) :=
  zB1 (fX7_troubleOfCut oP p1) fun v1 =>
  zB2 (fX7_refused oH v1) fun v2 oH_3 =>
  if v2 = 0 then (
    zB1 (fX0_follow NN oE oC (oP 0 0) p1) fun oC_4 =>
    some ((oC_4 3 0), oH_3, oC_4)
  ) else (
    some ((-1 : Int32), oH_3, oC)
  )
abbrev rX7_moved : Room := { frames := 3, cells := 0, slots := 0, locals := 78 }
set_option maxHeartbeats 4000000 in
set_option maxRecDepth 100000 in
theorem mtX7_moved (l : Launch) (dC : Nat → ClassId) (dI : Nat → Nat → Nat) (cI cB : ClassId) (aH aR aP aM aE aQ aC : Nat → Nat) (sz : Nat) (NN : Nat) (oH : Rc) (oP : Rc) (oE : Rc) (oC : Rc) (p1 : Int32) {ov : Int32} {oH' : Rc} {oC' : Rc} (hf : fX7_moved NN oH oP oE oC p1 = some (ov, oH', oC')) : zMi l yX7_moved (Cond.code yX7_moved cX7_moved 2 (some .int) :: lw_g) rX7_moved (dC, dI) [(cI, .int), (cB, .byte)] [.ref (aH 0), .int p1] sz (kX7 cI cB aH (aR 0) (aM 0) (aE 0) (aC 0) (aP 0) oH ++ kX4 cI cB aP oP ++ kX2 cI cB aE (aQ 0) oE ++ kX0 cI cB aC oC) ov (kX7 cI cB aH (aR 0) (aM 0) (aE 0) (aC 0) (aP 0) oH' ++ kX4 cI cB aP oP ++ kX2 cI cB aE (aQ 0) oE ++ kX0 cI cB aC oC') := by
  refine zSt (cc := cX7_moved) (maxL := 2) (ret := (some .int)) (own := RX7) (fun A => zQi (dC, dI) [(cI, .int), (cB, .byte)] A ov (kX7 cI cB aH (aR 0) (aM 0) (aE 0) (aC 0) (aP 0) oH' ++ kX4 cI cB aP oP ++ kX2 cI cB aE (aQ 0) oE ++ kX0 cI cB aC oC')) (by decide) rfl rfl (Nat.le_of_ble_eq_true rfl) ?_
  intro p e s m below meth c ls A H locs C hK hA hP hD hS hl
  generalize hQ : MQ below (zQi (dC, dI) [(cI, .int), (cB, .byte)] A ov (kX7 cI cB aH (aR 0) (aM 0) (aE 0) (aC 0) (aP 0) oH' ++ kX4 cI cB aP oP ++ kX2 cI cB aE (aQ 0) oE ++ kX0 cI cB aC oC')) _ s 0 0 A = QQ
  generalize ([.ref (aH 0), .int p1] : List Value).toArray = args at C hQ ⊢
  have hl : lv_has ls 2 [(0, .ref (aH 0)), (1, .int p1)] := hl
  unfold fX7_moved at hf
  refine lv_aload_n C.1.1 C.1.2.1 dX7_moved_0 rfl (lv_at hl 0 rfl) ?_
  refine lv_aload_n C.1.1 C.1.2.1 dX7_moved_1 rfl (lv_at hl 0 rfl) ?_
  refine lv_iload_n C.1.1 C.1.2.1 dX7_moved_2 rfl (lv_at hl 1 rfl) ?_
  obtain ⟨v1, hg, hf⟩ := zB1_el hf
  refine zCVi (As := [.int p1]) (rest := [.ref (aH 0)]) (wr := (kX2 cI cB aE (aQ 0) oE ++ kX0 cI cB aC oC)) (wn := (kX7 cI cB aH (aR 0) (aM 0) (aE 0) (aC 0) (aP 0) oH ++ kX4 cI cB aP oP ++ kX2 cI cB aE (aQ 0) oE ++ kX0 cI cB aC oC)) C.1 hK hA hP hD hS [0, 1, 2, 3, 4, 5, 6, 7, 8, 9, 10, 11] [12, 13, 14, 15, 16, 17, 18, 19, 20, 21, 22, 23, 24, 25, 26] [15, 16, 17, 18, 19, 20, 21, 22, 23, 24, 25, 26, 0, 1, 2, 3, 4, 5, 6, 7, 8, 9, 10, 11, 12, 13, 14] 0 (mtX7_troubleOfCut l dC dI cI cB aH aR aP aM aE aC H.size oH oP p1 hg) (zCwV 1 C.1 wlX7_144 wiX7_troubleOfCut ws_X7_troubleOfCut wnX7 wkX7_troubleOfCut rfl rfl (by decide +kernel) ⟨Nat.le_of_ble_eq_true rfl, Nat.le_of_ble_eq_true rfl⟩) rfl rfl (by decide +kernel) rfl rfl rfl rfl hl.1 (Nat.le_of_ble_eq_true rfl) dX7_moved_3 ⟨Nat.zero_le _, Nat.zero_le _⟩ rfl (fun H locs hP hD hS => ?_)
  obtain ⟨v2, oH_3, hg, hf⟩ := zB2_el hf
  refine zCVi (As := [.int v1]) (rest := []) (wr := (kX4 cI cB aP oP ++ kX2 cI cB aE (aQ 0) oE ++ kX0 cI cB aC oC)) (wn := (kX7 cI cB aH (aR 0) (aM 0) (aE 0) (aC 0) (aP 0) oH_3 ++ kX4 cI cB aP oP ++ kX2 cI cB aE (aQ 0) oE ++ kX0 cI cB aC oC)) C.1 hK hA hP hD hS [0, 1] [2, 3, 4, 5, 6, 7, 8, 9, 10, 11, 12, 13, 14, 15, 16, 17, 18, 19, 20, 21, 22, 23, 24, 25, 26] [25, 26, 0, 1, 2, 3, 4, 5, 6, 7, 8, 9, 10, 11, 12, 13, 14, 15, 16, 17, 18, 19, 20, 21, 22, 23, 24] 0 (mtX7_refused l dC dI cI cB aH aR aP aM aE aC H.size oH v1 hg) (zCwV 1 C.1 wlX7_64 wiX7_refused ws_X7_refused wnX7 wkX7_refused rfl rfl (by decide +kernel) ⟨Nat.le_of_ble_eq_true rfl, Nat.le_of_ble_eq_true rfl⟩) rfl rfl (by decide +kernel) rfl rfl rfl rfl hl.1 (Nat.le_of_ble_eq_true rfl) dX7_moved_6 ⟨Nat.zero_le _, Nat.zero_le _⟩ rfl (fun H locs hP hD hS => ?_)
  refine lv_if_eq (tgt := 14) C.1.1 C.1.2.1 dX7_moved_9 (by decide) (fun hc => ?_) (fun hc => ?_)
  · replace hf := zIf_t hf hc
    refine lv_aload_n C.1.1 C.1.2.1 dX7_moved_14 rfl (lv_at hl 0 rfl) ?_
    refine zGet (.ref (aC 0)) C.1 wuX7 hK hP 0 rfl rfl 3 (by decide) wfX7_33 rfl rfl dX7_moved_15 ?_
    refine lv_aload_n C.1.1 C.1.2.1 dX7_moved_18 rfl (lv_at hl 0 rfl) ?_
    refine zGet (.ref (aE 0)) C.1 wuX7 hK hP 0 rfl rfl 2 (by decide) wfX7_26 rfl rfl dX7_moved_19 ?_
    refine lv_aload_n C.1.1 C.1.2.1 dX7_moved_22 rfl (lv_at hl 0 rfl) ?_
    refine zGet (.ref (aP 0)) C.1 wuX7 hK hP 0 rfl rfl 6 (by decide) wfX7_48 rfl rfl dX7_moved_23 ?_
    refine zGet (.int (oP 0 0)) C.1 wuX4 hK hP 2 rfl rfl 0 (by decide) wfX7_98 rfl rfl dX7_moved_26 ?_
    refine lv_iload_n C.1.1 C.1.2.1 dX7_moved_29 rfl (lv_at hl 1 rfl) ?_
    obtain ⟨oC_4, hg, hf⟩ := zB1_el hf
    refine zCVv (As := [.ref (aE 0), .int (oP 0 0), .int p1]) (rest := []) (wr := (kX7 cI cB aH (aR 0) (aM 0) (aE 0) (aC 0) (aP 0) oH_3 ++ kX4 cI cB aP oP)) (wn := (kX7 cI cB aH (aR 0) (aM 0) (aE 0) (aC 0) (aP 0) oH_3 ++ kX4 cI cB aP oP ++ kX2 cI cB aE (aQ 0) oE ++ kX0 cI cB aC oC_4)) C.1 hK hA hP hD hS [12, 13, 14, 15, 16, 17, 18, 19, 20, 21, 22, 23, 24, 25, 26] [0, 1, 2, 3, 4, 5, 6, 7, 8, 9, 10, 11] [0, 1, 2, 3, 4, 5, 6, 7, 8, 9, 10, 11, 12, 13, 14, 15, 16, 17, 18, 19, 20, 21, 22, 23, 24, 25, 26] 9 (mtX0_follow l dC dI cI cB aE aQ aC H.size NN oE oC (oP 0 0) p1 hg) (zCwV 3 C.1 wlX7_150 wiX0_follow ws_X0_follow wnX0 wkX0_follow rfl rfl (by decide +kernel) ⟨Nat.le_of_ble_eq_true rfl, Nat.le_of_ble_eq_true rfl⟩) rfl rfl (by decide +kernel) rfl rfl rfl rfl hl.1 (Nat.le_of_ble_eq_true rfl) dX7_moved_30 ⟨Nat.zero_le _, Nat.zero_le _⟩ rfl (fun H locs hP hD hS => ?_)
    refine lv_aload_n C.1.1 C.1.2.1 dX7_moved_33 rfl (lv_at hl 0 rfl) ?_
    refine zGet (.ref (aC 0)) C.1 wuX7 hK hP 0 rfl rfl 3 (by decide) wfX7_33 rfl rfl dX7_moved_34 ?_
    refine zGet (.int (oC_4 3 0)) C.1 wuX0 hK hP 21 rfl rfl 3 (by decide) wfX7_156 rfl rfl dX7_moved_37 ?_
    cases hf
    rw [← hQ]
    exact zRi C hK hP hD hS dX7_moved_40
  · replace hf := zIf_f hf hc
    refine lv_iconst (v := (-1)) C.1.1 C.1.2.1 dX7_moved_12 (by decide) ?_
    cases hf
    rw [← hQ]
    exact zRi C hK hP hD hS dX7_moved_13
def fX7_room (NN : Nat) (oH : Rc) (oP : Rc) (oE : Rc) (oC : Rc) (p1 : Int32) : Option (Int32 × Rc × Rc) :=
  zB1 (fX7_troubleOfCut oP p1) fun v1 =>
  zB2 (fX7_refused oH v1) fun v2 oH_3 =>
  if v2 = 0 then (
    zB1 (fX0_follow NN oE oC (oP 0 0) p1) fun oC_4 =>
    some ((oC_4 4 0), oH_3, oC_4)
  ) else (
    some ((-1 : Int32), oH_3, oC)
  )
abbrev rX7_room : Room := { frames := 3, cells := 0, slots := 0, locals := 78 }
set_option maxHeartbeats 4000000 in
set_option maxRecDepth 100000 in
theorem mtX7_room (l : Launch) (dC : Nat → ClassId) (dI : Nat → Nat → Nat) (cI cB : ClassId) (aH aR aP aM aE aQ aC : Nat → Nat) (sz : Nat) (NN : Nat) (oH : Rc) (oP : Rc) (oE : Rc) (oC : Rc) (p1 : Int32) {ov : Int32} {oH' : Rc} {oC' : Rc} (hf : fX7_room NN oH oP oE oC p1 = some (ov, oH', oC')) : zMi l yX7_room (Cond.code yX7_room cX7_room 2 (some .int) :: lw_g) rX7_room (dC, dI) [(cI, .int), (cB, .byte)] [.ref (aH 0), .int p1] sz (kX7 cI cB aH (aR 0) (aM 0) (aE 0) (aC 0) (aP 0) oH ++ kX4 cI cB aP oP ++ kX2 cI cB aE (aQ 0) oE ++ kX0 cI cB aC oC) ov (kX7 cI cB aH (aR 0) (aM 0) (aE 0) (aC 0) (aP 0) oH' ++ kX4 cI cB aP oP ++ kX2 cI cB aE (aQ 0) oE ++ kX0 cI cB aC oC') := by
  refine zSt (cc := cX7_room) (maxL := 2) (ret := (some .int)) (own := RX7) (fun A => zQi (dC, dI) [(cI, .int), (cB, .byte)] A ov (kX7 cI cB aH (aR 0) (aM 0) (aE 0) (aC 0) (aP 0) oH' ++ kX4 cI cB aP oP ++ kX2 cI cB aE (aQ 0) oE ++ kX0 cI cB aC oC')) (by decide) rfl rfl (Nat.le_of_ble_eq_true rfl) ?_
  intro p e s m below meth c ls A H locs C hK hA hP hD hS hl
  generalize hQ : MQ below (zQi (dC, dI) [(cI, .int), (cB, .byte)] A ov (kX7 cI cB aH (aR 0) (aM 0) (aE 0) (aC 0) (aP 0) oH' ++ kX4 cI cB aP oP ++ kX2 cI cB aE (aQ 0) oE ++ kX0 cI cB aC oC')) _ s 0 0 A = QQ
  generalize ([.ref (aH 0), .int p1] : List Value).toArray = args at C hQ ⊢
  have hl : lv_has ls 2 [(0, .ref (aH 0)), (1, .int p1)] := hl
  unfold fX7_room at hf
  refine lv_aload_n C.1.1 C.1.2.1 dX7_room_0 rfl (lv_at hl 0 rfl) ?_
  refine lv_aload_n C.1.1 C.1.2.1 dX7_room_1 rfl (lv_at hl 0 rfl) ?_
  refine lv_iload_n C.1.1 C.1.2.1 dX7_room_2 rfl (lv_at hl 1 rfl) ?_
  obtain ⟨v1, hg, hf⟩ := zB1_el hf
  refine zCVi (As := [.int p1]) (rest := [.ref (aH 0)]) (wr := (kX2 cI cB aE (aQ 0) oE ++ kX0 cI cB aC oC)) (wn := (kX7 cI cB aH (aR 0) (aM 0) (aE 0) (aC 0) (aP 0) oH ++ kX4 cI cB aP oP ++ kX2 cI cB aE (aQ 0) oE ++ kX0 cI cB aC oC)) C.1 hK hA hP hD hS [0, 1, 2, 3, 4, 5, 6, 7, 8, 9, 10, 11] [12, 13, 14, 15, 16, 17, 18, 19, 20, 21, 22, 23, 24, 25, 26] [15, 16, 17, 18, 19, 20, 21, 22, 23, 24, 25, 26, 0, 1, 2, 3, 4, 5, 6, 7, 8, 9, 10, 11, 12, 13, 14] 0 (mtX7_troubleOfCut l dC dI cI cB aH aR aP aM aE aC H.size oH oP p1 hg) (zCwV 1 C.1 wlX7_144 wiX7_troubleOfCut ws_X7_troubleOfCut wnX7 wkX7_troubleOfCut rfl rfl (by decide +kernel) ⟨Nat.le_of_ble_eq_true rfl, Nat.le_of_ble_eq_true rfl⟩) rfl rfl (by decide +kernel) rfl rfl rfl rfl hl.1 (Nat.le_of_ble_eq_true rfl) dX7_room_3 ⟨Nat.zero_le _, Nat.zero_le _⟩ rfl (fun H locs hP hD hS => ?_)
  obtain ⟨v2, oH_3, hg, hf⟩ := zB2_el hf
  refine zCVi (As := [.int v1]) (rest := []) (wr := (kX4 cI cB aP oP ++ kX2 cI cB aE (aQ 0) oE ++ kX0 cI cB aC oC)) (wn := (kX7 cI cB aH (aR 0) (aM 0) (aE 0) (aC 0) (aP 0) oH_3 ++ kX4 cI cB aP oP ++ kX2 cI cB aE (aQ 0) oE ++ kX0 cI cB aC oC)) C.1 hK hA hP hD hS [0, 1] [2, 3, 4, 5, 6, 7, 8, 9, 10, 11, 12, 13, 14, 15, 16, 17, 18, 19, 20, 21, 22, 23, 24, 25, 26] [25, 26, 0, 1, 2, 3, 4, 5, 6, 7, 8, 9, 10, 11, 12, 13, 14, 15, 16, 17, 18, 19, 20, 21, 22, 23, 24] 0 (mtX7_refused l dC dI cI cB aH aR aP aM aE aC H.size oH v1 hg) (zCwV 1 C.1 wlX7_64 wiX7_refused ws_X7_refused wnX7 wkX7_refused rfl rfl (by decide +kernel) ⟨Nat.le_of_ble_eq_true rfl, Nat.le_of_ble_eq_true rfl⟩) rfl rfl (by decide +kernel) rfl rfl rfl rfl hl.1 (Nat.le_of_ble_eq_true rfl) dX7_room_6 ⟨Nat.zero_le _, Nat.zero_le _⟩ rfl (fun H locs hP hD hS => ?_)
  refine lv_if_eq (tgt := 14) C.1.1 C.1.2.1 dX7_room_9 (by decide) (fun hc => ?_) (fun hc => ?_)
  · replace hf := zIf_t hf hc
    refine lv_aload_n C.1.1 C.1.2.1 dX7_room_14 rfl (lv_at hl 0 rfl) ?_
    refine zGet (.ref (aC 0)) C.1 wuX7 hK hP 0 rfl rfl 3 (by decide) wfX7_33 rfl rfl dX7_room_15 ?_
    refine lv_aload_n C.1.1 C.1.2.1 dX7_room_18 rfl (lv_at hl 0 rfl) ?_
    refine zGet (.ref (aE 0)) C.1 wuX7 hK hP 0 rfl rfl 2 (by decide) wfX7_26 rfl rfl dX7_room_19 ?_
    refine lv_aload_n C.1.1 C.1.2.1 dX7_room_22 rfl (lv_at hl 0 rfl) ?_
    refine zGet (.ref (aP 0)) C.1 wuX7 hK hP 0 rfl rfl 6 (by decide) wfX7_48 rfl rfl dX7_room_23 ?_
    refine zGet (.int (oP 0 0)) C.1 wuX4 hK hP 2 rfl rfl 0 (by decide) wfX7_98 rfl rfl dX7_room_26 ?_
    refine lv_iload_n C.1.1 C.1.2.1 dX7_room_29 rfl (lv_at hl 1 rfl) ?_
    obtain ⟨oC_4, hg, hf⟩ := zB1_el hf
    refine zCVv (As := [.ref (aE 0), .int (oP 0 0), .int p1]) (rest := []) (wr := (kX7 cI cB aH (aR 0) (aM 0) (aE 0) (aC 0) (aP 0) oH_3 ++ kX4 cI cB aP oP)) (wn := (kX7 cI cB aH (aR 0) (aM 0) (aE 0) (aC 0) (aP 0) oH_3 ++ kX4 cI cB aP oP ++ kX2 cI cB aE (aQ 0) oE ++ kX0 cI cB aC oC_4)) C.1 hK hA hP hD hS [12, 13, 14, 15, 16, 17, 18, 19, 20, 21, 22, 23, 24, 25, 26] [0, 1, 2, 3, 4, 5, 6, 7, 8, 9, 10, 11] [0, 1, 2, 3, 4, 5, 6, 7, 8, 9, 10, 11, 12, 13, 14, 15, 16, 17, 18, 19, 20, 21, 22, 23, 24, 25, 26] 9 (mtX0_follow l dC dI cI cB aE aQ aC H.size NN oE oC (oP 0 0) p1 hg) (zCwV 3 C.1 wlX7_150 wiX0_follow ws_X0_follow wnX0 wkX0_follow rfl rfl (by decide +kernel) ⟨Nat.le_of_ble_eq_true rfl, Nat.le_of_ble_eq_true rfl⟩) rfl rfl (by decide +kernel) rfl rfl rfl rfl hl.1 (Nat.le_of_ble_eq_true rfl) dX7_room_30 ⟨Nat.zero_le _, Nat.zero_le _⟩ rfl (fun H locs hP hD hS => ?_)
    refine lv_aload_n C.1.1 C.1.2.1 dX7_room_33 rfl (lv_at hl 0 rfl) ?_
    refine zGet (.ref (aC 0)) C.1 wuX7 hK hP 0 rfl rfl 3 (by decide) wfX7_33 rfl rfl dX7_room_34 ?_
    refine zGet (.int (oC_4 4 0)) C.1 wuX0 hK hP 21 rfl rfl 4 (by decide) wfX7_159 rfl rfl dX7_room_37 ?_
    cases hf
    rw [← hQ]
    exact zRi C hK hP hD hS dX7_room_40
  · replace hf := zIf_f hf hc
    refine lv_iconst (v := (-1)) C.1.1 C.1.2.1 dX7_room_12 (by decide) ?_
    cases hf
    rw [← hQ]
    exact zRi C hK hP hD hS dX7_room_13
def fX7_moves (NN : Nat) (oH : Rc) (oP : Rc) (oE : Rc) (oC : Rc) (p1 : Int32) (p2 : Int32) : Option (Int32 × Rc × Rc) :=
  zB1 (fX7_troubleOfCut oP p1) fun v1 =>
  zB2 (fX7_refused oH v1) fun v2 oH_3 =>
  if v2 = 0 then (
    zJn (fun (t4 : Int32) =>
        zB2 (fX7_refused oH_3 t4) fun v6 oH_7 =>
        if v6 = 0 then (
          zB1 (fX0_follow NN oE oC (oP 0 0) p1) fun oC_8 =>
          zGd (inb p2 13) <|
          some ((oC_8 0 p2.toNatClampNeg), oH_7, oC_8)
        ) else (
          some ((-1 : Int32), oH_7, oC)
        )
      ) fun J39_5 =>
    zJn (fun (_ : Unit) =>
        J39_5 (0 : Int32)
      ) fun J34_9 =>
    if p2 = (oP 0 0) then (
      J34_9 ()
    ) else (
      zB1 (fX7_isBlock oP p2) fun v10 =>
      if v10 = 0 then (
        J39_5 (1 : Int32)
      ) else (
        J34_9 ()
      )
    )
  ) else (
    some ((-1 : Int32), oH_3, oC)
  )
abbrev rX7_moves : Room := { frames := 3, cells := 0, slots := 0, locals := 78 }
set_option maxHeartbeats 4000000 in
set_option maxRecDepth 100000 in
theorem mtX7_moves (l : Launch) (dC : Nat → ClassId) (dI : Nat → Nat → Nat) (cI cB : ClassId) (aH aR aP aM aE aQ aC : Nat → Nat) (sz : Nat) (NN : Nat) (oH : Rc) (oP : Rc) (oE : Rc) (oC : Rc) (p1 : Int32) (p2 : Int32) {ov : Int32} {oH' : Rc} {oC' : Rc} (hf : fX7_moves NN oH oP oE oC p1 p2 = some (ov, oH', oC')) : zMi l yX7_moves (Cond.code yX7_moves cX7_moves 3 (some .int) :: lw_g) rX7_moves (dC, dI) [(cI, .int), (cB, .byte)] [.ref (aH 0), .int p1, .int p2] sz (kX7 cI cB aH (aR 0) (aM 0) (aE 0) (aC 0) (aP 0) oH ++ kX4 cI cB aP oP ++ kX2 cI cB aE (aQ 0) oE ++ kX0 cI cB aC oC) ov (kX7 cI cB aH (aR 0) (aM 0) (aE 0) (aC 0) (aP 0) oH' ++ kX4 cI cB aP oP ++ kX2 cI cB aE (aQ 0) oE ++ kX0 cI cB aC oC') := by
  refine zSt (cc := cX7_moves) (maxL := 3) (ret := (some .int)) (own := RX7) (fun A => zQi (dC, dI) [(cI, .int), (cB, .byte)] A ov (kX7 cI cB aH (aR 0) (aM 0) (aE 0) (aC 0) (aP 0) oH' ++ kX4 cI cB aP oP ++ kX2 cI cB aE (aQ 0) oE ++ kX0 cI cB aC oC')) (by decide) rfl rfl (Nat.le_of_ble_eq_true rfl) ?_
  intro p e s m below meth c ls A H locs C hK hA hP hD hS hl
  generalize hQ : MQ below (zQi (dC, dI) [(cI, .int), (cB, .byte)] A ov (kX7 cI cB aH (aR 0) (aM 0) (aE 0) (aC 0) (aP 0) oH' ++ kX4 cI cB aP oP ++ kX2 cI cB aE (aQ 0) oE ++ kX0 cI cB aC oC')) _ s 0 0 A = QQ
  generalize ([.ref (aH 0), .int p1, .int p2] : List Value).toArray = args at C hQ ⊢
  have hl : lv_has ls 3 [(0, .ref (aH 0)), (1, .int p1), (2, .int p2)] := hl
  unfold fX7_moves at hf
  refine lv_aload_n C.1.1 C.1.2.1 dX7_moves_0 rfl (lv_at hl 0 rfl) ?_
  refine lv_aload_n C.1.1 C.1.2.1 dX7_moves_1 rfl (lv_at hl 0 rfl) ?_
  refine lv_iload_n C.1.1 C.1.2.1 dX7_moves_2 rfl (lv_at hl 1 rfl) ?_
  obtain ⟨v1, hg, hf⟩ := zB1_el hf
  refine zCVi (As := [.int p1]) (rest := [.ref (aH 0)]) (wr := (kX2 cI cB aE (aQ 0) oE ++ kX0 cI cB aC oC)) (wn := (kX7 cI cB aH (aR 0) (aM 0) (aE 0) (aC 0) (aP 0) oH ++ kX4 cI cB aP oP ++ kX2 cI cB aE (aQ 0) oE ++ kX0 cI cB aC oC)) C.1 hK hA hP hD hS [0, 1, 2, 3, 4, 5, 6, 7, 8, 9, 10, 11] [12, 13, 14, 15, 16, 17, 18, 19, 20, 21, 22, 23, 24, 25, 26] [15, 16, 17, 18, 19, 20, 21, 22, 23, 24, 25, 26, 0, 1, 2, 3, 4, 5, 6, 7, 8, 9, 10, 11, 12, 13, 14] 0 (mtX7_troubleOfCut l dC dI cI cB aH aR aP aM aE aC H.size oH oP p1 hg) (zCwV 1 C.1 wlX7_144 wiX7_troubleOfCut ws_X7_troubleOfCut wnX7 wkX7_troubleOfCut rfl rfl (by decide +kernel) ⟨Nat.le_of_ble_eq_true rfl, Nat.le_of_ble_eq_true rfl⟩) rfl rfl (by decide +kernel) rfl rfl rfl rfl hl.1 (Nat.le_of_ble_eq_true rfl) dX7_moves_3 ⟨Nat.zero_le _, Nat.zero_le _⟩ rfl (fun H locs hP hD hS => ?_)
  obtain ⟨v2, oH_3, hg, hf⟩ := zB2_el hf
  refine zCVi (As := [.int v1]) (rest := []) (wr := (kX4 cI cB aP oP ++ kX2 cI cB aE (aQ 0) oE ++ kX0 cI cB aC oC)) (wn := (kX7 cI cB aH (aR 0) (aM 0) (aE 0) (aC 0) (aP 0) oH_3 ++ kX4 cI cB aP oP ++ kX2 cI cB aE (aQ 0) oE ++ kX0 cI cB aC oC)) C.1 hK hA hP hD hS [0, 1] [2, 3, 4, 5, 6, 7, 8, 9, 10, 11, 12, 13, 14, 15, 16, 17, 18, 19, 20, 21, 22, 23, 24, 25, 26] [25, 26, 0, 1, 2, 3, 4, 5, 6, 7, 8, 9, 10, 11, 12, 13, 14, 15, 16, 17, 18, 19, 20, 21, 22, 23, 24] 0 (mtX7_refused l dC dI cI cB aH aR aP aM aE aC H.size oH v1 hg) (zCwV 1 C.1 wlX7_64 wiX7_refused ws_X7_refused wnX7 wkX7_refused rfl rfl (by decide +kernel) ⟨Nat.le_of_ble_eq_true rfl, Nat.le_of_ble_eq_true rfl⟩) rfl rfl (by decide +kernel) rfl rfl rfl rfl hl.1 (Nat.le_of_ble_eq_true rfl) dX7_moves_6 ⟨Nat.zero_le _, Nat.zero_le _⟩ rfl (fun H locs hP hD hS => ?_)
  refine lv_if_eq (tgt := 14) C.1.1 C.1.2.1 dX7_moves_9 (by decide) (fun hc => ?_) (fun hc => ?_)
  · replace hf := zIf_t hf hc
    refine lv_aload_n C.1.1 C.1.2.1 dX7_moves_14 rfl (lv_at hl 0 rfl) ?_
    refine lv_iload_n C.1.1 C.1.2.1 dX7_moves_15 rfl (lv_at hl 2 rfl) ?_
    refine lv_aload_n C.1.1 C.1.2.1 dX7_moves_16 rfl (lv_at hl 0 rfl) ?_
    refine zGet (.ref (aP 0)) C.1 wuX7 hK hP 0 rfl rfl 6 (by decide) wfX7_48 rfl rfl dX7_moves_17 ?_
    refine zGet (.int (oP 0 0)) C.1 wuX4 hK hP 2 rfl rfl 0 (by decide) wfX7_98 rfl rfl dX7_moves_20 ?_
    obtain ⟨J39_5, eJ39_5, hf⟩ := zJn_el hf
    have hJ39_5 : ∀ (t4 : Int32), J39_5 t4 = some (ov, oH', oC') → ∀ (H : Heap) (locs : List Loc), va_P (dC, dI) vwCl (kX7 cI cB aH (aR 0) (aM 0) (aE 0) (aC 0) (aP 0) oH_3 ++ kX4 cI cB aP oP ++ kX2 cI cB aE (aQ 0) oE ++ kX0 cI cB aC oC) H → va_D A (kX7 cI cB aH (aR 0) (aM 0) (aE 0) (aC 0) (aP 0) oH_3 ++ kX4 cI cB aP oP ++ kX2 cI cB aE (aQ 0) oE ++ kX0 cI cB aC oC) → va_S A s.heap H locs → ∀ (ls : Array Slot), lv_has ls 3 [(0, .ref (aH 0)), (1, .int p1), (2, .int p2)] → W p l e rX7_moves s m args below meth c H locs 0 0 QQ (F0 m 39 ls [.int t4, .ref (aH 0)]) := by
      intro t4 hf H locs hP hD hS ls hl
      rw [eJ39_5] at hf
      obtain ⟨v6, oH_7, hg, hf⟩ := zB2_el hf
      refine zCVi (As := [.int t4]) (rest := []) (wr := (kX4 cI cB aP oP ++ kX2 cI cB aE (aQ 0) oE ++ kX0 cI cB aC oC)) (wn := (kX7 cI cB aH (aR 0) (aM 0) (aE 0) (aC 0) (aP 0) oH_7 ++ kX4 cI cB aP oP ++ kX2 cI cB aE (aQ 0) oE ++ kX0 cI cB aC oC)) C.1 hK hA hP hD hS [0, 1] [2, 3, 4, 5, 6, 7, 8, 9, 10, 11, 12, 13, 14, 15, 16, 17, 18, 19, 20, 21, 22, 23, 24, 25, 26] [25, 26, 0, 1, 2, 3, 4, 5, 6, 7, 8, 9, 10, 11, 12, 13, 14, 15, 16, 17, 18, 19, 20, 21, 22, 23, 24] 0 (mtX7_refused l dC dI cI cB aH aR aP aM aE aC H.size oH_3 t4 hg) (zCwV 1 C.1 wlX7_64 wiX7_refused ws_X7_refused wnX7 wkX7_refused rfl rfl (by decide +kernel) ⟨Nat.le_of_ble_eq_true rfl, Nat.le_of_ble_eq_true rfl⟩) rfl rfl (by decide +kernel) rfl rfl rfl rfl hl.1 (Nat.le_of_ble_eq_true rfl) dX7_moves_39 ⟨Nat.zero_le _, Nat.zero_le _⟩ rfl (fun H locs hP hD hS => ?_)
      refine lv_if_eq (tgt := 47) C.1.1 C.1.2.1 dX7_moves_42 (by decide) (fun hc => ?_) (fun hc => ?_)
      · replace hf := zIf_t hf hc
        refine lv_aload_n C.1.1 C.1.2.1 dX7_moves_47 rfl (lv_at hl 0 rfl) ?_
        refine zGet (.ref (aC 0)) C.1 wuX7 hK hP 0 rfl rfl 3 (by decide) wfX7_33 rfl rfl dX7_moves_48 ?_
        refine lv_aload_n C.1.1 C.1.2.1 dX7_moves_51 rfl (lv_at hl 0 rfl) ?_
        refine zGet (.ref (aE 0)) C.1 wuX7 hK hP 0 rfl rfl 2 (by decide) wfX7_26 rfl rfl dX7_moves_52 ?_
        refine lv_aload_n C.1.1 C.1.2.1 dX7_moves_55 rfl (lv_at hl 0 rfl) ?_
        refine zGet (.ref (aP 0)) C.1 wuX7 hK hP 0 rfl rfl 6 (by decide) wfX7_48 rfl rfl dX7_moves_56 ?_
        refine zGet (.int (oP 0 0)) C.1 wuX4 hK hP 2 rfl rfl 0 (by decide) wfX7_98 rfl rfl dX7_moves_59 ?_
        refine lv_iload_n C.1.1 C.1.2.1 dX7_moves_62 rfl (lv_at hl 1 rfl) ?_
        obtain ⟨oC_8, hg, hf⟩ := zB1_el hf
        refine zCVv (As := [.ref (aE 0), .int (oP 0 0), .int p1]) (rest := []) (wr := (kX7 cI cB aH (aR 0) (aM 0) (aE 0) (aC 0) (aP 0) oH_7 ++ kX4 cI cB aP oP)) (wn := (kX7 cI cB aH (aR 0) (aM 0) (aE 0) (aC 0) (aP 0) oH_7 ++ kX4 cI cB aP oP ++ kX2 cI cB aE (aQ 0) oE ++ kX0 cI cB aC oC_8)) C.1 hK hA hP hD hS [12, 13, 14, 15, 16, 17, 18, 19, 20, 21, 22, 23, 24, 25, 26] [0, 1, 2, 3, 4, 5, 6, 7, 8, 9, 10, 11] [0, 1, 2, 3, 4, 5, 6, 7, 8, 9, 10, 11, 12, 13, 14, 15, 16, 17, 18, 19, 20, 21, 22, 23, 24, 25, 26] 9 (mtX0_follow l dC dI cI cB aE aQ aC H.size NN oE oC (oP 0 0) p1 hg) (zCwV 3 C.1 wlX7_150 wiX0_follow ws_X0_follow wnX0 wkX0_follow rfl rfl (by decide +kernel) ⟨Nat.le_of_ble_eq_true rfl, Nat.le_of_ble_eq_true rfl⟩) rfl rfl (by decide +kernel) rfl rfl rfl rfl hl.1 (Nat.le_of_ble_eq_true rfl) dX7_moves_63 ⟨Nat.zero_le _, Nat.zero_le _⟩ rfl (fun H locs hP hD hS => ?_)
        refine lv_aload_n C.1.1 C.1.2.1 dX7_moves_66 rfl (lv_at hl 0 rfl) ?_
        refine zGet (.ref (aC 0)) C.1 wuX7 hK hP 0 rfl rfl 3 (by decide) wfX7_33 rfl rfl dX7_moves_67 ?_
        refine zGet (.ref (aC 1)) C.1 wuX0 hK hP 21 rfl rfl 0 (by decide) wfX7_162 rfl rfl dX7_moves_70 ?_
        refine lv_iload_n C.1.1 C.1.2.1 dX7_moves_73 rfl (lv_at hl 2 rfl) ?_
        obtain ⟨hib, hf⟩ := zGd_el hf
        refine va_iald C.1.1 C.1.2.1 hK.1 hP 22 0 rfl rfl hib dX7_moves_74 ?_
        cases hf
        rw [← hQ]
        exact zRi C hK hP hD hS dX7_moves_75
      · replace hf := zIf_f hf hc
        refine lv_iconst (v := (-1)) C.1.1 C.1.2.1 dX7_moves_45 (by decide) ?_
        cases hf
        rw [← hQ]
        exact zRi C hK hP hD hS dX7_moves_46
    obtain ⟨J34_9, eJ34_9, hf⟩ := zJn_el hf
    have hJ34_9 : ∀ (u : Unit), J34_9 u = some (ov, oH', oC') → ∀ (H : Heap) (locs : List Loc), va_P (dC, dI) vwCl (kX7 cI cB aH (aR 0) (aM 0) (aE 0) (aC 0) (aP 0) oH_3 ++ kX4 cI cB aP oP ++ kX2 cI cB aE (aQ 0) oE ++ kX0 cI cB aC oC) H → va_D A (kX7 cI cB aH (aR 0) (aM 0) (aE 0) (aC 0) (aP 0) oH_3 ++ kX4 cI cB aP oP ++ kX2 cI cB aE (aQ 0) oE ++ kX0 cI cB aC oC) → va_S A s.heap H locs → ∀ (ls : Array Slot), lv_has ls 3 [(0, .ref (aH 0)), (1, .int p1), (2, .int p2)] → W p l e rX7_moves s m args below meth c H locs 0 0 QQ (F0 m 34 ls [.ref (aH 0)]) := by
      intro u hf H locs hP hD hS ls hl
      rw [eJ34_9] at hf
      refine lv_iconst (v := 0) C.1.1 C.1.2.1 dX7_moves_34 (by decide) ?_
      refine lv_goto (tgt := 39) C.1.1 C.1.2.1 dX7_moves_35 (by decide) ?_
      exact hJ39_5 (0 : Int32) hf H locs hP hD hS ls (lv_sub hl [0, 1, 2] rfl)
    refine lv_icmp_eq (tgt := 34) C.1.1 C.1.2.1 dX7_moves_23 (by decide) (fun hc => ?_) (fun hc => ?_)
    · replace hf := zIf_t hf hc
      exact hJ34_9 () hf H locs hP hD hS ls (lv_sub hl [0, 1, 2] rfl)
    · replace hf := zIf_f hf hc
      refine lv_aload_n C.1.1 C.1.2.1 dX7_moves_26 rfl (lv_at hl 0 rfl) ?_
      refine lv_iload_n C.1.1 C.1.2.1 dX7_moves_27 rfl (lv_at hl 2 rfl) ?_
      obtain ⟨v10, hg, hf⟩ := zB1_el hf
      refine zCVi (As := [.int p2]) (rest := [.ref (aH 0)]) (wr := (kX2 cI cB aE (aQ 0) oE ++ kX0 cI cB aC oC)) (wn := (kX7 cI cB aH (aR 0) (aM 0) (aE 0) (aC 0) (aP 0) oH_3 ++ kX4 cI cB aP oP ++ kX2 cI cB aE (aQ 0) oE ++ kX0 cI cB aC oC)) C.1 hK hA hP hD hS [0, 1, 2, 3, 4, 5, 6, 7, 8, 9, 10, 11] [12, 13, 14, 15, 16, 17, 18, 19, 20, 21, 22, 23, 24, 25, 26] [15, 16, 17, 18, 19, 20, 21, 22, 23, 24, 25, 26, 0, 1, 2, 3, 4, 5, 6, 7, 8, 9, 10, 11, 12, 13, 14] 0 (mtX7_isBlock l dC dI cI cB aH aR aP aM aE aC H.size oH_3 oP p2 hg) (zCwV 1 C.1 wlX7_113 wiX7_isBlock ws_X7_isBlock wnX7 wkX7_isBlock rfl rfl (by decide +kernel) ⟨Nat.le_of_ble_eq_true rfl, Nat.le_of_ble_eq_true rfl⟩) rfl rfl (by decide +kernel) rfl rfl rfl rfl hl.1 (Nat.le_of_ble_eq_true rfl) dX7_moves_28 ⟨Nat.zero_le _, Nat.zero_le _⟩ rfl (fun H locs hP hD hS => ?_)
      refine lv_if_eq (tgt := 38) C.1.1 C.1.2.1 dX7_moves_31 (by decide) (fun hc => ?_) (fun hc => ?_)
      · replace hf := zIf_t hf hc
        refine lv_iconst (v := 1) C.1.1 C.1.2.1 dX7_moves_38 (by decide) ?_
        exact hJ39_5 (1 : Int32) hf H locs hP hD hS ls (lv_sub hl [0, 1, 2] rfl)
      · replace hf := zIf_f hf hc
        exact hJ34_9 () hf H locs hP hD hS ls (lv_sub hl [0, 1, 2] rfl)
  · replace hf := zIf_f hf hc
    refine lv_iconst (v := (-1)) C.1.1 C.1.2.1 dX7_moves_12 (by decide) ?_
    cases hf
    rw [← hQ]
    exact zRi C hK hP hD hS dX7_moves_13
def fX7_troubleOfAsked (oP : Rc) (p1 : Int32) (p2 : Int32) : Option (Int32) :=
  zB1 (fX7_hasProgram oP) fun v1 =>
  if v1 = 0 then (
    some (4 : Int32)
  ) else (
    if p1 < 0 then (
      some (2 : Int32)
    ) else (
      if p2 < p1 then (
        some (2 : Int32)
      ) else (
        some (0 : Int32)
      )
    )
  )
abbrev rX7_troubleOfAsked : Room := { frames := 1, cells := 0, slots := 0, locals := 20 }
set_option maxHeartbeats 4000000 in
set_option maxRecDepth 100000 in
theorem mtX7_troubleOfAsked (l : Launch) (dC : Nat → ClassId) (dI : Nat → Nat → Nat) (cI cB : ClassId) (aH aR aP aM aE aC : Nat → Nat) (sz : Nat) (oH : Rc) (oP : Rc) (p1 : Int32) (p2 : Int32) {ov : Int32} (hf : fX7_troubleOfAsked oP p1 p2 = some ov) : zMi l yX7_troubleOfAsked (Cond.code yX7_troubleOfAsked cX7_troubleOfAsked 3 (some .int) :: lw_g) rX7_troubleOfAsked (dC, dI) [(cI, .int), (cB, .byte)] [.ref (aH 0), .int p1, .int p2] sz (kX7 cI cB aH (aR 0) (aM 0) (aE 0) (aC 0) (aP 0) oH ++ kX4 cI cB aP oP) ov (kX7 cI cB aH (aR 0) (aM 0) (aE 0) (aC 0) (aP 0) oH ++ kX4 cI cB aP oP) := by
  refine zSt (cc := cX7_troubleOfAsked) (maxL := 3) (ret := (some .int)) (own := RX7) (fun A => zQi (dC, dI) [(cI, .int), (cB, .byte)] A ov (kX7 cI cB aH (aR 0) (aM 0) (aE 0) (aC 0) (aP 0) oH ++ kX4 cI cB aP oP)) (by decide) rfl rfl (Nat.le_of_ble_eq_true rfl) ?_
  intro p e s m below meth c ls A H locs C hK hA hP hD hS hl
  generalize hQ : MQ below (zQi (dC, dI) [(cI, .int), (cB, .byte)] A ov (kX7 cI cB aH (aR 0) (aM 0) (aE 0) (aC 0) (aP 0) oH ++ kX4 cI cB aP oP)) _ s 0 0 A = QQ
  generalize ([.ref (aH 0), .int p1, .int p2] : List Value).toArray = args at C hQ ⊢
  have hl : lv_has ls 3 [(0, .ref (aH 0)), (1, .int p1), (2, .int p2)] := hl
  unfold fX7_troubleOfAsked at hf
  refine lv_aload_n C.1.1 C.1.2.1 dX7_troubleOfAsked_0 rfl (lv_at hl 0 rfl) ?_
  obtain ⟨v1, hg, hf⟩ := zB1_el hf
  refine zCVi (As := []) (rest := []) (wr := ([] : va_W)) (wn := (kX7 cI cB aH (aR 0) (aM 0) (aE 0) (aC 0) (aP 0) oH ++ kX4 cI cB aP oP)) C.1 hK hA hP hD hS [0, 1, 2, 3, 4, 5, 6, 7, 8, 9, 10, 11] [] [0, 1, 2, 3, 4, 5, 6, 7, 8, 9, 10, 11] 0 (mtX7_hasProgram l dC dI cI cB aH aR aP aM aE aC H.size oH oP hg) (zCwV 0 C.1 wlX7_184 wiX7_hasProgram ws_X7_hasProgram wnX7 wkX7_hasProgram rfl rfl (by decide +kernel) ⟨Nat.le_of_ble_eq_true rfl, Nat.le_of_ble_eq_true rfl⟩) rfl rfl (by decide +kernel) rfl rfl rfl rfl hl.1 (Nat.le_of_ble_eq_true rfl) dX7_troubleOfAsked_1 ⟨Nat.zero_le _, Nat.zero_le _⟩ rfl (fun H locs hP hD hS => ?_)
  refine lv_if_ne (tgt := 9) C.1.1 C.1.2.1 dX7_troubleOfAsked_4 (by decide) (fun hc => ?_) (fun hc => ?_)
  · replace hf := zIf_f hf hc
    refine lv_iload_n C.1.1 C.1.2.1 dX7_troubleOfAsked_9 rfl (lv_at hl 1 rfl) ?_
    refine lv_if_lt (tgt := 22) C.1.1 C.1.2.1 dX7_troubleOfAsked_10 (by decide) (fun hc => ?_) (fun hc => ?_)
    · replace hf := zIf_t hf hc
      refine lv_iconst (v := 2) C.1.1 C.1.2.1 dX7_troubleOfAsked_22 (by decide) ?_
      cases hf
      rw [← hQ]
      exact zRi C hK hP hD hS dX7_troubleOfAsked_23
    · replace hf := zIf_f hf hc
      refine lv_iload_n C.1.1 C.1.2.1 dX7_troubleOfAsked_13 rfl (lv_at hl 1 rfl) ?_
      refine lv_iload_n C.1.1 C.1.2.1 dX7_troubleOfAsked_14 rfl (lv_at hl 2 rfl) ?_
      refine lv_icmp_gt (tgt := 22) C.1.1 C.1.2.1 dX7_troubleOfAsked_15 (by decide) (fun hc => ?_) (fun hc => ?_)
      · replace hf := zIf_t hf hc
        refine lv_iconst (v := 2) C.1.1 C.1.2.1 dX7_troubleOfAsked_22 (by decide) ?_
        cases hf
        rw [← hQ]
        exact zRi C hK hP hD hS dX7_troubleOfAsked_23
      · replace hf := zIf_f hf hc
        refine lv_iconst (v := 0) C.1.1 C.1.2.1 dX7_troubleOfAsked_18 (by decide) ?_
        refine lv_goto (tgt := 23) C.1.1 C.1.2.1 dX7_troubleOfAsked_19 (by decide) ?_
        cases hf
        rw [← hQ]
        exact zRi C hK hP hD hS dX7_troubleOfAsked_23
  · replace hf := zIf_t hf hc
    refine lv_iconst (v := 4) C.1.1 C.1.2.1 dX7_troubleOfAsked_7 (by decide) ?_
    cases hf
    rw [← hQ]
    exact zRi C hK hP hD hS dX7_troubleOfAsked_8
def fX7_quickest (NN : Nat) (oH : Rc) (oP : Rc) (oE : Rc) (oC : Rc) (p1 : Int32) : Option (Int32 × Rc × Rc) :=
  zB1 (fX7_troubleOfAsked oP p1 (1000000 : Int32)) fun v1 =>
  zB2 (fX7_refused oH v1) fun v2 oH_3 =>
  if v2 = 0 then (
    zB1 (fX0_prepare NN oE oC (oP 0 0) (oH_3 9 0)) fun oC_4 =>
    zB1 (fX0_quickestWithin NN oC_4 p1) fun v5 =>
    some (v5, oH_3, oC_4)
  ) else (
    some ((-1 : Int32), oH_3, oC)
  )
abbrev rX7_quickest : Room := { frames := 5, cells := 0, slots := 0, locals := 123 }
set_option maxHeartbeats 4000000 in
set_option maxRecDepth 100000 in
theorem mtX7_quickest (l : Launch) (dC : Nat → ClassId) (dI : Nat → Nat → Nat) (cI cB : ClassId) (aH aR aP aM aE aQ aC : Nat → Nat) (sz : Nat) (NN : Nat) (oH : Rc) (oP : Rc) (oE : Rc) (oC : Rc) (p1 : Int32) {ov : Int32} {oH' : Rc} {oC' : Rc} (hf : fX7_quickest NN oH oP oE oC p1 = some (ov, oH', oC')) : zMi l yX7_quickest (Cond.code yX7_quickest cX7_quickest 2 (some .int) :: lw_g) rX7_quickest (dC, dI) [(cI, .int), (cB, .byte)] [.ref (aH 0), .int p1] sz (kX7 cI cB aH (aR 0) (aM 0) (aE 0) (aC 0) (aP 0) oH ++ kX4 cI cB aP oP ++ kX2 cI cB aE (aQ 0) oE ++ kX0 cI cB aC oC) ov (kX7 cI cB aH (aR 0) (aM 0) (aE 0) (aC 0) (aP 0) oH' ++ kX4 cI cB aP oP ++ kX2 cI cB aE (aQ 0) oE ++ kX0 cI cB aC oC') := by
  refine zSt (cc := cX7_quickest) (maxL := 2) (ret := (some .int)) (own := RX7) (fun A => zQi (dC, dI) [(cI, .int), (cB, .byte)] A ov (kX7 cI cB aH (aR 0) (aM 0) (aE 0) (aC 0) (aP 0) oH' ++ kX4 cI cB aP oP ++ kX2 cI cB aE (aQ 0) oE ++ kX0 cI cB aC oC')) (by decide) rfl rfl (Nat.le_of_ble_eq_true rfl) ?_
  intro p e s m below meth c ls A H locs C hK hA hP hD hS hl
  generalize hQ : MQ below (zQi (dC, dI) [(cI, .int), (cB, .byte)] A ov (kX7 cI cB aH (aR 0) (aM 0) (aE 0) (aC 0) (aP 0) oH' ++ kX4 cI cB aP oP ++ kX2 cI cB aE (aQ 0) oE ++ kX0 cI cB aC oC')) _ s 0 0 A = QQ
  generalize ([.ref (aH 0), .int p1] : List Value).toArray = args at C hQ ⊢
  have hl : lv_has ls 2 [(0, .ref (aH 0)), (1, .int p1)] := hl
  unfold fX7_quickest at hf
  refine lv_aload_n C.1.1 C.1.2.1 dX7_quickest_0 rfl (lv_at hl 0 rfl) ?_
  refine lv_aload_n C.1.1 C.1.2.1 dX7_quickest_1 rfl (lv_at hl 0 rfl) ?_
  refine lv_iload_n C.1.1 C.1.2.1 dX7_quickest_2 rfl (lv_at hl 1 rfl) ?_
  refine lv_ldc C.1.1 C.1.2.1 C.1.2.2.2.1 (C.1.2.2.2.2 _ wcX7_165) dX7_quickest_3 ?_
  obtain ⟨v1, hg, hf⟩ := zB1_el hf
  refine zCVi (As := [.int p1, .int (1000000 : Int32)]) (rest := [.ref (aH 0)]) (wr := (kX2 cI cB aE (aQ 0) oE ++ kX0 cI cB aC oC)) (wn := (kX7 cI cB aH (aR 0) (aM 0) (aE 0) (aC 0) (aP 0) oH ++ kX4 cI cB aP oP ++ kX2 cI cB aE (aQ 0) oE ++ kX0 cI cB aC oC)) C.1 hK hA hP hD hS [0, 1, 2, 3, 4, 5, 6, 7, 8, 9, 10, 11] [12, 13, 14, 15, 16, 17, 18, 19, 20, 21, 22, 23, 24, 25, 26] [15, 16, 17, 18, 19, 20, 21, 22, 23, 24, 25, 26, 0, 1, 2, 3, 4, 5, 6, 7, 8, 9, 10, 11, 12, 13, 14] 0 (mtX7_troubleOfAsked l dC dI cI cB aH aR aP aM aE aC H.size oH oP p1 (1000000 : Int32) hg) (zCwV 2 C.1 wlX7_166 wiX7_troubleOfAsked ws_X7_troubleOfAsked wnX7 wkX7_troubleOfAsked rfl rfl (by decide +kernel) ⟨Nat.le_of_ble_eq_true rfl, Nat.le_of_ble_eq_true rfl⟩) rfl rfl (by decide +kernel) rfl rfl rfl rfl hl.1 (Nat.le_of_ble_eq_true rfl) dX7_quickest_5 ⟨Nat.zero_le _, Nat.zero_le _⟩ rfl (fun H locs hP hD hS => ?_)
  obtain ⟨v2, oH_3, hg, hf⟩ := zB2_el hf
  refine zCVi (As := [.int v1]) (rest := []) (wr := (kX4 cI cB aP oP ++ kX2 cI cB aE (aQ 0) oE ++ kX0 cI cB aC oC)) (wn := (kX7 cI cB aH (aR 0) (aM 0) (aE 0) (aC 0) (aP 0) oH_3 ++ kX4 cI cB aP oP ++ kX2 cI cB aE (aQ 0) oE ++ kX0 cI cB aC oC)) C.1 hK hA hP hD hS [0, 1] [2, 3, 4, 5, 6, 7, 8, 9, 10, 11, 12, 13, 14, 15, 16, 17, 18, 19, 20, 21, 22, 23, 24, 25, 26] [25, 26, 0, 1, 2, 3, 4, 5, 6, 7, 8, 9, 10, 11, 12, 13, 14, 15, 16, 17, 18, 19, 20, 21, 22, 23, 24] 0 (mtX7_refused l dC dI cI cB aH aR aP aM aE aC H.size oH v1 hg) (zCwV 1 C.1 wlX7_64 wiX7_refused ws_X7_refused wnX7 wkX7_refused rfl rfl (by decide +kernel) ⟨Nat.le_of_ble_eq_true rfl, Nat.le_of_ble_eq_true rfl⟩) rfl rfl (by decide +kernel) rfl rfl rfl rfl hl.1 (Nat.le_of_ble_eq_true rfl) dX7_quickest_8 ⟨Nat.zero_le _, Nat.zero_le _⟩ rfl (fun H locs hP hD hS => ?_)
  refine lv_if_eq (tgt := 16) C.1.1 C.1.2.1 dX7_quickest_11 (by decide) (fun hc => ?_) (fun hc => ?_)
  · replace hf := zIf_t hf hc
    refine lv_aload_n C.1.1 C.1.2.1 dX7_quickest_16 rfl (lv_at hl 0 rfl) ?_
    refine zGet (.ref (aC 0)) C.1 wuX7 hK hP 0 rfl rfl 3 (by decide) wfX7_33 rfl rfl dX7_quickest_17 ?_
    refine lv_aload_n C.1.1 C.1.2.1 dX7_quickest_20 rfl (lv_at hl 0 rfl) ?_
    refine zGet (.ref (aE 0)) C.1 wuX7 hK hP 0 rfl rfl 2 (by decide) wfX7_26 rfl rfl dX7_quickest_21 ?_
    refine lv_aload_n C.1.1 C.1.2.1 dX7_quickest_24 rfl (lv_at hl 0 rfl) ?_
    refine zGet (.ref (aP 0)) C.1 wuX7 hK hP 0 rfl rfl 6 (by decide) wfX7_48 rfl rfl dX7_quickest_25 ?_
    refine zGet (.int (oP 0 0)) C.1 wuX4 hK hP 2 rfl rfl 0 (by decide) wfX7_98 rfl rfl dX7_quickest_28 ?_
    refine lv_aload_n C.1.1 C.1.2.1 dX7_quickest_31 rfl (lv_at hl 0 rfl) ?_
    refine zGet (.int (oH_3 9 0)) C.1 wuX7 hK hP 0 rfl rfl 9 (by decide) wfX7_58 rfl rfl dX7_quickest_32 ?_
    obtain ⟨oC_4, hg, hf⟩ := zB1_el hf
    refine zCVv (As := [.ref (aE 0), .int (oP 0 0), .int (oH_3 9 0)]) (rest := []) (wr := (kX7 cI cB aH (aR 0) (aM 0) (aE 0) (aC 0) (aP 0) oH_3 ++ kX4 cI cB aP oP)) (wn := (kX7 cI cB aH (aR 0) (aM 0) (aE 0) (aC 0) (aP 0) oH_3 ++ kX4 cI cB aP oP ++ kX2 cI cB aE (aQ 0) oE ++ kX0 cI cB aC oC_4)) C.1 hK hA hP hD hS [12, 13, 14, 15, 16, 17, 18, 19, 20, 21, 22, 23, 24, 25, 26] [0, 1, 2, 3, 4, 5, 6, 7, 8, 9, 10, 11] [0, 1, 2, 3, 4, 5, 6, 7, 8, 9, 10, 11, 12, 13, 14, 15, 16, 17, 18, 19, 20, 21, 22, 23, 24, 25, 26] 9 (mtX0_prepare l dC dI cI cB aE aQ aC H.size NN oE oC (oP 0 0) (oH_3 9 0) hg) (zCwV 3 C.1 wlX7_170 wiX0_prepare ws_X0_prepare wnX0 wkX0_prepare rfl rfl (by decide +kernel) ⟨Nat.le_of_ble_eq_true rfl, Nat.le_of_ble_eq_true rfl⟩) rfl rfl (by decide +kernel) rfl rfl rfl rfl hl.1 (Nat.le_of_ble_eq_true rfl) dX7_quickest_35 ⟨Nat.zero_le _, Nat.zero_le _⟩ rfl (fun H locs hP hD hS => ?_)
    refine lv_aload_n C.1.1 C.1.2.1 dX7_quickest_38 rfl (lv_at hl 0 rfl) ?_
    refine zGet (.ref (aC 0)) C.1 wuX7 hK hP 0 rfl rfl 3 (by decide) wfX7_33 rfl rfl dX7_quickest_39 ?_
    refine lv_iload_n C.1.1 C.1.2.1 dX7_quickest_42 rfl (lv_at hl 1 rfl) ?_
    obtain ⟨v5, hg, hf⟩ := zB1_el hf
    refine zCVi (As := [.int p1]) (rest := []) (wr := (kX7 cI cB aH (aR 0) (aM 0) (aE 0) (aC 0) (aP 0) oH_3 ++ kX4 cI cB aP oP ++ kX2 cI cB aE (aQ 0) oE)) (wn := (kX7 cI cB aH (aR 0) (aM 0) (aE 0) (aC 0) (aP 0) oH_3 ++ kX4 cI cB aP oP ++ kX2 cI cB aE (aQ 0) oE ++ kX0 cI cB aC oC_4)) C.1 hK hA hP hD hS [21, 22, 23, 24, 25, 26] [0, 1, 2, 3, 4, 5, 6, 7, 8, 9, 10, 11, 12, 13, 14, 15, 16, 17, 18, 19, 20] [0, 1, 2, 3, 4, 5, 6, 7, 8, 9, 10, 11, 12, 13, 14, 15, 16, 17, 18, 19, 20, 21, 22, 23, 24, 25, 26] 0 (mtX0_quickestWithin l dC dI cI cB aC H.size NN oC_4 p1 hg) (zCwV 1 C.1 wlX7_173 wiX0_quickestWithin ws_X0_quickestWithin wnX0 wkX0_quickestWithin rfl rfl (by decide +kernel) ⟨Nat.le_of_ble_eq_true rfl, Nat.le_of_ble_eq_true rfl⟩) rfl rfl (by decide +kernel) rfl rfl rfl rfl hl.1 (Nat.le_of_ble_eq_true rfl) dX7_quickest_43 ⟨Nat.zero_le _, Nat.zero_le _⟩ rfl (fun H locs hP hD hS => ?_)
    cases hf
    rw [← hQ]
    exact zRi C hK hP hD hS dX7_quickest_46
  · replace hf := zIf_f hf hc
    refine lv_iconst (v := (-1)) C.1.1 C.1.2.1 dX7_quickest_14 (by decide) ?_
    cases hf
    rw [← hQ]
    exact zRi C hK hP hD hS dX7_quickest_15
def fX7_fewest (NN : Nat) (oH : Rc) (oP : Rc) (oE : Rc) (oC : Rc) (p1 : Int32) : Option (Int32 × Rc × Rc) :=
  zB1 (fX7_troubleOfAsked oP p1 (2147483647 : Int32)) fun v1 =>
  zB2 (fX7_refused oH v1) fun v2 oH_3 =>
  if v2 = 0 then (
    zB1 (fX0_prepare NN oE oC (oP 0 0) (oH_3 9 0)) fun oC_4 =>
    zB1 (fX0_fewestGatesWithin NN oC_4 p1) fun v5 =>
    some (v5, oH_3, oC_4)
  ) else (
    some ((-1 : Int32), oH_3, oC)
  )
abbrev rX7_fewest : Room := { frames := 5, cells := 0, slots := 0, locals := 123 }
set_option maxHeartbeats 4000000 in
set_option maxRecDepth 100000 in
theorem mtX7_fewest (l : Launch) (dC : Nat → ClassId) (dI : Nat → Nat → Nat) (cI cB : ClassId) (aH aR aP aM aE aQ aC : Nat → Nat) (sz : Nat) (NN : Nat) (oH : Rc) (oP : Rc) (oE : Rc) (oC : Rc) (p1 : Int32) {ov : Int32} {oH' : Rc} {oC' : Rc} (hf : fX7_fewest NN oH oP oE oC p1 = some (ov, oH', oC')) : zMi l yX7_fewest (Cond.code yX7_fewest cX7_fewest 2 (some .int) :: lw_g) rX7_fewest (dC, dI) [(cI, .int), (cB, .byte)] [.ref (aH 0), .int p1] sz (kX7 cI cB aH (aR 0) (aM 0) (aE 0) (aC 0) (aP 0) oH ++ kX4 cI cB aP oP ++ kX2 cI cB aE (aQ 0) oE ++ kX0 cI cB aC oC) ov (kX7 cI cB aH (aR 0) (aM 0) (aE 0) (aC 0) (aP 0) oH' ++ kX4 cI cB aP oP ++ kX2 cI cB aE (aQ 0) oE ++ kX0 cI cB aC oC') := by
  refine zSt (cc := cX7_fewest) (maxL := 2) (ret := (some .int)) (own := RX7) (fun A => zQi (dC, dI) [(cI, .int), (cB, .byte)] A ov (kX7 cI cB aH (aR 0) (aM 0) (aE 0) (aC 0) (aP 0) oH' ++ kX4 cI cB aP oP ++ kX2 cI cB aE (aQ 0) oE ++ kX0 cI cB aC oC')) (by decide) rfl rfl (Nat.le_of_ble_eq_true rfl) ?_
  intro p e s m below meth c ls A H locs C hK hA hP hD hS hl
  generalize hQ : MQ below (zQi (dC, dI) [(cI, .int), (cB, .byte)] A ov (kX7 cI cB aH (aR 0) (aM 0) (aE 0) (aC 0) (aP 0) oH' ++ kX4 cI cB aP oP ++ kX2 cI cB aE (aQ 0) oE ++ kX0 cI cB aC oC')) _ s 0 0 A = QQ
  generalize ([.ref (aH 0), .int p1] : List Value).toArray = args at C hQ ⊢
  have hl : lv_has ls 2 [(0, .ref (aH 0)), (1, .int p1)] := hl
  unfold fX7_fewest at hf
  refine lv_aload_n C.1.1 C.1.2.1 dX7_fewest_0 rfl (lv_at hl 0 rfl) ?_
  refine lv_aload_n C.1.1 C.1.2.1 dX7_fewest_1 rfl (lv_at hl 0 rfl) ?_
  refine lv_iload_n C.1.1 C.1.2.1 dX7_fewest_2 rfl (lv_at hl 1 rfl) ?_
  refine lv_ldc C.1.1 C.1.2.1 C.1.2.2.2.1 (C.1.2.2.2.2 _ wcX7_176) dX7_fewest_3 ?_
  obtain ⟨v1, hg, hf⟩ := zB1_el hf
  refine zCVi (As := [.int p1, .int (2147483647 : Int32)]) (rest := [.ref (aH 0)]) (wr := (kX2 cI cB aE (aQ 0) oE ++ kX0 cI cB aC oC)) (wn := (kX7 cI cB aH (aR 0) (aM 0) (aE 0) (aC 0) (aP 0) oH ++ kX4 cI cB aP oP ++ kX2 cI cB aE (aQ 0) oE ++ kX0 cI cB aC oC)) C.1 hK hA hP hD hS [0, 1, 2, 3, 4, 5, 6, 7, 8, 9, 10, 11] [12, 13, 14, 15, 16, 17, 18, 19, 20, 21, 22, 23, 24, 25, 26] [15, 16, 17, 18, 19, 20, 21, 22, 23, 24, 25, 26, 0, 1, 2, 3, 4, 5, 6, 7, 8, 9, 10, 11, 12, 13, 14] 0 (mtX7_troubleOfAsked l dC dI cI cB aH aR aP aM aE aC H.size oH oP p1 (2147483647 : Int32) hg) (zCwV 2 C.1 wlX7_166 wiX7_troubleOfAsked ws_X7_troubleOfAsked wnX7 wkX7_troubleOfAsked rfl rfl (by decide +kernel) ⟨Nat.le_of_ble_eq_true rfl, Nat.le_of_ble_eq_true rfl⟩) rfl rfl (by decide +kernel) rfl rfl rfl rfl hl.1 (Nat.le_of_ble_eq_true rfl) dX7_fewest_5 ⟨Nat.zero_le _, Nat.zero_le _⟩ rfl (fun H locs hP hD hS => ?_)
  obtain ⟨v2, oH_3, hg, hf⟩ := zB2_el hf
  refine zCVi (As := [.int v1]) (rest := []) (wr := (kX4 cI cB aP oP ++ kX2 cI cB aE (aQ 0) oE ++ kX0 cI cB aC oC)) (wn := (kX7 cI cB aH (aR 0) (aM 0) (aE 0) (aC 0) (aP 0) oH_3 ++ kX4 cI cB aP oP ++ kX2 cI cB aE (aQ 0) oE ++ kX0 cI cB aC oC)) C.1 hK hA hP hD hS [0, 1] [2, 3, 4, 5, 6, 7, 8, 9, 10, 11, 12, 13, 14, 15, 16, 17, 18, 19, 20, 21, 22, 23, 24, 25, 26] [25, 26, 0, 1, 2, 3, 4, 5, 6, 7, 8, 9, 10, 11, 12, 13, 14, 15, 16, 17, 18, 19, 20, 21, 22, 23, 24] 0 (mtX7_refused l dC dI cI cB aH aR aP aM aE aC H.size oH v1 hg) (zCwV 1 C.1 wlX7_64 wiX7_refused ws_X7_refused wnX7 wkX7_refused rfl rfl (by decide +kernel) ⟨Nat.le_of_ble_eq_true rfl, Nat.le_of_ble_eq_true rfl⟩) rfl rfl (by decide +kernel) rfl rfl rfl rfl hl.1 (Nat.le_of_ble_eq_true rfl) dX7_fewest_8 ⟨Nat.zero_le _, Nat.zero_le _⟩ rfl (fun H locs hP hD hS => ?_)
  refine lv_if_eq (tgt := 16) C.1.1 C.1.2.1 dX7_fewest_11 (by decide) (fun hc => ?_) (fun hc => ?_)
  · replace hf := zIf_t hf hc
    refine lv_aload_n C.1.1 C.1.2.1 dX7_fewest_16 rfl (lv_at hl 0 rfl) ?_
    refine zGet (.ref (aC 0)) C.1 wuX7 hK hP 0 rfl rfl 3 (by decide) wfX7_33 rfl rfl dX7_fewest_17 ?_
    refine lv_aload_n C.1.1 C.1.2.1 dX7_fewest_20 rfl (lv_at hl 0 rfl) ?_
    refine zGet (.ref (aE 0)) C.1 wuX7 hK hP 0 rfl rfl 2 (by decide) wfX7_26 rfl rfl dX7_fewest_21 ?_
    refine lv_aload_n C.1.1 C.1.2.1 dX7_fewest_24 rfl (lv_at hl 0 rfl) ?_
    refine zGet (.ref (aP 0)) C.1 wuX7 hK hP 0 rfl rfl 6 (by decide) wfX7_48 rfl rfl dX7_fewest_25 ?_
    refine zGet (.int (oP 0 0)) C.1 wuX4 hK hP 2 rfl rfl 0 (by decide) wfX7_98 rfl rfl dX7_fewest_28 ?_
    refine lv_aload_n C.1.1 C.1.2.1 dX7_fewest_31 rfl (lv_at hl 0 rfl) ?_
    refine zGet (.int (oH_3 9 0)) C.1 wuX7 hK hP 0 rfl rfl 9 (by decide) wfX7_58 rfl rfl dX7_fewest_32 ?_
    obtain ⟨oC_4, hg, hf⟩ := zB1_el hf
    refine zCVv (As := [.ref (aE 0), .int (oP 0 0), .int (oH_3 9 0)]) (rest := []) (wr := (kX7 cI cB aH (aR 0) (aM 0) (aE 0) (aC 0) (aP 0) oH_3 ++ kX4 cI cB aP oP)) (wn := (kX7 cI cB aH (aR 0) (aM 0) (aE 0) (aC 0) (aP 0) oH_3 ++ kX4 cI cB aP oP ++ kX2 cI cB aE (aQ 0) oE ++ kX0 cI cB aC oC_4)) C.1 hK hA hP hD hS [12, 13, 14, 15, 16, 17, 18, 19, 20, 21, 22, 23, 24, 25, 26] [0, 1, 2, 3, 4, 5, 6, 7, 8, 9, 10, 11] [0, 1, 2, 3, 4, 5, 6, 7, 8, 9, 10, 11, 12, 13, 14, 15, 16, 17, 18, 19, 20, 21, 22, 23, 24, 25, 26] 9 (mtX0_prepare l dC dI cI cB aE aQ aC H.size NN oE oC (oP 0 0) (oH_3 9 0) hg) (zCwV 3 C.1 wlX7_170 wiX0_prepare ws_X0_prepare wnX0 wkX0_prepare rfl rfl (by decide +kernel) ⟨Nat.le_of_ble_eq_true rfl, Nat.le_of_ble_eq_true rfl⟩) rfl rfl (by decide +kernel) rfl rfl rfl rfl hl.1 (Nat.le_of_ble_eq_true rfl) dX7_fewest_35 ⟨Nat.zero_le _, Nat.zero_le _⟩ rfl (fun H locs hP hD hS => ?_)
    refine lv_aload_n C.1.1 C.1.2.1 dX7_fewest_38 rfl (lv_at hl 0 rfl) ?_
    refine zGet (.ref (aC 0)) C.1 wuX7 hK hP 0 rfl rfl 3 (by decide) wfX7_33 rfl rfl dX7_fewest_39 ?_
    refine lv_iload_n C.1.1 C.1.2.1 dX7_fewest_42 rfl (lv_at hl 1 rfl) ?_
    obtain ⟨v5, hg, hf⟩ := zB1_el hf
    refine zCVi (As := [.int p1]) (rest := []) (wr := (kX7 cI cB aH (aR 0) (aM 0) (aE 0) (aC 0) (aP 0) oH_3 ++ kX4 cI cB aP oP ++ kX2 cI cB aE (aQ 0) oE)) (wn := (kX7 cI cB aH (aR 0) (aM 0) (aE 0) (aC 0) (aP 0) oH_3 ++ kX4 cI cB aP oP ++ kX2 cI cB aE (aQ 0) oE ++ kX0 cI cB aC oC_4)) C.1 hK hA hP hD hS [21, 22, 23, 24, 25, 26] [0, 1, 2, 3, 4, 5, 6, 7, 8, 9, 10, 11, 12, 13, 14, 15, 16, 17, 18, 19, 20] [0, 1, 2, 3, 4, 5, 6, 7, 8, 9, 10, 11, 12, 13, 14, 15, 16, 17, 18, 19, 20, 21, 22, 23, 24, 25, 26] 0 (mtX0_fewestGatesWithin l dC dI cI cB aC H.size NN oC_4 p1 hg) (zCwV 1 C.1 wlX7_177 wiX0_fewestGatesWithin ws_X0_fewestGatesWithin wnX0 wkX0_fewestGatesWithin rfl rfl (by decide +kernel) ⟨Nat.le_of_ble_eq_true rfl, Nat.le_of_ble_eq_true rfl⟩) rfl rfl (by decide +kernel) rfl rfl rfl rfl hl.1 (Nat.le_of_ble_eq_true rfl) dX7_fewest_43 ⟨Nat.zero_le _, Nat.zero_le _⟩ rfl (fun H locs hP hD hS => ?_)
    cases hf
    rw [← hQ]
    exact zRi C hK hP hD hS dX7_fewest_46
  · replace hf := zIf_f hf hc
    refine lv_iconst (v := (-1)) C.1.1 C.1.2.1 dX7_fewest_14 (by decide) ?_
    cases hf
    rw [← hQ]
    exact zRi C hK hP hD hS dX7_fewest_15
def fX7_troubleOfBlock (oP : Rc) (p1 : Int32) : Option (Int32) :=
  zB1 (fX7_hasProgram oP) fun v1 =>
  if v1 = 0 then (
    some (4 : Int32)
  ) else (
    zB1 (fX7_isBlock oP p1) fun v2 =>
    if v2 = 0 then (
      some (1 : Int32)
    ) else (
      some (0 : Int32)
    )
  )
abbrev rX7_troubleOfBlock : Room := { frames := 1, cells := 0, slots := 0, locals := 21 }
set_option maxHeartbeats 4000000 in
set_option maxRecDepth 100000 in
theorem mtX7_troubleOfBlock (l : Launch) (dC : Nat → ClassId) (dI : Nat → Nat → Nat) (cI cB : ClassId) (aH aR aP aM aE aC : Nat → Nat) (sz : Nat) (oH : Rc) (oP : Rc) (p1 : Int32) {ov : Int32} (hf : fX7_troubleOfBlock oP p1 = some ov) : zMi l yX7_troubleOfBlock (Cond.code yX7_troubleOfBlock cX7_troubleOfBlock 2 (some .int) :: lw_g) rX7_troubleOfBlock (dC, dI) [(cI, .int), (cB, .byte)] [.ref (aH 0), .int p1] sz (kX7 cI cB aH (aR 0) (aM 0) (aE 0) (aC 0) (aP 0) oH ++ kX4 cI cB aP oP) ov (kX7 cI cB aH (aR 0) (aM 0) (aE 0) (aC 0) (aP 0) oH ++ kX4 cI cB aP oP) := by
  refine zSt (cc := cX7_troubleOfBlock) (maxL := 2) (ret := (some .int)) (own := RX7) (fun A => zQi (dC, dI) [(cI, .int), (cB, .byte)] A ov (kX7 cI cB aH (aR 0) (aM 0) (aE 0) (aC 0) (aP 0) oH ++ kX4 cI cB aP oP)) (by decide) rfl rfl (Nat.le_of_ble_eq_true rfl) ?_
  intro p e s m below meth c ls A H locs C hK hA hP hD hS hl
  generalize hQ : MQ below (zQi (dC, dI) [(cI, .int), (cB, .byte)] A ov (kX7 cI cB aH (aR 0) (aM 0) (aE 0) (aC 0) (aP 0) oH ++ kX4 cI cB aP oP)) _ s 0 0 A = QQ
  generalize ([.ref (aH 0), .int p1] : List Value).toArray = args at C hQ ⊢
  have hl : lv_has ls 2 [(0, .ref (aH 0)), (1, .int p1)] := hl
  unfold fX7_troubleOfBlock at hf
  refine lv_aload_n C.1.1 C.1.2.1 dX7_troubleOfBlock_0 rfl (lv_at hl 0 rfl) ?_
  obtain ⟨v1, hg, hf⟩ := zB1_el hf
  refine zCVi (As := []) (rest := []) (wr := ([] : va_W)) (wn := (kX7 cI cB aH (aR 0) (aM 0) (aE 0) (aC 0) (aP 0) oH ++ kX4 cI cB aP oP)) C.1 hK hA hP hD hS [0, 1, 2, 3, 4, 5, 6, 7, 8, 9, 10, 11] [] [0, 1, 2, 3, 4, 5, 6, 7, 8, 9, 10, 11] 0 (mtX7_hasProgram l dC dI cI cB aH aR aP aM aE aC H.size oH oP hg) (zCwV 0 C.1 wlX7_184 wiX7_hasProgram ws_X7_hasProgram wnX7 wkX7_hasProgram rfl rfl (by decide +kernel) ⟨Nat.le_of_ble_eq_true rfl, Nat.le_of_ble_eq_true rfl⟩) rfl rfl (by decide +kernel) rfl rfl rfl rfl hl.1 (Nat.le_of_ble_eq_true rfl) dX7_troubleOfBlock_1 ⟨Nat.zero_le _, Nat.zero_le _⟩ rfl (fun H locs hP hD hS => ?_)
  refine lv_if_ne (tgt := 9) C.1.1 C.1.2.1 dX7_troubleOfBlock_4 (by decide) (fun hc => ?_) (fun hc => ?_)
  · replace hf := zIf_f hf hc
    refine lv_aload_n C.1.1 C.1.2.1 dX7_troubleOfBlock_9 rfl (lv_at hl 0 rfl) ?_
    refine lv_iload_n C.1.1 C.1.2.1 dX7_troubleOfBlock_10 rfl (lv_at hl 1 rfl) ?_
    obtain ⟨v2, hg, hf⟩ := zB1_el hf
    refine zCVi (As := [.int p1]) (rest := []) (wr := ([] : va_W)) (wn := (kX7 cI cB aH (aR 0) (aM 0) (aE 0) (aC 0) (aP 0) oH ++ kX4 cI cB aP oP)) C.1 hK hA hP hD hS [0, 1, 2, 3, 4, 5, 6, 7, 8, 9, 10, 11] [] [0, 1, 2, 3, 4, 5, 6, 7, 8, 9, 10, 11] 0 (mtX7_isBlock l dC dI cI cB aH aR aP aM aE aC H.size oH oP p1 hg) (zCwV 1 C.1 wlX7_113 wiX7_isBlock ws_X7_isBlock wnX7 wkX7_isBlock rfl rfl (by decide +kernel) ⟨Nat.le_of_ble_eq_true rfl, Nat.le_of_ble_eq_true rfl⟩) rfl rfl (by decide +kernel) rfl rfl rfl rfl hl.1 (Nat.le_of_ble_eq_true rfl) dX7_troubleOfBlock_11 ⟨Nat.zero_le _, Nat.zero_le _⟩ rfl (fun H locs hP hD hS => ?_)
    refine lv_if_eq (tgt := 21) C.1.1 C.1.2.1 dX7_troubleOfBlock_14 (by decide) (fun hc => ?_) (fun hc => ?_)
    · replace hf := zIf_t hf hc
      refine lv_iconst (v := 1) C.1.1 C.1.2.1 dX7_troubleOfBlock_21 (by decide) ?_
      cases hf
      rw [← hQ]
      exact zRi C hK hP hD hS dX7_troubleOfBlock_22
    · replace hf := zIf_f hf hc
      refine lv_iconst (v := 0) C.1.1 C.1.2.1 dX7_troubleOfBlock_17 (by decide) ?_
      refine lv_goto (tgt := 22) C.1.1 C.1.2.1 dX7_troubleOfBlock_18 (by decide) ?_
      cases hf
      rw [← hQ]
      exact zRi C hK hP hD hS dX7_troubleOfBlock_22
  · replace hf := zIf_t hf hc
    refine lv_iconst (v := 4) C.1.1 C.1.2.1 dX7_troubleOfBlock_7 (by decide) ?_
    cases hf
    rw [← hQ]
    exact zRi C hK hP hD hS dX7_troubleOfBlock_8
def fX7_turn (NN : Nat) (oH : Rc) (oP : Rc) (oE : Rc) (oC : Rc) (p1 : Int32) (p2 : Int32) : Option (Int32 × Rc × Rc) :=
  zB1 (fX7_troubleOfCut oP p1) fun v1 =>
  zB2 (fX7_refused oH v1) fun v2 oH_3 =>
  if v2 = 0 then (
    zB1 (fX7_troubleOfBlock oP p2) fun v4 =>
    zB2 (fX7_refused oH_3 v4) fun v5 oH_6 =>
    if v5 = 0 then (
      zB2 (fX7_ticksOf NN oH_6 oP oE oC (p1 ^^^ ((1 : Int32) <<< (p2 &&& 31)))) fun v7 oC_8 =>
      zB2 (fX7_ticksOf NN oH_6 oP oE oC_8 p1) fun v9 oC_10 =>
      some ((v7 - v9), oH_6, oC_10)
    ) else (
      some ((-2147483648 : Int32), oH_6, oC)
    )
  ) else (
    some ((-2147483648 : Int32), oH_3, oC)
  )
abbrev rX7_turn : Room := { frames := 4, cells := 0, slots := 0, locals := 99 }
set_option maxHeartbeats 4000000 in
set_option maxRecDepth 100000 in
theorem mtX7_turn (l : Launch) (dC : Nat → ClassId) (dI : Nat → Nat → Nat) (cI cB : ClassId) (aH aR aP aM aE aQ aC : Nat → Nat) (sz : Nat) (NN : Nat) (oH : Rc) (oP : Rc) (oE : Rc) (oC : Rc) (p1 : Int32) (p2 : Int32) {ov : Int32} {oH' : Rc} {oC' : Rc} (hf : fX7_turn NN oH oP oE oC p1 p2 = some (ov, oH', oC')) : zMi l yX7_turn (Cond.code yX7_turn cX7_turn 3 (some .int) :: lw_g) rX7_turn (dC, dI) [(cI, .int), (cB, .byte)] [.ref (aH 0), .int p1, .int p2] sz (kX7 cI cB aH (aR 0) (aM 0) (aE 0) (aC 0) (aP 0) oH ++ kX4 cI cB aP oP ++ kX2 cI cB aE (aQ 0) oE ++ kX0 cI cB aC oC) ov (kX7 cI cB aH (aR 0) (aM 0) (aE 0) (aC 0) (aP 0) oH' ++ kX4 cI cB aP oP ++ kX2 cI cB aE (aQ 0) oE ++ kX0 cI cB aC oC') := by
  refine zSt (cc := cX7_turn) (maxL := 3) (ret := (some .int)) (own := RX7) (fun A => zQi (dC, dI) [(cI, .int), (cB, .byte)] A ov (kX7 cI cB aH (aR 0) (aM 0) (aE 0) (aC 0) (aP 0) oH' ++ kX4 cI cB aP oP ++ kX2 cI cB aE (aQ 0) oE ++ kX0 cI cB aC oC')) (by decide) rfl rfl (Nat.le_of_ble_eq_true rfl) ?_
  intro p e s m below meth c ls A H locs C hK hA hP hD hS hl
  generalize hQ : MQ below (zQi (dC, dI) [(cI, .int), (cB, .byte)] A ov (kX7 cI cB aH (aR 0) (aM 0) (aE 0) (aC 0) (aP 0) oH' ++ kX4 cI cB aP oP ++ kX2 cI cB aE (aQ 0) oE ++ kX0 cI cB aC oC')) _ s 0 0 A = QQ
  generalize ([.ref (aH 0), .int p1, .int p2] : List Value).toArray = args at C hQ ⊢
  have hl : lv_has ls 3 [(0, .ref (aH 0)), (1, .int p1), (2, .int p2)] := hl
  unfold fX7_turn at hf
  refine lv_aload_n C.1.1 C.1.2.1 dX7_turn_0 rfl (lv_at hl 0 rfl) ?_
  refine lv_aload_n C.1.1 C.1.2.1 dX7_turn_1 rfl (lv_at hl 0 rfl) ?_
  refine lv_iload_n C.1.1 C.1.2.1 dX7_turn_2 rfl (lv_at hl 1 rfl) ?_
  obtain ⟨v1, hg, hf⟩ := zB1_el hf
  refine zCVi (As := [.int p1]) (rest := [.ref (aH 0)]) (wr := (kX2 cI cB aE (aQ 0) oE ++ kX0 cI cB aC oC)) (wn := (kX7 cI cB aH (aR 0) (aM 0) (aE 0) (aC 0) (aP 0) oH ++ kX4 cI cB aP oP ++ kX2 cI cB aE (aQ 0) oE ++ kX0 cI cB aC oC)) C.1 hK hA hP hD hS [0, 1, 2, 3, 4, 5, 6, 7, 8, 9, 10, 11] [12, 13, 14, 15, 16, 17, 18, 19, 20, 21, 22, 23, 24, 25, 26] [15, 16, 17, 18, 19, 20, 21, 22, 23, 24, 25, 26, 0, 1, 2, 3, 4, 5, 6, 7, 8, 9, 10, 11, 12, 13, 14] 0 (mtX7_troubleOfCut l dC dI cI cB aH aR aP aM aE aC H.size oH oP p1 hg) (zCwV 1 C.1 wlX7_144 wiX7_troubleOfCut ws_X7_troubleOfCut wnX7 wkX7_troubleOfCut rfl rfl (by decide +kernel) ⟨Nat.le_of_ble_eq_true rfl, Nat.le_of_ble_eq_true rfl⟩) rfl rfl (by decide +kernel) rfl rfl rfl rfl hl.1 (Nat.le_of_ble_eq_true rfl) dX7_turn_3 ⟨Nat.zero_le _, Nat.zero_le _⟩ rfl (fun H locs hP hD hS => ?_)
  obtain ⟨v2, oH_3, hg, hf⟩ := zB2_el hf
  refine zCVi (As := [.int v1]) (rest := []) (wr := (kX4 cI cB aP oP ++ kX2 cI cB aE (aQ 0) oE ++ kX0 cI cB aC oC)) (wn := (kX7 cI cB aH (aR 0) (aM 0) (aE 0) (aC 0) (aP 0) oH_3 ++ kX4 cI cB aP oP ++ kX2 cI cB aE (aQ 0) oE ++ kX0 cI cB aC oC)) C.1 hK hA hP hD hS [0, 1] [2, 3, 4, 5, 6, 7, 8, 9, 10, 11, 12, 13, 14, 15, 16, 17, 18, 19, 20, 21, 22, 23, 24, 25, 26] [25, 26, 0, 1, 2, 3, 4, 5, 6, 7, 8, 9, 10, 11, 12, 13, 14, 15, 16, 17, 18, 19, 20, 21, 22, 23, 24] 0 (mtX7_refused l dC dI cI cB aH aR aP aM aE aC H.size oH v1 hg) (zCwV 1 C.1 wlX7_64 wiX7_refused ws_X7_refused wnX7 wkX7_refused rfl rfl (by decide +kernel) ⟨Nat.le_of_ble_eq_true rfl, Nat.le_of_ble_eq_true rfl⟩) rfl rfl (by decide +kernel) rfl rfl rfl rfl hl.1 (Nat.le_of_ble_eq_true rfl) dX7_turn_6 ⟨Nat.zero_le _, Nat.zero_le _⟩ rfl (fun H locs hP hD hS => ?_)
  refine lv_if_eq (tgt := 15) C.1.1 C.1.2.1 dX7_turn_9 (by decide) (fun hc => ?_) (fun hc => ?_)
  · replace hf := zIf_t hf hc
    refine lv_aload_n C.1.1 C.1.2.1 dX7_turn_15 rfl (lv_at hl 0 rfl) ?_
    refine lv_aload_n C.1.1 C.1.2.1 dX7_turn_16 rfl (lv_at hl 0 rfl) ?_
    refine lv_iload_n C.1.1 C.1.2.1 dX7_turn_17 rfl (lv_at hl 2 rfl) ?_
    obtain ⟨v4, hg, hf⟩ := zB1_el hf
    refine zCVi (As := [.int p2]) (rest := [.ref (aH 0)]) (wr := (kX2 cI cB aE (aQ 0) oE ++ kX0 cI cB aC oC)) (wn := (kX7 cI cB aH (aR 0) (aM 0) (aE 0) (aC 0) (aP 0) oH_3 ++ kX4 cI cB aP oP ++ kX2 cI cB aE (aQ 0) oE ++ kX0 cI cB aC oC)) C.1 hK hA hP hD hS [0, 1, 2, 3, 4, 5, 6, 7, 8, 9, 10, 11] [12, 13, 14, 15, 16, 17, 18, 19, 20, 21, 22, 23, 24, 25, 26] [15, 16, 17, 18, 19, 20, 21, 22, 23, 24, 25, 26, 0, 1, 2, 3, 4, 5, 6, 7, 8, 9, 10, 11, 12, 13, 14] 0 (mtX7_troubleOfBlock l dC dI cI cB aH aR aP aM aE aC H.size oH_3 oP p2 hg) (zCwV 1 C.1 wlX7_181 wiX7_troubleOfBlock ws_X7_troubleOfBlock wnX7 wkX7_troubleOfBlock rfl rfl (by decide +kernel) ⟨Nat.le_of_ble_eq_true rfl, Nat.le_of_ble_eq_true rfl⟩) rfl rfl (by decide +kernel) rfl rfl rfl rfl hl.1 (Nat.le_of_ble_eq_true rfl) dX7_turn_18 ⟨Nat.zero_le _, Nat.zero_le _⟩ rfl (fun H locs hP hD hS => ?_)
    obtain ⟨v5, oH_6, hg, hf⟩ := zB2_el hf
    refine zCVi (As := [.int v4]) (rest := []) (wr := (kX4 cI cB aP oP ++ kX2 cI cB aE (aQ 0) oE ++ kX0 cI cB aC oC)) (wn := (kX7 cI cB aH (aR 0) (aM 0) (aE 0) (aC 0) (aP 0) oH_6 ++ kX4 cI cB aP oP ++ kX2 cI cB aE (aQ 0) oE ++ kX0 cI cB aC oC)) C.1 hK hA hP hD hS [0, 1] [2, 3, 4, 5, 6, 7, 8, 9, 10, 11, 12, 13, 14, 15, 16, 17, 18, 19, 20, 21, 22, 23, 24, 25, 26] [25, 26, 0, 1, 2, 3, 4, 5, 6, 7, 8, 9, 10, 11, 12, 13, 14, 15, 16, 17, 18, 19, 20, 21, 22, 23, 24] 0 (mtX7_refused l dC dI cI cB aH aR aP aM aE aC H.size oH_3 v4 hg) (zCwV 1 C.1 wlX7_64 wiX7_refused ws_X7_refused wnX7 wkX7_refused rfl rfl (by decide +kernel) ⟨Nat.le_of_ble_eq_true rfl, Nat.le_of_ble_eq_true rfl⟩) rfl rfl (by decide +kernel) rfl rfl rfl rfl hl.1 (Nat.le_of_ble_eq_true rfl) dX7_turn_21 ⟨Nat.zero_le _, Nat.zero_le _⟩ rfl (fun H locs hP hD hS => ?_)
    refine lv_if_eq (tgt := 30) C.1.1 C.1.2.1 dX7_turn_24 (by decide) (fun hc => ?_) (fun hc => ?_)
    · replace hf := zIf_t hf hc
      refine lv_aload_n C.1.1 C.1.2.1 dX7_turn_30 rfl (lv_at hl 0 rfl) ?_
      refine lv_iload_n C.1.1 C.1.2.1 dX7_turn_31 rfl (lv_at hl 1 rfl) ?_
      refine lv_iconst (v := 1) C.1.1 C.1.2.1 dX7_turn_32 (by decide) ?_
      refine lv_iload_n C.1.1 C.1.2.1 dX7_turn_33 rfl (lv_at hl 2 rfl) ?_
      refine lv_ishl C.1.1 C.1.2.1 dX7_turn_34 ?_
      refine lv_ixor C.1.1 C.1.2.1 dX7_turn_35 ?_
      obtain ⟨v7, oC_8, hg, hf⟩ := zB2_el hf
      refine zCVi (As := [.int (p1 ^^^ ((1 : Int32) <<< (p2 &&& 31)))]) (rest := []) (wr := ([] : va_W)) (wn := (kX7 cI cB aH (aR 0) (aM 0) (aE 0) (aC 0) (aP 0) oH_6 ++ kX4 cI cB aP oP ++ kX2 cI cB aE (aQ 0) oE ++ kX0 cI cB aC oC_8)) C.1 hK hA hP hD hS [0, 1, 2, 3, 4, 5, 6, 7, 8, 9, 10, 11, 12, 13, 14, 15, 16, 17, 18, 19, 20, 21, 22, 23, 24, 25, 26] [] [0, 1, 2, 3, 4, 5, 6, 7, 8, 9, 10, 11, 12, 13, 14, 15, 16, 17, 18, 19, 20, 21, 22, 23, 24, 25, 26] 0 (mtX7_ticksOf l dC dI cI cB aH aR aP aM aE aQ aC H.size NN oH_6 oP oE oC (p1 ^^^ ((1 : Int32) <<< (p2 &&& 31))) hg) (zCwV 1 C.1 wlX7_147 wiX7_ticksOf ws_X7_ticksOf wnX7 wkX7_ticksOf rfl rfl (by decide +kernel) ⟨Nat.le_of_ble_eq_true rfl, Nat.le_of_ble_eq_true rfl⟩) rfl rfl (by decide +kernel) rfl rfl rfl rfl hl.1 (Nat.le_of_ble_eq_true rfl) dX7_turn_36 ⟨Nat.zero_le _, Nat.zero_le _⟩ rfl (fun H locs hP hD hS => ?_)
      refine lv_aload_n C.1.1 C.1.2.1 dX7_turn_39 rfl (lv_at hl 0 rfl) ?_
      refine lv_iload_n C.1.1 C.1.2.1 dX7_turn_40 rfl (lv_at hl 1 rfl) ?_
      obtain ⟨v9, oC_10, hg, hf⟩ := zB2_el hf
      refine zCVi (As := [.int p1]) (rest := [.int v7]) (wr := ([] : va_W)) (wn := (kX7 cI cB aH (aR 0) (aM 0) (aE 0) (aC 0) (aP 0) oH_6 ++ kX4 cI cB aP oP ++ kX2 cI cB aE (aQ 0) oE ++ kX0 cI cB aC oC_10)) C.1 hK hA hP hD hS [0, 1, 2, 3, 4, 5, 6, 7, 8, 9, 10, 11, 12, 13, 14, 15, 16, 17, 18, 19, 20, 21, 22, 23, 24, 25, 26] [] [0, 1, 2, 3, 4, 5, 6, 7, 8, 9, 10, 11, 12, 13, 14, 15, 16, 17, 18, 19, 20, 21, 22, 23, 24, 25, 26] 0 (mtX7_ticksOf l dC dI cI cB aH aR aP aM aE aQ aC H.size NN oH_6 oP oE oC_8 p1 hg) (zCwV 1 C.1 wlX7_147 wiX7_ticksOf ws_X7_ticksOf wnX7 wkX7_ticksOf rfl rfl (by decide +kernel) ⟨Nat.le_of_ble_eq_true rfl, Nat.le_of_ble_eq_true rfl⟩) rfl rfl (by decide +kernel) rfl rfl rfl rfl hl.1 (Nat.le_of_ble_eq_true rfl) dX7_turn_41 ⟨Nat.zero_le _, Nat.zero_le _⟩ rfl (fun H locs hP hD hS => ?_)
      refine lv_isub C.1.1 C.1.2.1 dX7_turn_44 ?_
      cases hf
      rw [← hQ]
      exact zRi C hK hP hD hS dX7_turn_45
    · replace hf := zIf_f hf hc
      refine lv_ldc C.1.1 C.1.2.1 C.1.2.2.2.1 (C.1.2.2.2.2 _ wcX7_180) dX7_turn_27 ?_
      cases hf
      rw [← hQ]
      exact zRi C hK hP hD hS dX7_turn_29
  · replace hf := zIf_f hf hc
    refine lv_ldc C.1.1 C.1.2.1 C.1.2.2.2.1 (C.1.2.2.2.2 _ wcX7_180) dX7_turn_12 ?_
    cases hf
    rw [← hQ]
    exact zRi C hK hP hD hS dX7_turn_14
def fX7_edges (NN : Nat) (oH : Rc) (oP : Rc) (oE : Rc) (oC : Rc) : Option (Int32 × Rc × Rc) :=
  zB1 (fX7_hasProgram oP) fun v1 =>
  zJn (fun (t2 : Int32) =>
      zB2 (fX7_refused oH t2) fun v4 oH_5 =>
      if v4 = 0 then (
        zB1 (fX0_prepare NN oE oC (oP 0 0) (oH_5 9 0)) fun oC_6 =>
        zGd ((¬ (0 : Int32) < 0) ∧ (¬ (0 : Int32) < 0) ∧ (¬ (oC_6 7 0) < 0) ∧ (0 : Int32).toNatClampNeg + (oC_6 7 0).toNatClampNeg ≤ 4096 ∧ (0 : Int32).toNatClampNeg + (oC_6 7 0).toNatClampNeg ≤ 4096) <|
        zLet (rs oH_5 4 (va_cpy (oC_6 6) (oH_5 4) (0 : Int32).toNatClampNeg (0 : Int32).toNatClampNeg (oC_6 7 0).toNatClampNeg)) fun oH_7 =>
        zLet (rs oH_7 5 (fun _ => (oC_6 7 0))) fun oH_8 =>
        some ((oH_8 5 0), oH_8, oC_6)
      ) else (
        some ((-1 : Int32), oH_5, oC)
      )
    ) fun J13_3 =>
  if v1 = 0 then (
    J13_3 (4 : Int32)
  ) else (
    J13_3 (0 : Int32)
  )
abbrev rX7_edges : Room := { frames := 5, cells := 0, slots := 0, locals := 123 }
set_option maxHeartbeats 4000000 in
set_option maxRecDepth 100000 in
theorem mtX7_edges (l : Launch) (dC : Nat → ClassId) (dI : Nat → Nat → Nat) (cI cB : ClassId) (aH aR aP aM aE aQ aC : Nat → Nat) (sz : Nat) (NN : Nat) (oH : Rc) (oP : Rc) (oE : Rc) (oC : Rc) {ov : Int32} {oH' : Rc} {oC' : Rc} (hf : fX7_edges NN oH oP oE oC = some (ov, oH', oC')) : zMi l yX7_edges (Cond.code yX7_edges cX7_edges 1 (some .int) :: lw_g) rX7_edges (dC, dI) [(cI, .int), (cB, .byte)] [.ref (aH 0)] sz (kX7 cI cB aH (aR 0) (aM 0) (aE 0) (aC 0) (aP 0) oH ++ kX4 cI cB aP oP ++ kX2 cI cB aE (aQ 0) oE ++ kX0 cI cB aC oC) ov (kX7 cI cB aH (aR 0) (aM 0) (aE 0) (aC 0) (aP 0) oH' ++ kX4 cI cB aP oP ++ kX2 cI cB aE (aQ 0) oE ++ kX0 cI cB aC oC') := by
  refine zSt (cc := cX7_edges) (maxL := 1) (ret := (some .int)) (own := RX7) (fun A => zQi (dC, dI) [(cI, .int), (cB, .byte)] A ov (kX7 cI cB aH (aR 0) (aM 0) (aE 0) (aC 0) (aP 0) oH' ++ kX4 cI cB aP oP ++ kX2 cI cB aE (aQ 0) oE ++ kX0 cI cB aC oC')) (by decide) rfl rfl (Nat.le_of_ble_eq_true rfl) ?_
  intro p e s m below meth c ls A H locs C hK hA hP hD hS hl
  generalize hQ : MQ below (zQi (dC, dI) [(cI, .int), (cB, .byte)] A ov (kX7 cI cB aH (aR 0) (aM 0) (aE 0) (aC 0) (aP 0) oH' ++ kX4 cI cB aP oP ++ kX2 cI cB aE (aQ 0) oE ++ kX0 cI cB aC oC')) _ s 0 0 A = QQ
  generalize ([.ref (aH 0)] : List Value).toArray = args at C hQ ⊢
  have hl : lv_has ls 1 [(0, .ref (aH 0))] := hl
  unfold fX7_edges at hf
  refine lv_aload_n C.1.1 C.1.2.1 dX7_edges_0 rfl (lv_at hl 0 rfl) ?_
  refine lv_aload_n C.1.1 C.1.2.1 dX7_edges_1 rfl (lv_at hl 0 rfl) ?_
  obtain ⟨v1, hg, hf⟩ := zB1_el hf
  refine zCVi (As := []) (rest := [.ref (aH 0)]) (wr := (kX2 cI cB aE (aQ 0) oE ++ kX0 cI cB aC oC)) (wn := (kX7 cI cB aH (aR 0) (aM 0) (aE 0) (aC 0) (aP 0) oH ++ kX4 cI cB aP oP ++ kX2 cI cB aE (aQ 0) oE ++ kX0 cI cB aC oC)) C.1 hK hA hP hD hS [0, 1, 2, 3, 4, 5, 6, 7, 8, 9, 10, 11] [12, 13, 14, 15, 16, 17, 18, 19, 20, 21, 22, 23, 24, 25, 26] [15, 16, 17, 18, 19, 20, 21, 22, 23, 24, 25, 26, 0, 1, 2, 3, 4, 5, 6, 7, 8, 9, 10, 11, 12, 13, 14] 0 (mtX7_hasProgram l dC dI cI cB aH aR aP aM aE aC H.size oH oP hg) (zCwV 0 C.1 wlX7_184 wiX7_hasProgram ws_X7_hasProgram wnX7 wkX7_hasProgram rfl rfl (by decide +kernel) ⟨Nat.le_of_ble_eq_true rfl, Nat.le_of_ble_eq_true rfl⟩) rfl rfl (by decide +kernel) rfl rfl rfl rfl hl.1 (Nat.le_of_ble_eq_true rfl) dX7_edges_2 ⟨Nat.zero_le _, Nat.zero_le _⟩ rfl (fun H locs hP hD hS => ?_)
  obtain ⟨J13_3, eJ13_3, hf⟩ := zJn_el hf
  have hJ13_3 : ∀ (t2 : Int32), J13_3 t2 = some (ov, oH', oC') → ∀ (H : Heap) (locs : List Loc), va_P (dC, dI) vwCl (kX7 cI cB aH (aR 0) (aM 0) (aE 0) (aC 0) (aP 0) oH ++ kX4 cI cB aP oP ++ kX2 cI cB aE (aQ 0) oE ++ kX0 cI cB aC oC) H → va_D A (kX7 cI cB aH (aR 0) (aM 0) (aE 0) (aC 0) (aP 0) oH ++ kX4 cI cB aP oP ++ kX2 cI cB aE (aQ 0) oE ++ kX0 cI cB aC oC) → va_S A s.heap H locs → ∀ (ls : Array Slot), lv_has ls 1 [(0, .ref (aH 0))] → W p l e rX7_edges s m args below meth c H locs 0 0 QQ (F0 m 13 ls [.int t2, .ref (aH 0)]) := by
    intro t2 hf H locs hP hD hS ls hl
    rw [eJ13_3] at hf
    obtain ⟨v4, oH_5, hg, hf⟩ := zB2_el hf
    refine zCVi (As := [.int t2]) (rest := []) (wr := (kX4 cI cB aP oP ++ kX2 cI cB aE (aQ 0) oE ++ kX0 cI cB aC oC)) (wn := (kX7 cI cB aH (aR 0) (aM 0) (aE 0) (aC 0) (aP 0) oH_5 ++ kX4 cI cB aP oP ++ kX2 cI cB aE (aQ 0) oE ++ kX0 cI cB aC oC)) C.1 hK hA hP hD hS [0, 1] [2, 3, 4, 5, 6, 7, 8, 9, 10, 11, 12, 13, 14, 15, 16, 17, 18, 19, 20, 21, 22, 23, 24, 25, 26] [25, 26, 0, 1, 2, 3, 4, 5, 6, 7, 8, 9, 10, 11, 12, 13, 14, 15, 16, 17, 18, 19, 20, 21, 22, 23, 24] 0 (mtX7_refused l dC dI cI cB aH aR aP aM aE aC H.size oH t2 hg) (zCwV 1 C.1 wlX7_64 wiX7_refused ws_X7_refused wnX7 wkX7_refused rfl rfl (by decide +kernel) ⟨Nat.le_of_ble_eq_true rfl, Nat.le_of_ble_eq_true rfl⟩) rfl rfl (by decide +kernel) rfl rfl rfl rfl hl.1 (Nat.le_of_ble_eq_true rfl) dX7_edges_13 ⟨Nat.zero_le _, Nat.zero_le _⟩ rfl (fun H locs hP hD hS => ?_)
    refine lv_if_eq (tgt := 21) C.1.1 C.1.2.1 dX7_edges_16 (by decide) (fun hc => ?_) (fun hc => ?_)
    · replace hf := zIf_t hf hc
      refine lv_aload_n C.1.1 C.1.2.1 dX7_edges_21 rfl (lv_at hl 0 rfl) ?_
      refine zGet (.ref (aC 0)) C.1 wuX7 hK hP 0 rfl rfl 3 (by decide) wfX7_33 rfl rfl dX7_edges_22 ?_
      refine lv_aload_n C.1.1 C.1.2.1 dX7_edges_25 rfl (lv_at hl 0 rfl) ?_
      refine zGet (.ref (aE 0)) C.1 wuX7 hK hP 0 rfl rfl 2 (by decide) wfX7_26 rfl rfl dX7_edges_26 ?_
      refine lv_aload_n C.1.1 C.1.2.1 dX7_edges_29 rfl (lv_at hl 0 rfl) ?_
      refine zGet (.ref (aP 0)) C.1 wuX7 hK hP 0 rfl rfl 6 (by decide) wfX7_48 rfl rfl dX7_edges_30 ?_
      refine zGet (.int (oP 0 0)) C.1 wuX4 hK hP 2 rfl rfl 0 (by decide) wfX7_98 rfl rfl dX7_edges_33 ?_
      refine lv_aload_n C.1.1 C.1.2.1 dX7_edges_36 rfl (lv_at hl 0 rfl) ?_
      refine zGet (.int (oH_5 9 0)) C.1 wuX7 hK hP 0 rfl rfl 9 (by decide) wfX7_58 rfl rfl dX7_edges_37 ?_
      obtain ⟨oC_6, hg, hf⟩ := zB1_el hf
      refine zCVv (As := [.ref (aE 0), .int (oP 0 0), .int (oH_5 9 0)]) (rest := []) (wr := (kX7 cI cB aH (aR 0) (aM 0) (aE 0) (aC 0) (aP 0) oH_5 ++ kX4 cI cB aP oP)) (wn := (kX7 cI cB aH (aR 0) (aM 0) (aE 0) (aC 0) (aP 0) oH_5 ++ kX4 cI cB aP oP ++ kX2 cI cB aE (aQ 0) oE ++ kX0 cI cB aC oC_6)) C.1 hK hA hP hD hS [12, 13, 14, 15, 16, 17, 18, 19, 20, 21, 22, 23, 24, 25, 26] [0, 1, 2, 3, 4, 5, 6, 7, 8, 9, 10, 11] [0, 1, 2, 3, 4, 5, 6, 7, 8, 9, 10, 11, 12, 13, 14, 15, 16, 17, 18, 19, 20, 21, 22, 23, 24, 25, 26] 9 (mtX0_prepare l dC dI cI cB aE aQ aC H.size NN oE oC (oP 0 0) (oH_5 9 0) hg) (zCwV 3 C.1 wlX7_170 wiX0_prepare ws_X0_prepare wnX0 wkX0_prepare rfl rfl (by decide +kernel) ⟨Nat.le_of_ble_eq_true rfl, Nat.le_of_ble_eq_true rfl⟩) rfl rfl (by decide +kernel) rfl rfl rfl rfl hl.1 (Nat.le_of_ble_eq_true rfl) dX7_edges_40 ⟨Nat.zero_le _, Nat.zero_le _⟩ rfl (fun H locs hP hD hS => ?_)
      refine lv_aload_n C.1.1 C.1.2.1 dX7_edges_43 rfl (lv_at hl 0 rfl) ?_
      refine zGet (.ref (aC 0)) C.1 wuX7 hK hP 0 rfl rfl 3 (by decide) wfX7_33 rfl rfl dX7_edges_44 ?_
      refine zGet (.ref (aC 2)) C.1 wuX0 hK hP 21 rfl rfl 6 (by decide) wfX7_188 rfl rfl dX7_edges_47 ?_
      refine lv_iconst (v := 0) C.1.1 C.1.2.1 dX7_edges_50 (by decide) ?_
      refine lv_aload_n C.1.1 C.1.2.1 dX7_edges_51 rfl (lv_at hl 0 rfl) ?_
      refine zGet (.ref (aH 1)) C.1 wuX7 hK hP 0 rfl rfl 4 (by decide) wfX7_37 rfl rfl dX7_edges_52 ?_
      refine lv_iconst (v := 0) C.1.1 C.1.2.1 dX7_edges_55 (by decide) ?_
      refine lv_aload_n C.1.1 C.1.2.1 dX7_edges_56 rfl (lv_at hl 0 rfl) ?_
      refine zGet (.ref (aC 0)) C.1 wuX7 hK hP 0 rfl rfl 3 (by decide) wfX7_33 rfl rfl dX7_edges_57 ?_
      refine zGet (.int (oC_6 7 0)) C.1 wuX0 hK hP 21 rfl rfl 7 (by decide) wfX7_191 rfl rfl dX7_edges_60 ?_
      obtain ⟨⟨hc1, hc2, hc3, hc4, hc5⟩, hf⟩ := zGd_el hf
      obtain ⟨oH_7, eoH_7, hf⟩ := zLet_el hf
      refine va_copyi (ty := .int) C.1.1 C.1.2.1 (C.1.2.2.1.trans hl.1.symm) C.1.2.2.2.1 (C.1.2.2.2.2 _ wlX7_194) (C.1.2.2.2.2 _ wAcN) (C.1.2.2.2.2 _ wAcS) (C.1.2.2.2.2 _ wAcI) hK.1 hP hD hS 23 1 0 0 rfl rfl rfl rfl rfl hc1 hc2 hc3 hc4 hc5 (fun _ _ => rfl) (Nat.le_of_ble_eq_true rfl) (by decide +kernel) dX7_edges_63 (fun H locs hP hD hS => ?_)
      replace hP : va_P (dC, dI) vwCl (kX7 cI cB aH (aR 0) (aM 0) (aE 0) (aC 0) (aP 0) oH_7 ++ kX4 cI cB aP oP ++ kX2 cI cB aE (aQ 0) oE ++ kX0 cI cB aC oC_6) H := by rw [eoH_7]; exact hP
      replace hD : va_D A (kX7 cI cB aH (aR 0) (aM 0) (aE 0) (aC 0) (aP 0) oH_7 ++ kX4 cI cB aP oP ++ kX2 cI cB aE (aQ 0) oE ++ kX0 cI cB aC oC_6) := by rw [eoH_7]; exact hD
      refine lv_aload_n C.1.1 C.1.2.1 dX7_edges_66 rfl (lv_at hl 0 rfl) ?_
      refine lv_aload_n C.1.1 C.1.2.1 dX7_edges_67 rfl (lv_at hl 0 rfl) ?_
      refine zGet (.ref (aC 0)) C.1 wuX7 hK hP 0 rfl rfl 3 (by decide) wfX7_33 rfl rfl dX7_edges_68 ?_
      refine zGet (.int (oC_6 7 0)) C.1 wuX0 hK hP 21 rfl rfl 7 (by decide) wfX7_191 rfl rfl dX7_edges_71 ?_
      obtain ⟨oH_8, eoH_8, hf⟩ := zLet_el hf
      refine zPut (ty := .int) (kX7 cI cB aH (aR 0) (aM 0) (aE 0) (aC 0) (aP 0) oH_8 ++ kX4 cI cB aP oP ++ kX2 cI cB aE (aQ 0) oE ++ kX0 cI cB aC oC_6) C.1 wuX7 tyX7 tyX7_ok nmX7 hK hP hD hS 0 rfl rfl 5 (by decide) wfX7_41 rfl rfl (by decide +kernel) rfl rfl (Nat.le_of_ble_eq_true rfl) dX7_edges_74 (by rw [eoH_8]; rfl) (fun H locs hP hD hS => ?_)
      refine lv_aload_n C.1.1 C.1.2.1 dX7_edges_77 rfl (lv_at hl 0 rfl) ?_
      refine zGet (.int (oH_8 5 0)) C.1 wuX7 hK hP 0 rfl rfl 5 (by decide) wfX7_41 rfl rfl dX7_edges_78 ?_
      cases hf
      rw [← hQ]
      exact zRi C hK hP hD hS dX7_edges_81
    · replace hf := zIf_f hf hc
      refine lv_iconst (v := (-1)) C.1.1 C.1.2.1 dX7_edges_19 (by decide) ?_
      cases hf
      rw [← hQ]
      exact zRi C hK hP hD hS dX7_edges_20
  refine lv_if_eq (tgt := 12) C.1.1 C.1.2.1 dX7_edges_5 (by decide) (fun hc => ?_) (fun hc => ?_)
  · replace hf := zIf_t hf hc
    refine lv_iconst (v := 4) C.1.1 C.1.2.1 dX7_edges_12 (by decide) ?_
    exact hJ13_3 (4 : Int32) hf H locs hP hD hS ls (lv_sub hl [0] rfl)
  · replace hf := zIf_f hf hc
    refine lv_iconst (v := 0) C.1.1 C.1.2.1 dX7_edges_8 (by decide) ?_
    refine lv_goto (tgt := 13) C.1.1 C.1.2.1 dX7_edges_9 (by decide) ?_
    exact hJ13_3 (0 : Int32) hf H locs hP hD hS ls (lv_sub hl [0] rfl)
def fX7_edge (oH : Rc) (p1 : Int32) : Option (Int32) :=
  if p1 < 0 then (
    some (-1 : Int32)
  ) else (
    if (oH 5 0) ≤ p1 then (
      some (-1 : Int32)
    ) else (
      zGd (inb p1 4096) <|
      some (oH 4 p1.toNatClampNeg)
    )
  )
abbrev rX7_edge : Room := { frames := 0, cells := 0, slots := 0, locals := 0 }
set_option maxHeartbeats 4000000 in
set_option maxRecDepth 100000 in
theorem mtX7_edge (l : Launch) (dC : Nat → ClassId) (dI : Nat → Nat → Nat) (cI cB : ClassId) (aH aR aP aM aE aC : Nat → Nat) (sz : Nat) (oH : Rc) (p1 : Int32) {ov : Int32} (hf : fX7_edge oH p1 = some ov) : zMi l yX7_edge (Cond.code yX7_edge cX7_edge 2 (some .int) :: lw_g) rX7_edge (dC, dI) [(cI, .int), (cB, .byte)] [.ref (aH 0), .int p1] sz (kX7 cI cB aH (aR 0) (aM 0) (aE 0) (aC 0) (aP 0) oH) ov (kX7 cI cB aH (aR 0) (aM 0) (aE 0) (aC 0) (aP 0) oH) := by
  refine zSt (cc := cX7_edge) (maxL := 2) (ret := (some .int)) (own := RX7) (fun A => zQi (dC, dI) [(cI, .int), (cB, .byte)] A ov (kX7 cI cB aH (aR 0) (aM 0) (aE 0) (aC 0) (aP 0) oH)) (by decide) rfl rfl (Nat.le_of_ble_eq_true rfl) ?_
  intro p e s m below meth c ls A H locs C hK hA hP hD hS hl
  generalize hQ : MQ below (zQi (dC, dI) [(cI, .int), (cB, .byte)] A ov (kX7 cI cB aH (aR 0) (aM 0) (aE 0) (aC 0) (aP 0) oH)) _ s 0 0 A = QQ
  generalize ([.ref (aH 0), .int p1] : List Value).toArray = args at C hQ ⊢
  have hl : lv_has ls 2 [(0, .ref (aH 0)), (1, .int p1)] := hl
  unfold fX7_edge at hf
  refine lv_iload_n C.1.1 C.1.2.1 dX7_edge_0 rfl (lv_at hl 1 rfl) ?_
  refine lv_if_lt (tgt := 21) C.1.1 C.1.2.1 dX7_edge_1 (by decide) (fun hc => ?_) (fun hc => ?_)
  · replace hf := zIf_t hf hc
    refine lv_iconst (v := (-1)) C.1.1 C.1.2.1 dX7_edge_21 (by decide) ?_
    cases hf
    rw [← hQ]
    exact zRi C hK hP hD hS dX7_edge_22
  · replace hf := zIf_f hf hc
    refine lv_iload_n C.1.1 C.1.2.1 dX7_edge_4 rfl (lv_at hl 1 rfl) ?_
    refine lv_aload_n C.1.1 C.1.2.1 dX7_edge_5 rfl (lv_at hl 0 rfl) ?_
    refine zGet (.int (oH 5 0)) C.1 wuX7 hK hP 0 rfl rfl 5 (by decide) wfX7_41 rfl rfl dX7_edge_6 ?_
    refine lv_icmp_ge (tgt := 21) C.1.1 C.1.2.1 dX7_edge_9 (by decide) (fun hc => ?_) (fun hc => ?_)
    · replace hf := zIf_t hf hc
      refine lv_iconst (v := (-1)) C.1.1 C.1.2.1 dX7_edge_21 (by decide) ?_
      cases hf
      rw [← hQ]
      exact zRi C hK hP hD hS dX7_edge_22
    · replace hf := zIf_f hf hc
      refine lv_aload_n C.1.1 C.1.2.1 dX7_edge_12 rfl (lv_at hl 0 rfl) ?_
      refine zGet (.ref (aH 1)) C.1 wuX7 hK hP 0 rfl rfl 4 (by decide) wfX7_37 rfl rfl dX7_edge_13 ?_
      refine lv_iload_n C.1.1 C.1.2.1 dX7_edge_16 rfl (lv_at hl 1 rfl) ?_
      obtain ⟨hib, hf⟩ := zGd_el hf
      refine va_iald C.1.1 C.1.2.1 hK.1 hP 1 0 rfl rfl hib dX7_edge_17 ?_
      refine lv_goto (tgt := 22) C.1.1 C.1.2.1 dX7_edge_18 (by decide) ?_
      cases hf
      rw [← hQ]
      exact zRi C hK hP hD hS dX7_edge_22
def fX7_run_L29 (oP : Rc) (NN : Nat) (oH_3 : Rc) (x9 : Int32) (J71_15 : Ar → Rc → Option (Int32 × Rc × Ar × Rc × Rc)) (n : Nat) (x17 : Int32) (oN_18 : Ar) (oK_19 : Rc) : Option (Int32 × Rc × Ar × Rc × Rc) := zLp3 (fun (go20 : Int32 → Ar → Rc → Option (Int32 × Rc × Ar × Rc × Rc)) (x17 : Int32) (oN_18 : Ar) (oK_19 : Rc) =>
    zGd (inb x9 12) <|
    if (oP 6 x9.toNatClampNeg) ≤ x17 then (
      J71_15 oN_18 oK_19
    ) else (
      zB1 (fX7_mask oH_3) fun v21 =>
      zB2 (fX1_doBlock NN oP oK_19 oN_18 x9 v21) fun oK_22 oN_23 =>
      zLet (x17 + 1) fun x24 =>
      go20 x24 oN_23 oK_22
    )
  ) n x17 oN_18 oK_19
def fX7_run_L16 (oP : Rc) (NN : Nat) (oH_3 : Rc) (J77_6 : Ar → Rc → Option (Int32 × Rc × Ar × Rc × Rc)) (n : Nat) (x9 : Int32) (oN_10 : Ar) (oK_11 : Rc) : Option (Int32 × Rc × Ar × Rc × Rc) := zLp3 (fun (go12 : Int32 → Ar → Rc → Option (Int32 × Rc × Ar × Rc × Rc)) (x9 : Int32) (oN_10 : Ar) (oK_11 : Rc) =>
    if (oP 0 0) ≤ x9 then (
      J77_6 oN_10 oK_11
    ) else (
      zJn (fun (oN_13 : Ar) (oK_14 : Rc) =>
          zLet (x9 + 1) fun x16 =>
          go12 x16 oN_13 oK_14
        ) fun J71_15 =>
      fX7_run_L29 oP NN oH_3 x9 J71_15 NN (0 : Int32) oN_10 oK_11
    )
  ) n x9 oN_10 oK_11
def fX7_run (NN : Nat) (oH : Rc) (oP : Rc) (oN : Ar) (oK : Rc) (oE : Rc) (oC : Rc) (p1 : Int32) : Option (Int32 × Rc × Ar × Rc × Rc) :=
  zB1 (fX7_troubleOfCut oP p1) fun v1 =>
  zB2 (fX7_refused oH v1) fun v2 oH_3 =>
  if v2 = 0 then (
    zJn (fun (oN_4 : Ar) (oK_5 : Rc) =>
        zB2 (fX7_ticksOf NN oH_3 oP oE oC p1) fun v7 oC_8 =>
        some (v7, oH_3, oN_4, oK_5, oC_8)
      ) fun J77_6 =>
    fX7_run_L16 oP NN oH_3 J77_6 NN (0 : Int32) oN oK
  ) else (
    some ((-1 : Int32), oH_3, oN, oK, oC)
  )
abbrev rX7_run : Room := { frames := 4, cells := 0, slots := 0, locals := 99 }
set_option maxHeartbeats 4000000 in
set_option maxRecDepth 100000 in
theorem mtX7_run (l : Launch) (dC : Nat → ClassId) (dI : Nat → Nat → Nat) (cI cB : ClassId) (aH aR aP aM aN aY aK aE aQ aC : Nat → Nat) (sz : Nat) (NN : Nat) (oH : Rc) (oP : Rc) (oN : Ar) (oK : Rc) (oE : Rc) (oC : Rc) (p1 : Int32) {ov : Int32} {oH' : Rc} {oN' : Ar} {oK' : Rc} {oC' : Rc} (hf : fX7_run NN oH oP oN oK oE oC p1 = some (ov, oH', oN', oK', oC')) : zMi l yX7_run (Cond.code yX7_run cX7_run 4 (some .int) :: lw_g) rX7_run (dC, dI) [(cI, .int), (cB, .byte)] [.ref (aH 0), .int p1] sz (kX7 cI cB aH (aR 0) (aM 0) (aE 0) (aC 0) (aP 0) oH ++ kX4 cI cB aP oP ++ kX1 cI cB aM (aN 0) (aY 0) (aK 0) ++ kA8 cI cB aN oN ++ kX3 cI cB aK oK ++ kX2 cI cB aE (aQ 0) oE ++ kX0 cI cB aC oC) ov (kX7 cI cB aH (aR 0) (aM 0) (aE 0) (aC 0) (aP 0) oH' ++ kX4 cI cB aP oP ++ kX1 cI cB aM (aN 0) (aY 0) (aK 0) ++ kA8 cI cB aN oN' ++ kX3 cI cB aK oK' ++ kX2 cI cB aE (aQ 0) oE ++ kX0 cI cB aC oC') := by
  refine zSt (cc := cX7_run) (maxL := 4) (ret := (some .int)) (own := RX7) (fun A => zQi (dC, dI) [(cI, .int), (cB, .byte)] A ov (kX7 cI cB aH (aR 0) (aM 0) (aE 0) (aC 0) (aP 0) oH' ++ kX4 cI cB aP oP ++ kX1 cI cB aM (aN 0) (aY 0) (aK 0) ++ kA8 cI cB aN oN' ++ kX3 cI cB aK oK' ++ kX2 cI cB aE (aQ 0) oE ++ kX0 cI cB aC oC')) (by decide) rfl rfl (Nat.le_of_ble_eq_true rfl) ?_
  intro p e s m below meth c ls A H locs C hK hA hP hD hS hl
  generalize hQ : MQ below (zQi (dC, dI) [(cI, .int), (cB, .byte)] A ov (kX7 cI cB aH (aR 0) (aM 0) (aE 0) (aC 0) (aP 0) oH' ++ kX4 cI cB aP oP ++ kX1 cI cB aM (aN 0) (aY 0) (aK 0) ++ kA8 cI cB aN oN' ++ kX3 cI cB aK oK' ++ kX2 cI cB aE (aQ 0) oE ++ kX0 cI cB aC oC')) _ s 0 0 A = QQ
  generalize ([.ref (aH 0), .int p1] : List Value).toArray = args at C hQ ⊢
  have hl : lv_has ls 4 [(0, .ref (aH 0)), (1, .int p1)] := hl
  unfold fX7_run at hf
  refine lv_aload_n C.1.1 C.1.2.1 dX7_run_0 rfl (lv_at hl 0 rfl) ?_
  refine lv_aload_n C.1.1 C.1.2.1 dX7_run_1 rfl (lv_at hl 0 rfl) ?_
  refine lv_iload_n C.1.1 C.1.2.1 dX7_run_2 rfl (lv_at hl 1 rfl) ?_
  obtain ⟨v1, hg, hf⟩ := zB1_el hf
  refine zCVi (As := [.int p1]) (rest := [.ref (aH 0)]) (wr := (kX1 cI cB aM (aN 0) (aY 0) (aK 0) ++ kA8 cI cB aN oN ++ kX3 cI cB aK oK ++ kX2 cI cB aE (aQ 0) oE ++ kX0 cI cB aC oC)) (wn := (kX7 cI cB aH (aR 0) (aM 0) (aE 0) (aC 0) (aP 0) oH ++ kX4 cI cB aP oP ++ kX1 cI cB aM (aN 0) (aY 0) (aK 0) ++ kA8 cI cB aN oN ++ kX3 cI cB aK oK ++ kX2 cI cB aE (aQ 0) oE ++ kX0 cI cB aC oC)) C.1 hK hA hP hD hS [0, 1, 2, 3, 4, 5, 6, 7, 8, 9, 10, 11] [12, 13, 14, 15, 16, 17, 18, 19, 20, 21, 22, 23, 24, 25, 26, 27, 28, 29, 30] [19, 20, 21, 22, 23, 24, 25, 26, 27, 28, 29, 30, 0, 1, 2, 3, 4, 5, 6, 7, 8, 9, 10, 11, 12, 13, 14, 15, 16, 17, 18] 0 (mtX7_troubleOfCut l dC dI cI cB aH aR aP aM aE aC H.size oH oP p1 hg) (zCwV 1 C.1 wlX7_144 wiX7_troubleOfCut ws_X7_troubleOfCut wnX7 wkX7_troubleOfCut rfl rfl (by decide +kernel) ⟨Nat.le_of_ble_eq_true rfl, Nat.le_of_ble_eq_true rfl⟩) rfl rfl (by decide +kernel) rfl rfl rfl rfl hl.1 (Nat.le_of_ble_eq_true rfl) dX7_run_3 ⟨Nat.zero_le _, Nat.zero_le _⟩ rfl (fun H locs hP hD hS => ?_)
  obtain ⟨v2, oH_3, hg, hf⟩ := zB2_el hf
  refine zCVi (As := [.int v1]) (rest := []) (wr := (kX4 cI cB aP oP ++ kX1 cI cB aM (aN 0) (aY 0) (aK 0) ++ kA8 cI cB aN oN ++ kX3 cI cB aK oK ++ kX2 cI cB aE (aQ 0) oE ++ kX0 cI cB aC oC)) (wn := (kX7 cI cB aH (aR 0) (aM 0) (aE 0) (aC 0) (aP 0) oH_3 ++ kX4 cI cB aP oP ++ kX1 cI cB aM (aN 0) (aY 0) (aK 0) ++ kA8 cI cB aN oN ++ kX3 cI cB aK oK ++ kX2 cI cB aE (aQ 0) oE ++ kX0 cI cB aC oC)) C.1 hK hA hP hD hS [0, 1] [2, 3, 4, 5, 6, 7, 8, 9, 10, 11, 12, 13, 14, 15, 16, 17, 18, 19, 20, 21, 22, 23, 24, 25, 26, 27, 28, 29, 30] [29, 30, 0, 1, 2, 3, 4, 5, 6, 7, 8, 9, 10, 11, 12, 13, 14, 15, 16, 17, 18, 19, 20, 21, 22, 23, 24, 25, 26, 27, 28] 0 (mtX7_refused l dC dI cI cB aH aR aP aM aE aC H.size oH v1 hg) (zCwV 1 C.1 wlX7_64 wiX7_refused ws_X7_refused wnX7 wkX7_refused rfl rfl (by decide +kernel) ⟨Nat.le_of_ble_eq_true rfl, Nat.le_of_ble_eq_true rfl⟩) rfl rfl (by decide +kernel) rfl rfl rfl rfl hl.1 (Nat.le_of_ble_eq_true rfl) dX7_run_6 ⟨Nat.zero_le _, Nat.zero_le _⟩ rfl (fun H locs hP hD hS => ?_)
  refine lv_if_eq (tgt := 14) C.1.1 C.1.2.1 dX7_run_9 (by decide) (fun hc => ?_) (fun hc => ?_)
  · replace hf := zIf_t hf hc
    refine lv_iconst (v := 0) C.1.1 C.1.2.1 dX7_run_14 (by decide) ?_
    refine lv_istore_n (lv' := [(2, .int (0 : Int32)), (0, .ref (aH 0)), (1, .int p1)]) C.1.1 C.1.2.1 dX7_run_15 rfl hl (by decide) rfl (fun ls hl => ?_)
    obtain ⟨J77_6, eJ77_6, hf⟩ := zJn_el hf
    have hJ77_6 : ∀ (oN_4 : Ar) (oK_5 : Rc), J77_6 oN_4 oK_5 = some (ov, oH', oN', oK', oC') → ∀ (H : Heap) (locs : List Loc), va_P (dC, dI) vwCl (kX7 cI cB aH (aR 0) (aM 0) (aE 0) (aC 0) (aP 0) oH_3 ++ kX4 cI cB aP oP ++ kX1 cI cB aM (aN 0) (aY 0) (aK 0) ++ kA8 cI cB aN oN_4 ++ kX3 cI cB aK oK_5 ++ kX2 cI cB aE (aQ 0) oE ++ kX0 cI cB aC oC) H → va_D A (kX7 cI cB aH (aR 0) (aM 0) (aE 0) (aC 0) (aP 0) oH_3 ++ kX4 cI cB aP oP ++ kX1 cI cB aM (aN 0) (aY 0) (aK 0) ++ kA8 cI cB aN oN_4 ++ kX3 cI cB aK oK_5 ++ kX2 cI cB aE (aQ 0) oE ++ kX0 cI cB aC oC) → va_S A s.heap H locs → ∀ (ls : Array Slot), lv_has ls 4 [(0, .ref (aH 0)), (1, .int p1)] → W p l e rX7_run s m args below meth c H locs 0 0 QQ (F0 m 77 ls []) := by
      intro oN_4 oK_5 hf H locs hP hD hS ls hl
      rw [eJ77_6] at hf
      refine lv_aload_n C.1.1 C.1.2.1 dX7_run_77 rfl (lv_at hl 0 rfl) ?_
      refine lv_iload_n C.1.1 C.1.2.1 dX7_run_78 rfl (lv_at hl 1 rfl) ?_
      obtain ⟨v7, oC_8, hg, hf⟩ := zB2_el hf
      refine zCVi (As := [.int p1]) (rest := []) (wr := (kX1 cI cB aM (aN 0) (aY 0) (aK 0) ++ kA8 cI cB aN oN_4 ++ kX3 cI cB aK oK_5)) (wn := (kX7 cI cB aH (aR 0) (aM 0) (aE 0) (aC 0) (aP 0) oH_3 ++ kX4 cI cB aP oP ++ kX1 cI cB aM (aN 0) (aY 0) (aK 0) ++ kA8 cI cB aN oN_4 ++ kX3 cI cB aK oK_5 ++ kX2 cI cB aE (aQ 0) oE ++ kX0 cI cB aC oC_8)) C.1 hK hA hP hD hS [0, 1, 2, 3, 4, 5, 6, 7, 8, 9, 10, 11, 16, 17, 18, 19, 20, 21, 22, 23, 24, 25, 26, 27, 28, 29, 30] [12, 13, 14, 15] [4, 5, 6, 7, 8, 9, 10, 11, 12, 13, 14, 15, 0, 1, 2, 3, 16, 17, 18, 19, 20, 21, 22, 23, 24, 25, 26, 27, 28, 29, 30] 0 (mtX7_ticksOf l dC dI cI cB aH aR aP aM aE aQ aC H.size NN oH_3 oP oE oC p1 hg) (zCwV 1 C.1 wlX7_147 wiX7_ticksOf ws_X7_ticksOf wnX7 wkX7_ticksOf rfl rfl (by decide +kernel) ⟨Nat.le_of_ble_eq_true rfl, Nat.le_of_ble_eq_true rfl⟩) rfl rfl (by decide +kernel) rfl rfl rfl rfl hl.1 (Nat.le_of_ble_eq_true rfl) dX7_run_79 ⟨Nat.zero_le _, Nat.zero_le _⟩ rfl (fun H locs hP hD hS => ?_)
      cases hf
      rw [← hQ]
      exact zRi C hK hP hD hS dX7_run_82
    refine zLp3_ind (o := (ov, oH', oN', oK', oC')) (P := fun (x9 : Int32) (oN_10 : Ar) (oK_11 : Rc) => ∀ (H : Heap) (locs : List Loc), va_P (dC, dI) vwCl (kX7 cI cB aH (aR 0) (aM 0) (aE 0) (aC 0) (aP 0) oH_3 ++ kX4 cI cB aP oP ++ kX1 cI cB aM (aN 0) (aY 0) (aK 0) ++ kA8 cI cB aN oN_10 ++ kX3 cI cB aK oK_11 ++ kX2 cI cB aE (aQ 0) oE ++ kX0 cI cB aC oC) H → va_D A (kX7 cI cB aH (aR 0) (aM 0) (aE 0) (aC 0) (aP 0) oH_3 ++ kX4 cI cB aP oP ++ kX1 cI cB aM (aN 0) (aY 0) (aK 0) ++ kA8 cI cB aN oN_10 ++ kX3 cI cB aK oK_11 ++ kX2 cI cB aE (aQ 0) oE ++ kX0 cI cB aC oC) → va_S A s.heap H locs → ∀ (ls : Array Slot), lv_has ls 4 [(0, .ref (aH 0)), (1, .int p1), (2, .int x9)] → W p l e rX7_run s m args below meth c H locs 0 0 QQ (F0 m 16 ls [])) (fun go12 ihgo12 x9 oN_10 oK_11 hf H locs hP hD hS ls hl => ?_) _ (0 : Int32) oN oK hf H locs hP hD hS ls (lv_sub hl [1, 2, 0] rfl)
    refine lv_iload_n C.1.1 C.1.2.1 dX7_run_16 rfl (lv_at hl 2 rfl) ?_
    refine lv_aload_n C.1.1 C.1.2.1 dX7_run_17 rfl (lv_at hl 0 rfl) ?_
    refine zGet (.ref (aP 0)) C.1 wuX7 hK hP 0 rfl rfl 6 (by decide) wfX7_48 rfl rfl dX7_run_18 ?_
    refine zGet (.int (oP 0 0)) C.1 wuX4 hK hP 2 rfl rfl 0 (by decide) wfX7_98 rfl rfl dX7_run_21 ?_
    refine lv_icmp_ge (tgt := 77) C.1.1 C.1.2.1 dX7_run_24 (by decide) (fun hc => ?_) (fun hc => ?_)
    · replace hf := zIf_t hf hc
      exact hJ77_6 oN_10 oK_11 hf H locs hP hD hS ls (lv_sub hl [0, 1] rfl)
    · replace hf := zIf_f hf hc
      refine lv_iconst (v := 0) C.1.1 C.1.2.1 dX7_run_27 (by decide) ?_
      refine lv_istore_n (lv' := [(3, .int (0 : Int32)), (0, .ref (aH 0)), (1, .int p1), (2, .int x9)]) C.1.1 C.1.2.1 dX7_run_28 rfl hl (by decide) rfl (fun ls hl => ?_)
      obtain ⟨J71_15, eJ71_15, hf⟩ := zJn_el hf
      have hJ71_15 : ∀ (oN_13 : Ar) (oK_14 : Rc), J71_15 oN_13 oK_14 = some (ov, oH', oN', oK', oC') → ∀ (H : Heap) (locs : List Loc), va_P (dC, dI) vwCl (kX7 cI cB aH (aR 0) (aM 0) (aE 0) (aC 0) (aP 0) oH_3 ++ kX4 cI cB aP oP ++ kX1 cI cB aM (aN 0) (aY 0) (aK 0) ++ kA8 cI cB aN oN_13 ++ kX3 cI cB aK oK_14 ++ kX2 cI cB aE (aQ 0) oE ++ kX0 cI cB aC oC) H → va_D A (kX7 cI cB aH (aR 0) (aM 0) (aE 0) (aC 0) (aP 0) oH_3 ++ kX4 cI cB aP oP ++ kX1 cI cB aM (aN 0) (aY 0) (aK 0) ++ kA8 cI cB aN oN_13 ++ kX3 cI cB aK oK_14 ++ kX2 cI cB aE (aQ 0) oE ++ kX0 cI cB aC oC) → va_S A s.heap H locs → ∀ (ls : Array Slot), lv_has ls 4 [(0, .ref (aH 0)), (1, .int p1), (2, .int x9)] → W p l e rX7_run s m args below meth c H locs 0 0 QQ (F0 m 71 ls []) := by
        intro oN_13 oK_14 hf H locs hP hD hS ls hl
        rw [eJ71_15] at hf
        obtain ⟨x16, ex16, hf⟩ := zLet_el hf
        refine lv_iinc (v := x16) (lv' := [(2, .int x16), (0, .ref (aH 0)), (1, .int p1)]) C.1.1 C.1.2.1 dX7_run_71 hl (k := 2) rfl (by rw [ex16]; rfl) (by decide) rfl (fun ls hl => ?_)
        refine lv_goto (tgt := 16) C.1.1 C.1.2.1 dX7_run_74 (by decide) ?_
        exact ihgo12 x16 oN_13 oK_14 hf H locs hP hD hS ls (lv_sub hl [1, 2, 0] rfl)
      refine zLp3_ind (o := (ov, oH', oN', oK', oC')) (P := fun (x17 : Int32) (oN_18 : Ar) (oK_19 : Rc) => ∀ (H : Heap) (locs : List Loc), va_P (dC, dI) vwCl (kX7 cI cB aH (aR 0) (aM 0) (aE 0) (aC 0) (aP 0) oH_3 ++ kX4 cI cB aP oP ++ kX1 cI cB aM (aN 0) (aY 0) (aK 0) ++ kA8 cI cB aN oN_18 ++ kX3 cI cB aK oK_19 ++ kX2 cI cB aE (aQ 0) oE ++ kX0 cI cB aC oC) H → va_D A (kX7 cI cB aH (aR 0) (aM 0) (aE 0) (aC 0) (aP 0) oH_3 ++ kX4 cI cB aP oP ++ kX1 cI cB aM (aN 0) (aY 0) (aK 0) ++ kA8 cI cB aN oN_18 ++ kX3 cI cB aK oK_19 ++ kX2 cI cB aE (aQ 0) oE ++ kX0 cI cB aC oC) → va_S A s.heap H locs → ∀ (ls : Array Slot), lv_has ls 4 [(0, .ref (aH 0)), (1, .int p1), (2, .int x9), (3, .int x17)] → W p l e rX7_run s m args below meth c H locs 0 0 QQ (F0 m 29 ls [])) (fun go20 ihgo20 x17 oN_18 oK_19 hf H locs hP hD hS ls hl => ?_) _ (0 : Int32) oN_10 oK_11 hf H locs hP hD hS ls (lv_sub hl [1, 2, 3, 0] rfl)
      refine lv_iload_n C.1.1 C.1.2.1 dX7_run_29 rfl (lv_at hl 3 rfl) ?_
      refine lv_aload_n C.1.1 C.1.2.1 dX7_run_30 rfl (lv_at hl 0 rfl) ?_
      refine zGet (.ref (aP 0)) C.1 wuX7 hK hP 0 rfl rfl 6 (by decide) wfX7_48 rfl rfl dX7_run_31 ?_
      refine zGet (.ref (aP 3)) C.1 wuX4 hK hP 2 rfl rfl 6 (by decide) wfX7_116 rfl rfl dX7_run_34 ?_
      refine lv_iload_n C.1.1 C.1.2.1 dX7_run_37 rfl (lv_at hl 2 rfl) ?_
      obtain ⟨hib, hf⟩ := zGd_el hf
      refine va_iald C.1.1 C.1.2.1 hK.1 hP 5 0 rfl rfl hib dX7_run_38 ?_
      refine lv_icmp_ge (tgt := 71) C.1.1 C.1.2.1 dX7_run_39 (by decide) (fun hc => ?_) (fun hc => ?_)
      · replace hf := zIf_t hf hc
        exact hJ71_15 oN_18 oK_19 hf H locs hP hD hS ls (lv_sub hl [0, 1, 2] rfl)
      · replace hf := zIf_f hf hc
        refine lv_aload_n C.1.1 C.1.2.1 dX7_run_42 rfl (lv_at hl 0 rfl) ?_
        refine zGet (.ref (aM 0)) C.1 wuX7 hK hP 0 rfl rfl 1 (by decide) wfX7_19 rfl rfl dX7_run_43 ?_
        refine lv_aload_n C.1.1 C.1.2.1 dX7_run_46 rfl (lv_at hl 0 rfl) ?_
        refine zGet (.ref (aP 0)) C.1 wuX7 hK hP 0 rfl rfl 6 (by decide) wfX7_48 rfl rfl dX7_run_47 ?_
        refine lv_iload_n C.1.1 C.1.2.1 dX7_run_50 rfl (lv_at hl 2 rfl) ?_
        refine lv_aload_n C.1.1 C.1.2.1 dX7_run_51 rfl (lv_at hl 0 rfl) ?_
        refine zGet (.ref (aM 0)) C.1 wuX7 hK hP 0 rfl rfl 1 (by decide) wfX7_19 rfl rfl dX7_run_52 ?_
        refine zGet (.ref (aN 0)) C.1 wuX1 hK hP 12 rfl rfl 0 (by decide) wfX7_110 rfl rfl dX7_run_55 ?_
        refine lv_aload_n C.1.1 C.1.2.1 dX7_run_58 rfl (lv_at hl 0 rfl) ?_
        obtain ⟨v21, hg, hf⟩ := zB1_el hf
        refine zCVi (As := []) (rest := [.ref (aN 0), .int x9, .ref (aP 0), .ref (aM 0)]) (wr := (kX4 cI cB aP oP ++ kX1 cI cB aM (aN 0) (aY 0) (aK 0) ++ kA8 cI cB aN oN_18 ++ kX3 cI cB aK oK_19 ++ kX2 cI cB aE (aQ 0) oE ++ kX0 cI cB aC oC)) (wn := (kX7 cI cB aH (aR 0) (aM 0) (aE 0) (aC 0) (aP 0) oH_3 ++ kX4 cI cB aP oP ++ kX1 cI cB aM (aN 0) (aY 0) (aK 0) ++ kA8 cI cB aN oN_18 ++ kX3 cI cB aK oK_19 ++ kX2 cI cB aE (aQ 0) oE ++ kX0 cI cB aC oC)) C.1 hK hA hP hD hS [0, 1] [2, 3, 4, 5, 6, 7, 8, 9, 10, 11, 12, 13, 14, 15, 16, 17, 18, 19, 20, 21, 22, 23, 24, 25, 26, 27, 28, 29, 30] [29, 30, 0, 1, 2, 3, 4, 5, 6, 7, 8, 9, 10, 11, 12, 13, 14, 15, 16, 17, 18, 19, 20, 21, 22, 23, 24, 25, 26, 27, 28] 0 (mtX7_mask l dC dI cI cB aH aR aP aM aE aC H.size oH_3 hg) (zCwV 0 C.1 wlX7_68 wiX7_mask ws_X7_mask wnX7 wkX7_mask rfl rfl (by decide +kernel) ⟨Nat.le_of_ble_eq_true rfl, Nat.le_of_ble_eq_true rfl⟩) rfl rfl (by decide +kernel) rfl rfl rfl rfl hl.1 (Nat.le_of_ble_eq_true rfl) dX7_run_59 ⟨Nat.zero_le _, Nat.zero_le _⟩ rfl (fun H locs hP hD hS => ?_)
        obtain ⟨oK_22, oN_23, hg, hf⟩ := zB2_el hf
        refine zCVv (As := [.ref (aP 0), .int x9, .ref (aN 0), .int v21]) (rest := []) (wr := (kX7 cI cB aH (aR 0) (aM 0) (aE 0) (aC 0) (aP 0) oH_3 ++ kX2 cI cB aE (aQ 0) oE ++ kX0 cI cB aC oC)) (wn := (kX7 cI cB aH (aR 0) (aM 0) (aE 0) (aC 0) (aP 0) oH_3 ++ kX4 cI cB aP oP ++ kX1 cI cB aM (aN 0) (aY 0) (aK 0) ++ kA8 cI cB aN oN_23 ++ kX3 cI cB aK oK_22 ++ kX2 cI cB aE (aQ 0) oE ++ kX0 cI cB aC oC)) C.1 hK hA hP hD hS [2, 3, 4, 5, 6, 7, 8, 9, 10, 11, 12, 14, 15, 13] [0, 1, 16, 17, 18, 19, 20, 21, 22, 23, 24, 25, 26, 27, 28, 29, 30] [0, 1, 17, 18, 19, 20, 21, 22, 23, 24, 25, 26, 27, 30, 28, 29, 2, 3, 4, 5, 6, 7, 8, 9, 10, 11, 12, 13, 14, 15, 16] 10 (mtX1_doBlock l dC dI cI cB aP aM aN aY aK aN H.size NN oP oK_19 oN_18 x9 v21 hg) (zCwV 4 C.1 wlX7_200 wiX1_doBlock ws_X1_doBlock wnX1 wkX1_doBlock rfl rfl (by decide +kernel) ⟨Nat.le_of_ble_eq_true rfl, Nat.le_of_ble_eq_true rfl⟩) rfl rfl (by decide +kernel) rfl rfl rfl rfl hl.1 (Nat.le_of_ble_eq_true rfl) dX7_run_62 ⟨Nat.zero_le _, Nat.zero_le _⟩ rfl (fun H locs hP hD hS => ?_)
        obtain ⟨x24, ex24, hf⟩ := zLet_el hf
        refine lv_iinc (v := x24) (lv' := [(3, .int x24), (0, .ref (aH 0)), (1, .int p1), (2, .int x9)]) C.1.1 C.1.2.1 dX7_run_65 hl (k := 3) rfl (by rw [ex24]; rfl) (by decide) rfl (fun ls hl => ?_)
        refine lv_goto (tgt := 29) C.1.1 C.1.2.1 dX7_run_68 (by decide) ?_
        exact ihgo20 x24 oN_23 oK_22 hf H locs hP hD hS ls (lv_sub hl [1, 2, 3, 0] rfl)
  · replace hf := zIf_f hf hc
    refine lv_iconst (v := (-1)) C.1.1 C.1.2.1 dX7_run_12 (by decide) ?_
    cases hf
    rw [← hQ]
    exact zRi C hK hP hD hS dX7_run_13
def fX7_once (NN : Nat) (oH : Rc) (oP : Rc) (oN : Ar) (oK : Rc) (p1 : Int32) (p2 : Int32) : Option (Int32 × Rc × Ar × Rc) :=
  zB1 (fX7_troubleOfBlock oP p1) fun v1 =>
  zB2 (fX7_refused oH v1) fun v2 oH_3 =>
  if v2 = 0 then (
    zB1 (fX7_mask oH_3) fun v4 =>
    zB2 (fX1_doBlock NN oP oK oN p1 v4) fun oK_5 oN_6 =>
    some ((1 : Int32), oH_3, oN_6, oK_5)
  ) else (
    some ((0 : Int32), oH_3, oN, oK)
  )
abbrev rX7_once : Room := { frames := 3, cells := 0, slots := 0, locals := 76 }
set_option maxHeartbeats 4000000 in
set_option maxRecDepth 100000 in
theorem mtX7_once (l : Launch) (dC : Nat → ClassId) (dI : Nat → Nat → Nat) (cI cB : ClassId) (aH aR aP aM aN aY aK aE aC : Nat → Nat) (sz : Nat) (NN : Nat) (oH : Rc) (oP : Rc) (oN : Ar) (oK : Rc) (p1 : Int32) (p2 : Int32) {ov : Int32} {oH' : Rc} {oN' : Ar} {oK' : Rc} (hf : fX7_once NN oH oP oN oK p1 p2 = some (ov, oH', oN', oK')) : zMi l yX7_once (Cond.code yX7_once cX7_once 3 (some .boolean) :: lw_g) rX7_once (dC, dI) [(cI, .int), (cB, .byte)] [.ref (aH 0), .int p1, .int p2] sz (kX7 cI cB aH (aR 0) (aM 0) (aE 0) (aC 0) (aP 0) oH ++ kX4 cI cB aP oP ++ kX1 cI cB aM (aN 0) (aY 0) (aK 0) ++ kA8 cI cB aN oN ++ kX3 cI cB aK oK) ov (kX7 cI cB aH (aR 0) (aM 0) (aE 0) (aC 0) (aP 0) oH' ++ kX4 cI cB aP oP ++ kX1 cI cB aM (aN 0) (aY 0) (aK 0) ++ kA8 cI cB aN oN' ++ kX3 cI cB aK oK') := by
  refine zSt (cc := cX7_once) (maxL := 3) (ret := (some .boolean)) (own := RX7) (fun A => zQi (dC, dI) [(cI, .int), (cB, .byte)] A ov (kX7 cI cB aH (aR 0) (aM 0) (aE 0) (aC 0) (aP 0) oH' ++ kX4 cI cB aP oP ++ kX1 cI cB aM (aN 0) (aY 0) (aK 0) ++ kA8 cI cB aN oN' ++ kX3 cI cB aK oK')) (by decide) rfl rfl (Nat.le_of_ble_eq_true rfl) ?_
  intro p e s m below meth c ls A H locs C hK hA hP hD hS hl
  generalize hQ : MQ below (zQi (dC, dI) [(cI, .int), (cB, .byte)] A ov (kX7 cI cB aH (aR 0) (aM 0) (aE 0) (aC 0) (aP 0) oH' ++ kX4 cI cB aP oP ++ kX1 cI cB aM (aN 0) (aY 0) (aK 0) ++ kA8 cI cB aN oN' ++ kX3 cI cB aK oK')) _ s 0 0 A = QQ
  generalize ([.ref (aH 0), .int p1, .int p2] : List Value).toArray = args at C hQ ⊢
  have hl : lv_has ls 3 [(0, .ref (aH 0)), (1, .int p1), (2, .int p2)] := hl
  unfold fX7_once at hf
  refine lv_aload_n C.1.1 C.1.2.1 dX7_once_0 rfl (lv_at hl 0 rfl) ?_
  refine lv_aload_n C.1.1 C.1.2.1 dX7_once_1 rfl (lv_at hl 0 rfl) ?_
  refine lv_iload_n C.1.1 C.1.2.1 dX7_once_2 rfl (lv_at hl 1 rfl) ?_
  obtain ⟨v1, hg, hf⟩ := zB1_el hf
  refine zCVi (As := [.int p1]) (rest := [.ref (aH 0)]) (wr := (kX1 cI cB aM (aN 0) (aY 0) (aK 0) ++ kA8 cI cB aN oN ++ kX3 cI cB aK oK)) (wn := (kX7 cI cB aH (aR 0) (aM 0) (aE 0) (aC 0) (aP 0) oH ++ kX4 cI cB aP oP ++ kX1 cI cB aM (aN 0) (aY 0) (aK 0) ++ kA8 cI cB aN oN ++ kX3 cI cB aK oK)) C.1 hK hA hP hD hS [0, 1, 2, 3, 4, 5, 6, 7, 8, 9, 10, 11] [12, 13, 14, 15] [4, 5, 6, 7, 8, 9, 10, 11, 12, 13, 14, 15, 0, 1, 2, 3] 0 (mtX7_troubleOfBlock l dC dI cI cB aH aR aP aM aE aC H.size oH oP p1 hg) (zCwV 1 C.1 wlX7_181 wiX7_troubleOfBlock ws_X7_troubleOfBlock wnX7 wkX7_troubleOfBlock rfl rfl (by decide +kernel) ⟨Nat.le_of_ble_eq_true rfl, Nat.le_of_ble_eq_true rfl⟩) rfl rfl (by decide +kernel) rfl rfl rfl rfl hl.1 (Nat.le_of_ble_eq_true rfl) dX7_once_3 ⟨Nat.zero_le _, Nat.zero_le _⟩ rfl (fun H locs hP hD hS => ?_)
  obtain ⟨v2, oH_3, hg, hf⟩ := zB2_el hf
  refine zCVi (As := [.int v1]) (rest := []) (wr := (kX4 cI cB aP oP ++ kX1 cI cB aM (aN 0) (aY 0) (aK 0) ++ kA8 cI cB aN oN ++ kX3 cI cB aK oK)) (wn := (kX7 cI cB aH (aR 0) (aM 0) (aE 0) (aC 0) (aP 0) oH_3 ++ kX4 cI cB aP oP ++ kX1 cI cB aM (aN 0) (aY 0) (aK 0) ++ kA8 cI cB aN oN ++ kX3 cI cB aK oK)) C.1 hK hA hP hD hS [0, 1] [2, 3, 4, 5, 6, 7, 8, 9, 10, 11, 12, 13, 14, 15] [14, 15, 0, 1, 2, 3, 4, 5, 6, 7, 8, 9, 10, 11, 12, 13] 0 (mtX7_refused l dC dI cI cB aH aR aP aM aE aC H.size oH v1 hg) (zCwV 1 C.1 wlX7_64 wiX7_refused ws_X7_refused wnX7 wkX7_refused rfl rfl (by decide +kernel) ⟨Nat.le_of_ble_eq_true rfl, Nat.le_of_ble_eq_true rfl⟩) rfl rfl (by decide +kernel) rfl rfl rfl rfl hl.1 (Nat.le_of_ble_eq_true rfl) dX7_once_6 ⟨Nat.zero_le _, Nat.zero_le _⟩ rfl (fun H locs hP hD hS => ?_)
  refine lv_if_eq (tgt := 14) C.1.1 C.1.2.1 dX7_once_9 (by decide) (fun hc => ?_) (fun hc => ?_)
  · replace hf := zIf_t hf hc
    refine lv_aload_n C.1.1 C.1.2.1 dX7_once_14 rfl (lv_at hl 0 rfl) ?_
    refine zGet (.ref (aM 0)) C.1 wuX7 hK hP 0 rfl rfl 1 (by decide) wfX7_19 rfl rfl dX7_once_15 ?_
    refine lv_aload_n C.1.1 C.1.2.1 dX7_once_18 rfl (lv_at hl 0 rfl) ?_
    refine zGet (.ref (aP 0)) C.1 wuX7 hK hP 0 rfl rfl 6 (by decide) wfX7_48 rfl rfl dX7_once_19 ?_
    refine lv_iload_n C.1.1 C.1.2.1 dX7_once_22 rfl (lv_at hl 1 rfl) ?_
    refine lv_aload_n C.1.1 C.1.2.1 dX7_once_23 rfl (lv_at hl 0 rfl) ?_
    refine zGet (.ref (aM 0)) C.1 wuX7 hK hP 0 rfl rfl 1 (by decide) wfX7_19 rfl rfl dX7_once_24 ?_
    refine zGet (.ref (aN 0)) C.1 wuX1 hK hP 12 rfl rfl 0 (by decide) wfX7_110 rfl rfl dX7_once_27 ?_
    refine lv_aload_n C.1.1 C.1.2.1 dX7_once_30 rfl (lv_at hl 0 rfl) ?_
    obtain ⟨v4, hg, hf⟩ := zB1_el hf
    refine zCVi (As := []) (rest := [.ref (aN 0), .int p1, .ref (aP 0), .ref (aM 0)]) (wr := (kX4 cI cB aP oP ++ kX1 cI cB aM (aN 0) (aY 0) (aK 0) ++ kA8 cI cB aN oN ++ kX3 cI cB aK oK)) (wn := (kX7 cI cB aH (aR 0) (aM 0) (aE 0) (aC 0) (aP 0) oH_3 ++ kX4 cI cB aP oP ++ kX1 cI cB aM (aN 0) (aY 0) (aK 0) ++ kA8 cI cB aN oN ++ kX3 cI cB aK oK)) C.1 hK hA hP hD hS [0, 1] [2, 3, 4, 5, 6, 7, 8, 9, 10, 11, 12, 13, 14, 15] [14, 15, 0, 1, 2, 3, 4, 5, 6, 7, 8, 9, 10, 11, 12, 13] 0 (mtX7_mask l dC dI cI cB aH aR aP aM aE aC H.size oH_3 hg) (zCwV 0 C.1 wlX7_68 wiX7_mask ws_X7_mask wnX7 wkX7_mask rfl rfl (by decide +kernel) ⟨Nat.le_of_ble_eq_true rfl, Nat.le_of_ble_eq_true rfl⟩) rfl rfl (by decide +kernel) rfl rfl rfl rfl hl.1 (Nat.le_of_ble_eq_true rfl) dX7_once_31 ⟨Nat.zero_le _, Nat.zero_le _⟩ rfl (fun H locs hP hD hS => ?_)
    obtain ⟨oK_5, oN_6, hg, hf⟩ := zB2_el hf
    refine zCVv (As := [.ref (aP 0), .int p1, .ref (aN 0), .int v4]) (rest := []) (wr := (kX7 cI cB aH (aR 0) (aM 0) (aE 0) (aC 0) (aP 0) oH_3)) (wn := (kX7 cI cB aH (aR 0) (aM 0) (aE 0) (aC 0) (aP 0) oH_3 ++ kX4 cI cB aP oP ++ kX1 cI cB aM (aN 0) (aY 0) (aK 0) ++ kA8 cI cB aN oN_6 ++ kX3 cI cB aK oK_5)) C.1 hK hA hP hD hS [2, 3, 4, 5, 6, 7, 8, 9, 10, 11, 12, 14, 15, 13] [0, 1] [0, 1, 2, 3, 4, 5, 6, 7, 8, 9, 10, 11, 12, 15, 13, 14] 10 (mtX1_doBlock l dC dI cI cB aP aM aN aY aK aN H.size NN oP oK oN p1 v4 hg) (zCwV 4 C.1 wlX7_200 wiX1_doBlock ws_X1_doBlock wnX1 wkX1_doBlock rfl rfl (by decide +kernel) ⟨Nat.le_of_ble_eq_true rfl, Nat.le_of_ble_eq_true rfl⟩) rfl rfl (by decide +kernel) rfl rfl rfl rfl hl.1 (Nat.le_of_ble_eq_true rfl) dX7_once_34 ⟨Nat.zero_le _, Nat.zero_le _⟩ rfl (fun H locs hP hD hS => ?_)
    refine lv_iconst (v := 1) C.1.1 C.1.2.1 dX7_once_37 (by decide) ?_
    cases hf
    rw [← hQ]
    exact zRz C (by decide +kernel) hK hP hD hS dX7_once_38
  · replace hf := zIf_f hf hc
    refine lv_iconst (v := 0) C.1.1 C.1.2.1 dX7_once_12 (by decide) ?_
    cases hf
    rw [← hQ]
    exact zRz C (by decide +kernel) hK hP hD hS dX7_once_13
def fX7_changes (NN : Nat) (oH : Rc) (oP : Rc) (oN : Ar) (oY : Ar) (oK : Rc) (p1 : Int32) (p2 : Int32) : Option (Int32 × Rc × Ar × Rc) :=
  zB1 (fX7_troubleOfBlock oP p1) fun v1 =>
  zB2 (fX7_refused oH v1) fun v2 oH_3 =>
  if v2 = 0 then (
    zB1 (fX7_isNumber p2) fun v4 =>
    zJn (fun (t5 : Int32) =>
        zB2 (fX7_refused oH_3 t5) fun v7 oH_8 =>
        if v7 = 0 then (
          zB1 (fX7_mask oH_8) fun v9 =>
          zB2 (fX1_tryBlock NN oP oN oY oK p1 v9) fun oY_10 oK_11 =>
          zGd (inb p2 8) <|
          zGd (inb p2 8) <|
          some (((oN p2.toNatClampNeg) ^^^ (oY_10 p2.toNatClampNeg)), oH_8, oY_10, oK_11)
        ) else (
          some ((-1 : Int32), oH_8, oY, oK)
        )
      ) fun J28_6 =>
    if v4 = 0 then (
      J28_6 (1 : Int32)
    ) else (
      J28_6 (0 : Int32)
    )
  ) else (
    some ((-1 : Int32), oH_3, oY, oK)
  )
abbrev rX7_changes : Room := { frames := 4, cells := 0, slots := 0, locals := 99 }
set_option maxHeartbeats 4000000 in
set_option maxRecDepth 100000 in
theorem mtX7_changes (l : Launch) (dC : Nat → ClassId) (dI : Nat → Nat → Nat) (cI cB : ClassId) (aH aR aP aM aN aY aK aE aC : Nat → Nat) (sz : Nat) (NN : Nat) (oH : Rc) (oP : Rc) (oN : Ar) (oY : Ar) (oK : Rc) (p1 : Int32) (p2 : Int32) {ov : Int32} {oH' : Rc} {oY' : Ar} {oK' : Rc} (hf : fX7_changes NN oH oP oN oY oK p1 p2 = some (ov, oH', oY', oK')) : zMi l yX7_changes (Cond.code yX7_changes cX7_changes 3 (some .int) :: lw_g) rX7_changes (dC, dI) [(cI, .int), (cB, .byte)] [.ref (aH 0), .int p1, .int p2] sz (kX7 cI cB aH (aR 0) (aM 0) (aE 0) (aC 0) (aP 0) oH ++ kX4 cI cB aP oP ++ kX1 cI cB aM (aN 0) (aY 0) (aK 0) ++ kA8 cI cB aN oN ++ kA8 cI cB aY oY ++ kX3 cI cB aK oK) ov (kX7 cI cB aH (aR 0) (aM 0) (aE 0) (aC 0) (aP 0) oH' ++ kX4 cI cB aP oP ++ kX1 cI cB aM (aN 0) (aY 0) (aK 0) ++ kA8 cI cB aN oN ++ kA8 cI cB aY oY' ++ kX3 cI cB aK oK') := by
  refine zSt (cc := cX7_changes) (maxL := 3) (ret := (some .int)) (own := RX7) (fun A => zQi (dC, dI) [(cI, .int), (cB, .byte)] A ov (kX7 cI cB aH (aR 0) (aM 0) (aE 0) (aC 0) (aP 0) oH' ++ kX4 cI cB aP oP ++ kX1 cI cB aM (aN 0) (aY 0) (aK 0) ++ kA8 cI cB aN oN ++ kA8 cI cB aY oY' ++ kX3 cI cB aK oK')) (by decide) rfl rfl (Nat.le_of_ble_eq_true rfl) ?_
  intro p e s m below meth c ls A H locs C hK hA hP hD hS hl
  generalize hQ : MQ below (zQi (dC, dI) [(cI, .int), (cB, .byte)] A ov (kX7 cI cB aH (aR 0) (aM 0) (aE 0) (aC 0) (aP 0) oH' ++ kX4 cI cB aP oP ++ kX1 cI cB aM (aN 0) (aY 0) (aK 0) ++ kA8 cI cB aN oN ++ kA8 cI cB aY oY' ++ kX3 cI cB aK oK')) _ s 0 0 A = QQ
  generalize ([.ref (aH 0), .int p1, .int p2] : List Value).toArray = args at C hQ ⊢
  have hl : lv_has ls 3 [(0, .ref (aH 0)), (1, .int p1), (2, .int p2)] := hl
  unfold fX7_changes at hf
  refine lv_aload_n C.1.1 C.1.2.1 dX7_changes_0 rfl (lv_at hl 0 rfl) ?_
  refine lv_aload_n C.1.1 C.1.2.1 dX7_changes_1 rfl (lv_at hl 0 rfl) ?_
  refine lv_iload_n C.1.1 C.1.2.1 dX7_changes_2 rfl (lv_at hl 1 rfl) ?_
  obtain ⟨v1, hg, hf⟩ := zB1_el hf
  refine zCVi (As := [.int p1]) (rest := [.ref (aH 0)]) (wr := (kX1 cI cB aM (aN 0) (aY 0) (aK 0) ++ kA8 cI cB aN oN ++ kA8 cI cB aY oY ++ kX3 cI cB aK oK)) (wn := (kX7 cI cB aH (aR 0) (aM 0) (aE 0) (aC 0) (aP 0) oH ++ kX4 cI cB aP oP ++ kX1 cI cB aM (aN 0) (aY 0) (aK 0) ++ kA8 cI cB aN oN ++ kA8 cI cB aY oY ++ kX3 cI cB aK oK)) C.1 hK hA hP hD hS [0, 1, 2, 3, 4, 5, 6, 7, 8, 9, 10, 11] [12, 13, 14, 15, 16] [5, 6, 7, 8, 9, 10, 11, 12, 13, 14, 15, 16, 0, 1, 2, 3, 4] 0 (mtX7_troubleOfBlock l dC dI cI cB aH aR aP aM aE aC H.size oH oP p1 hg) (zCwV 1 C.1 wlX7_181 wiX7_troubleOfBlock ws_X7_troubleOfBlock wnX7 wkX7_troubleOfBlock rfl rfl (by decide +kernel) ⟨Nat.le_of_ble_eq_true rfl, Nat.le_of_ble_eq_true rfl⟩) rfl rfl (by decide +kernel) rfl rfl rfl rfl hl.1 (Nat.le_of_ble_eq_true rfl) dX7_changes_3 ⟨Nat.zero_le _, Nat.zero_le _⟩ rfl (fun H locs hP hD hS => ?_)
  obtain ⟨v2, oH_3, hg, hf⟩ := zB2_el hf
  refine zCVi (As := [.int v1]) (rest := []) (wr := (kX4 cI cB aP oP ++ kX1 cI cB aM (aN 0) (aY 0) (aK 0) ++ kA8 cI cB aN oN ++ kA8 cI cB aY oY ++ kX3 cI cB aK oK)) (wn := (kX7 cI cB aH (aR 0) (aM 0) (aE 0) (aC 0) (aP 0) oH_3 ++ kX4 cI cB aP oP ++ kX1 cI cB aM (aN 0) (aY 0) (aK 0) ++ kA8 cI cB aN oN ++ kA8 cI cB aY oY ++ kX3 cI cB aK oK)) C.1 hK hA hP hD hS [0, 1] [2, 3, 4, 5, 6, 7, 8, 9, 10, 11, 12, 13, 14, 15, 16] [15, 16, 0, 1, 2, 3, 4, 5, 6, 7, 8, 9, 10, 11, 12, 13, 14] 0 (mtX7_refused l dC dI cI cB aH aR aP aM aE aC H.size oH v1 hg) (zCwV 1 C.1 wlX7_64 wiX7_refused ws_X7_refused wnX7 wkX7_refused rfl rfl (by decide +kernel) ⟨Nat.le_of_ble_eq_true rfl, Nat.le_of_ble_eq_true rfl⟩) rfl rfl (by decide +kernel) rfl rfl rfl rfl hl.1 (Nat.le_of_ble_eq_true rfl) dX7_changes_6 ⟨Nat.zero_le _, Nat.zero_le _⟩ rfl (fun H locs hP hD hS => ?_)
  refine lv_if_eq (tgt := 14) C.1.1 C.1.2.1 dX7_changes_9 (by decide) (fun hc => ?_) (fun hc => ?_)
  · replace hf := zIf_t hf hc
    refine lv_aload_n C.1.1 C.1.2.1 dX7_changes_14 rfl (lv_at hl 0 rfl) ?_
    refine lv_aload_n C.1.1 C.1.2.1 dX7_changes_15 rfl (lv_at hl 0 rfl) ?_
    refine lv_iload_n C.1.1 C.1.2.1 dX7_changes_16 rfl (lv_at hl 2 rfl) ?_
    obtain ⟨v4, hg, hf⟩ := zB1_el hf
    refine zCVi (As := [.int p2]) (rest := [.ref (aH 0)]) (wr := (kX4 cI cB aP oP ++ kX1 cI cB aM (aN 0) (aY 0) (aK 0) ++ kA8 cI cB aN oN ++ kA8 cI cB aY oY ++ kX3 cI cB aK oK)) (wn := (kX7 cI cB aH (aR 0) (aM 0) (aE 0) (aC 0) (aP 0) oH_3 ++ kX4 cI cB aP oP ++ kX1 cI cB aM (aN 0) (aY 0) (aK 0) ++ kA8 cI cB aN oN ++ kA8 cI cB aY oY ++ kX3 cI cB aK oK)) C.1 hK hA hP hD hS [0, 1] [2, 3, 4, 5, 6, 7, 8, 9, 10, 11, 12, 13, 14, 15, 16] [15, 16, 0, 1, 2, 3, 4, 5, 6, 7, 8, 9, 10, 11, 12, 13, 14] 0 (mtX7_isNumber l dC dI cI cB aH aR aP aM aE aC H.size oH_3 p2 hg) (zCwV 1 C.1 wlX7_107 wiX7_isNumber ws_X7_isNumber wnX7 wkX7_isNumber rfl rfl (by decide +kernel) ⟨Nat.le_of_ble_eq_true rfl, Nat.le_of_ble_eq_true rfl⟩) rfl rfl (by decide +kernel) rfl rfl rfl rfl hl.1 (Nat.le_of_ble_eq_true rfl) dX7_changes_17 ⟨Nat.zero_le _, Nat.zero_le _⟩ rfl (fun H locs hP hD hS => ?_)
    obtain ⟨J28_6, eJ28_6, hf⟩ := zJn_el hf
    have hJ28_6 : ∀ (t5 : Int32), J28_6 t5 = some (ov, oH', oY', oK') → ∀ (H : Heap) (locs : List Loc), va_P (dC, dI) vwCl (kX7 cI cB aH (aR 0) (aM 0) (aE 0) (aC 0) (aP 0) oH_3 ++ kX4 cI cB aP oP ++ kX1 cI cB aM (aN 0) (aY 0) (aK 0) ++ kA8 cI cB aN oN ++ kA8 cI cB aY oY ++ kX3 cI cB aK oK) H → va_D A (kX7 cI cB aH (aR 0) (aM 0) (aE 0) (aC 0) (aP 0) oH_3 ++ kX4 cI cB aP oP ++ kX1 cI cB aM (aN 0) (aY 0) (aK 0) ++ kA8 cI cB aN oN ++ kA8 cI cB aY oY ++ kX3 cI cB aK oK) → va_S A s.heap H locs → ∀ (ls : Array Slot), lv_has ls 3 [(0, .ref (aH 0)), (1, .int p1), (2, .int p2)] → W p l e rX7_changes s m args below meth c H locs 0 0 QQ (F0 m 28 ls [.int t5, .ref (aH 0)]) := by
      intro t5 hf H locs hP hD hS ls hl
      rw [eJ28_6] at hf
      obtain ⟨v7, oH_8, hg, hf⟩ := zB2_el hf
      refine zCVi (As := [.int t5]) (rest := []) (wr := (kX4 cI cB aP oP ++ kX1 cI cB aM (aN 0) (aY 0) (aK 0) ++ kA8 cI cB aN oN ++ kA8 cI cB aY oY ++ kX3 cI cB aK oK)) (wn := (kX7 cI cB aH (aR 0) (aM 0) (aE 0) (aC 0) (aP 0) oH_8 ++ kX4 cI cB aP oP ++ kX1 cI cB aM (aN 0) (aY 0) (aK 0) ++ kA8 cI cB aN oN ++ kA8 cI cB aY oY ++ kX3 cI cB aK oK)) C.1 hK hA hP hD hS [0, 1] [2, 3, 4, 5, 6, 7, 8, 9, 10, 11, 12, 13, 14, 15, 16] [15, 16, 0, 1, 2, 3, 4, 5, 6, 7, 8, 9, 10, 11, 12, 13, 14] 0 (mtX7_refused l dC dI cI cB aH aR aP aM aE aC H.size oH_3 t5 hg) (zCwV 1 C.1 wlX7_64 wiX7_refused ws_X7_refused wnX7 wkX7_refused rfl rfl (by decide +kernel) ⟨Nat.le_of_ble_eq_true rfl, Nat.le_of_ble_eq_true rfl⟩) rfl rfl (by decide +kernel) rfl rfl rfl rfl hl.1 (Nat.le_of_ble_eq_true rfl) dX7_changes_28 ⟨Nat.zero_le _, Nat.zero_le _⟩ rfl (fun H locs hP hD hS => ?_)
      refine lv_if_eq (tgt := 36) C.1.1 C.1.2.1 dX7_changes_31 (by decide) (fun hc => ?_) (fun hc => ?_)
      · replace hf := zIf_t hf hc
        refine lv_aload_n C.1.1 C.1.2.1 dX7_changes_36 rfl (lv_at hl 0 rfl) ?_
        refine zGet (.ref (aM 0)) C.1 wuX7 hK hP 0 rfl rfl 1 (by decide) wfX7_19 rfl rfl dX7_changes_37 ?_
        refine lv_aload_n C.1.1 C.1.2.1 dX7_changes_40 rfl (lv_at hl 0 rfl) ?_
        refine zGet (.ref (aP 0)) C.1 wuX7 hK hP 0 rfl rfl 6 (by decide) wfX7_48 rfl rfl dX7_changes_41 ?_
        refine lv_iload_n C.1.1 C.1.2.1 dX7_changes_44 rfl (lv_at hl 1 rfl) ?_
        refine lv_aload_n C.1.1 C.1.2.1 dX7_changes_45 rfl (lv_at hl 0 rfl) ?_
        obtain ⟨v9, hg, hf⟩ := zB1_el hf
        refine zCVi (As := []) (rest := [.int p1, .ref (aP 0), .ref (aM 0)]) (wr := (kX4 cI cB aP oP ++ kX1 cI cB aM (aN 0) (aY 0) (aK 0) ++ kA8 cI cB aN oN ++ kA8 cI cB aY oY ++ kX3 cI cB aK oK)) (wn := (kX7 cI cB aH (aR 0) (aM 0) (aE 0) (aC 0) (aP 0) oH_8 ++ kX4 cI cB aP oP ++ kX1 cI cB aM (aN 0) (aY 0) (aK 0) ++ kA8 cI cB aN oN ++ kA8 cI cB aY oY ++ kX3 cI cB aK oK)) C.1 hK hA hP hD hS [0, 1] [2, 3, 4, 5, 6, 7, 8, 9, 10, 11, 12, 13, 14, 15, 16] [15, 16, 0, 1, 2, 3, 4, 5, 6, 7, 8, 9, 10, 11, 12, 13, 14] 0 (mtX7_mask l dC dI cI cB aH aR aP aM aE aC H.size oH_8 hg) (zCwV 0 C.1 wlX7_68 wiX7_mask ws_X7_mask wnX7 wkX7_mask rfl rfl (by decide +kernel) ⟨Nat.le_of_ble_eq_true rfl, Nat.le_of_ble_eq_true rfl⟩) rfl rfl (by decide +kernel) rfl rfl rfl rfl hl.1 (Nat.le_of_ble_eq_true rfl) dX7_changes_46 ⟨Nat.zero_le _, Nat.zero_le _⟩ rfl (fun H locs hP hD hS => ?_)
        obtain ⟨oY_10, oK_11, hg, hf⟩ := zB2_el hf
        refine zCVv (As := [.ref (aP 0), .int p1, .int v9]) (rest := []) (wr := (kX7 cI cB aH (aR 0) (aM 0) (aE 0) (aC 0) (aP 0) oH_8)) (wn := (kX7 cI cB aH (aR 0) (aM 0) (aE 0) (aC 0) (aP 0) oH_8 ++ kX4 cI cB aP oP ++ kX1 cI cB aM (aN 0) (aY 0) (aK 0) ++ kA8 cI cB aN oN ++ kA8 cI cB aY oY_10 ++ kX3 cI cB aK oK_11)) C.1 hK hA hP hD hS [2, 3, 4, 5, 6, 7, 8, 9, 10, 11, 12, 13, 14, 15, 16] [0, 1] [0, 1, 2, 3, 4, 5, 6, 7, 8, 9, 10, 11, 12, 13, 14, 15, 16] 10 (mtX1_tryBlock l dC dI cI cB aP aM aN aY aK H.size NN oP oN oY oK p1 v9 hg) (zCwV 3 C.1 wlX7_204 wiX1_tryBlock ws_X1_tryBlock wnX1 wkX1_tryBlock rfl rfl (by decide +kernel) ⟨Nat.le_of_ble_eq_true rfl, Nat.le_of_ble_eq_true rfl⟩) rfl rfl (by decide +kernel) rfl rfl rfl rfl hl.1 (Nat.le_of_ble_eq_true rfl) dX7_changes_49 ⟨Nat.zero_le _, Nat.zero_le _⟩ rfl (fun H locs hP hD hS => ?_)
        refine lv_aload_n C.1.1 C.1.2.1 dX7_changes_52 rfl (lv_at hl 0 rfl) ?_
        refine zGet (.ref (aM 0)) C.1 wuX7 hK hP 0 rfl rfl 1 (by decide) wfX7_19 rfl rfl dX7_changes_53 ?_
        refine zGet (.ref (aN 0)) C.1 wuX1 hK hP 12 rfl rfl 0 (by decide) wfX7_110 rfl rfl dX7_changes_56 ?_
        refine lv_iload_n C.1.1 C.1.2.1 dX7_changes_59 rfl (lv_at hl 2 rfl) ?_
        obtain ⟨hib, hf⟩ := zGd_el hf
        refine va_iald C.1.1 C.1.2.1 hK.1 hP 13 0 rfl rfl hib dX7_changes_60 ?_
        refine lv_aload_n C.1.1 C.1.2.1 dX7_changes_61 rfl (lv_at hl 0 rfl) ?_
        refine zGet (.ref (aM 0)) C.1 wuX7 hK hP 0 rfl rfl 1 (by decide) wfX7_19 rfl rfl dX7_changes_62 ?_
        refine zGet (.ref (aY 0)) C.1 wuX1 hK hP 12 rfl rfl 1 (by decide) wfX7_208 rfl rfl dX7_changes_65 ?_
        refine lv_iload_n C.1.1 C.1.2.1 dX7_changes_68 rfl (lv_at hl 2 rfl) ?_
        obtain ⟨hib, hf⟩ := zGd_el hf
        refine va_iald C.1.1 C.1.2.1 hK.1 hP 14 0 rfl rfl hib dX7_changes_69 ?_
        refine lv_ixor C.1.1 C.1.2.1 dX7_changes_70 ?_
        cases hf
        rw [← hQ]
        exact zRi C hK hP hD hS dX7_changes_71
      · replace hf := zIf_f hf hc
        refine lv_iconst (v := (-1)) C.1.1 C.1.2.1 dX7_changes_34 (by decide) ?_
        cases hf
        rw [← hQ]
        exact zRi C hK hP hD hS dX7_changes_35
    refine lv_if_eq (tgt := 27) C.1.1 C.1.2.1 dX7_changes_20 (by decide) (fun hc => ?_) (fun hc => ?_)
    · replace hf := zIf_t hf hc
      refine lv_iconst (v := 1) C.1.1 C.1.2.1 dX7_changes_27 (by decide) ?_
      exact hJ28_6 (1 : Int32) hf H locs hP hD hS ls (lv_sub hl [0, 1, 2] rfl)
    · replace hf := zIf_f hf hc
      refine lv_iconst (v := 0) C.1.1 C.1.2.1 dX7_changes_23 (by decide) ?_
      refine lv_goto (tgt := 28) C.1.1 C.1.2.1 dX7_changes_24 (by decide) ?_
      exact hJ28_6 (0 : Int32) hf H locs hP hD hS ls (lv_sub hl [0, 1, 2] rfl)
  · replace hf := zIf_f hf hc
    refine lv_iconst (v := (-1)) C.1.1 C.1.2.1 dX7_changes_12 (by decide) ?_
    cases hf
    rw [← hQ]
    exact zRi C hK hP hD hS dX7_changes_13
def fX7_still (NN : Nat) (oH : Rc) (oP : Rc) (oN : Ar) (oY : Ar) (oK : Rc) (p1 : Int32) : Option (Int32 × Rc × Ar × Rc) :=
  zB1 (fX7_troubleOfBlock oP p1) fun v1 =>
  zB2 (fX7_refused oH v1) fun v2 oH_3 =>
  if v2 = 0 then (
    zB1 (fX7_mask oH_3) fun v4 =>
    zB2 (fX1_tryBlock NN oP oN oY oK p1 v4) fun oY_5 oK_6 =>
    zB1 (fX1_triedIsSame NN oN oY_5) fun v7 =>
    if v7 = 0 then (
      some ((0 : Int32), oH_3, oY_5, oK_6)
    ) else (
      some ((1 : Int32), oH_3, oY_5, oK_6)
    )
  ) else (
    some ((-1 : Int32), oH_3, oY, oK)
  )
abbrev rX7_still : Room := { frames := 4, cells := 0, slots := 0, locals := 99 }
set_option maxHeartbeats 4000000 in
set_option maxRecDepth 100000 in
theorem mtX7_still (l : Launch) (dC : Nat → ClassId) (dI : Nat → Nat → Nat) (cI cB : ClassId) (aH aR aP aM aN aY aK aE aC : Nat → Nat) (sz : Nat) (NN : Nat) (oH : Rc) (oP : Rc) (oN : Ar) (oY : Ar) (oK : Rc) (p1 : Int32) {ov : Int32} {oH' : Rc} {oY' : Ar} {oK' : Rc} (hf : fX7_still NN oH oP oN oY oK p1 = some (ov, oH', oY', oK')) : zMi l yX7_still (Cond.code yX7_still cX7_still 2 (some .int) :: lw_g) rX7_still (dC, dI) [(cI, .int), (cB, .byte)] [.ref (aH 0), .int p1] sz (kX7 cI cB aH (aR 0) (aM 0) (aE 0) (aC 0) (aP 0) oH ++ kX4 cI cB aP oP ++ kX1 cI cB aM (aN 0) (aY 0) (aK 0) ++ kA8 cI cB aN oN ++ kA8 cI cB aY oY ++ kX3 cI cB aK oK) ov (kX7 cI cB aH (aR 0) (aM 0) (aE 0) (aC 0) (aP 0) oH' ++ kX4 cI cB aP oP ++ kX1 cI cB aM (aN 0) (aY 0) (aK 0) ++ kA8 cI cB aN oN ++ kA8 cI cB aY oY' ++ kX3 cI cB aK oK') := by
  refine zSt (cc := cX7_still) (maxL := 2) (ret := (some .int)) (own := RX7) (fun A => zQi (dC, dI) [(cI, .int), (cB, .byte)] A ov (kX7 cI cB aH (aR 0) (aM 0) (aE 0) (aC 0) (aP 0) oH' ++ kX4 cI cB aP oP ++ kX1 cI cB aM (aN 0) (aY 0) (aK 0) ++ kA8 cI cB aN oN ++ kA8 cI cB aY oY' ++ kX3 cI cB aK oK')) (by decide) rfl rfl (Nat.le_of_ble_eq_true rfl) ?_
  intro p e s m below meth c ls A H locs C hK hA hP hD hS hl
  generalize hQ : MQ below (zQi (dC, dI) [(cI, .int), (cB, .byte)] A ov (kX7 cI cB aH (aR 0) (aM 0) (aE 0) (aC 0) (aP 0) oH' ++ kX4 cI cB aP oP ++ kX1 cI cB aM (aN 0) (aY 0) (aK 0) ++ kA8 cI cB aN oN ++ kA8 cI cB aY oY' ++ kX3 cI cB aK oK')) _ s 0 0 A = QQ
  generalize ([.ref (aH 0), .int p1] : List Value).toArray = args at C hQ ⊢
  have hl : lv_has ls 2 [(0, .ref (aH 0)), (1, .int p1)] := hl
  unfold fX7_still at hf
  refine lv_aload_n C.1.1 C.1.2.1 dX7_still_0 rfl (lv_at hl 0 rfl) ?_
  refine lv_aload_n C.1.1 C.1.2.1 dX7_still_1 rfl (lv_at hl 0 rfl) ?_
  refine lv_iload_n C.1.1 C.1.2.1 dX7_still_2 rfl (lv_at hl 1 rfl) ?_
  obtain ⟨v1, hg, hf⟩ := zB1_el hf
  refine zCVi (As := [.int p1]) (rest := [.ref (aH 0)]) (wr := (kX1 cI cB aM (aN 0) (aY 0) (aK 0) ++ kA8 cI cB aN oN ++ kA8 cI cB aY oY ++ kX3 cI cB aK oK)) (wn := (kX7 cI cB aH (aR 0) (aM 0) (aE 0) (aC 0) (aP 0) oH ++ kX4 cI cB aP oP ++ kX1 cI cB aM (aN 0) (aY 0) (aK 0) ++ kA8 cI cB aN oN ++ kA8 cI cB aY oY ++ kX3 cI cB aK oK)) C.1 hK hA hP hD hS [0, 1, 2, 3, 4, 5, 6, 7, 8, 9, 10, 11] [12, 13, 14, 15, 16] [5, 6, 7, 8, 9, 10, 11, 12, 13, 14, 15, 16, 0, 1, 2, 3, 4] 0 (mtX7_troubleOfBlock l dC dI cI cB aH aR aP aM aE aC H.size oH oP p1 hg) (zCwV 1 C.1 wlX7_181 wiX7_troubleOfBlock ws_X7_troubleOfBlock wnX7 wkX7_troubleOfBlock rfl rfl (by decide +kernel) ⟨Nat.le_of_ble_eq_true rfl, Nat.le_of_ble_eq_true rfl⟩) rfl rfl (by decide +kernel) rfl rfl rfl rfl hl.1 (Nat.le_of_ble_eq_true rfl) dX7_still_3 ⟨Nat.zero_le _, Nat.zero_le _⟩ rfl (fun H locs hP hD hS => ?_)
  obtain ⟨v2, oH_3, hg, hf⟩ := zB2_el hf
  refine zCVi (As := [.int v1]) (rest := []) (wr := (kX4 cI cB aP oP ++ kX1 cI cB aM (aN 0) (aY 0) (aK 0) ++ kA8 cI cB aN oN ++ kA8 cI cB aY oY ++ kX3 cI cB aK oK)) (wn := (kX7 cI cB aH (aR 0) (aM 0) (aE 0) (aC 0) (aP 0) oH_3 ++ kX4 cI cB aP oP ++ kX1 cI cB aM (aN 0) (aY 0) (aK 0) ++ kA8 cI cB aN oN ++ kA8 cI cB aY oY ++ kX3 cI cB aK oK)) C.1 hK hA hP hD hS [0, 1] [2, 3, 4, 5, 6, 7, 8, 9, 10, 11, 12, 13, 14, 15, 16] [15, 16, 0, 1, 2, 3, 4, 5, 6, 7, 8, 9, 10, 11, 12, 13, 14] 0 (mtX7_refused l dC dI cI cB aH aR aP aM aE aC H.size oH v1 hg) (zCwV 1 C.1 wlX7_64 wiX7_refused ws_X7_refused wnX7 wkX7_refused rfl rfl (by decide +kernel) ⟨Nat.le_of_ble_eq_true rfl, Nat.le_of_ble_eq_true rfl⟩) rfl rfl (by decide +kernel) rfl rfl rfl rfl hl.1 (Nat.le_of_ble_eq_true rfl) dX7_still_6 ⟨Nat.zero_le _, Nat.zero_le _⟩ rfl (fun H locs hP hD hS => ?_)
  refine lv_if_eq (tgt := 14) C.1.1 C.1.2.1 dX7_still_9 (by decide) (fun hc => ?_) (fun hc => ?_)
  · replace hf := zIf_t hf hc
    refine lv_aload_n C.1.1 C.1.2.1 dX7_still_14 rfl (lv_at hl 0 rfl) ?_
    refine zGet (.ref (aM 0)) C.1 wuX7 hK hP 0 rfl rfl 1 (by decide) wfX7_19 rfl rfl dX7_still_15 ?_
    refine lv_aload_n C.1.1 C.1.2.1 dX7_still_18 rfl (lv_at hl 0 rfl) ?_
    refine zGet (.ref (aP 0)) C.1 wuX7 hK hP 0 rfl rfl 6 (by decide) wfX7_48 rfl rfl dX7_still_19 ?_
    refine lv_iload_n C.1.1 C.1.2.1 dX7_still_22 rfl (lv_at hl 1 rfl) ?_
    refine lv_aload_n C.1.1 C.1.2.1 dX7_still_23 rfl (lv_at hl 0 rfl) ?_
    obtain ⟨v4, hg, hf⟩ := zB1_el hf
    refine zCVi (As := []) (rest := [.int p1, .ref (aP 0), .ref (aM 0)]) (wr := (kX4 cI cB aP oP ++ kX1 cI cB aM (aN 0) (aY 0) (aK 0) ++ kA8 cI cB aN oN ++ kA8 cI cB aY oY ++ kX3 cI cB aK oK)) (wn := (kX7 cI cB aH (aR 0) (aM 0) (aE 0) (aC 0) (aP 0) oH_3 ++ kX4 cI cB aP oP ++ kX1 cI cB aM (aN 0) (aY 0) (aK 0) ++ kA8 cI cB aN oN ++ kA8 cI cB aY oY ++ kX3 cI cB aK oK)) C.1 hK hA hP hD hS [0, 1] [2, 3, 4, 5, 6, 7, 8, 9, 10, 11, 12, 13, 14, 15, 16] [15, 16, 0, 1, 2, 3, 4, 5, 6, 7, 8, 9, 10, 11, 12, 13, 14] 0 (mtX7_mask l dC dI cI cB aH aR aP aM aE aC H.size oH_3 hg) (zCwV 0 C.1 wlX7_68 wiX7_mask ws_X7_mask wnX7 wkX7_mask rfl rfl (by decide +kernel) ⟨Nat.le_of_ble_eq_true rfl, Nat.le_of_ble_eq_true rfl⟩) rfl rfl (by decide +kernel) rfl rfl rfl rfl hl.1 (Nat.le_of_ble_eq_true rfl) dX7_still_24 ⟨Nat.zero_le _, Nat.zero_le _⟩ rfl (fun H locs hP hD hS => ?_)
    obtain ⟨oY_5, oK_6, hg, hf⟩ := zB2_el hf
    refine zCVv (As := [.ref (aP 0), .int p1, .int v4]) (rest := []) (wr := (kX7 cI cB aH (aR 0) (aM 0) (aE 0) (aC 0) (aP 0) oH_3)) (wn := (kX7 cI cB aH (aR 0) (aM 0) (aE 0) (aC 0) (aP 0) oH_3 ++ kX4 cI cB aP oP ++ kX1 cI cB aM (aN 0) (aY 0) (aK 0) ++ kA8 cI cB aN oN ++ kA8 cI cB aY oY_5 ++ kX3 cI cB aK oK_6)) C.1 hK hA hP hD hS [2, 3, 4, 5, 6, 7, 8, 9, 10, 11, 12, 13, 14, 15, 16] [0, 1] [0, 1, 2, 3, 4, 5, 6, 7, 8, 9, 10, 11, 12, 13, 14, 15, 16] 10 (mtX1_tryBlock l dC dI cI cB aP aM aN aY aK H.size NN oP oN oY oK p1 v4 hg) (zCwV 3 C.1 wlX7_204 wiX1_tryBlock ws_X1_tryBlock wnX1 wkX1_tryBlock rfl rfl (by decide +kernel) ⟨Nat.le_of_ble_eq_true rfl, Nat.le_of_ble_eq_true rfl⟩) rfl rfl (by decide +kernel) rfl rfl rfl rfl hl.1 (Nat.le_of_ble_eq_true rfl) dX7_still_27 ⟨Nat.zero_le _, Nat.zero_le _⟩ rfl (fun H locs hP hD hS => ?_)
    refine lv_aload_n C.1.1 C.1.2.1 dX7_still_30 rfl (lv_at hl 0 rfl) ?_
    refine zGet (.ref (aM 0)) C.1 wuX7 hK hP 0 rfl rfl 1 (by decide) wfX7_19 rfl rfl dX7_still_31 ?_
    obtain ⟨v7, hg, hf⟩ := zB1_el hf
    refine zCVi (As := []) (rest := []) (wr := (kX7 cI cB aH (aR 0) (aM 0) (aE 0) (aC 0) (aP 0) oH_3 ++ kX4 cI cB aP oP ++ kX3 cI cB aK oK_6)) (wn := (kX7 cI cB aH (aR 0) (aM 0) (aE 0) (aC 0) (aP 0) oH_3 ++ kX4 cI cB aP oP ++ kX1 cI cB aM (aN 0) (aY 0) (aK 0) ++ kA8 cI cB aN oN ++ kA8 cI cB aY oY_5 ++ kX3 cI cB aK oK_6)) C.1 hK hA hP hD hS [12, 13, 14] [0, 1, 2, 3, 4, 5, 6, 7, 8, 9, 10, 11, 15, 16] [0, 1, 2, 3, 4, 5, 6, 7, 8, 9, 10, 11, 14, 15, 16, 12, 13] 0 (mtX1_triedIsSame l dC dI cI cB aM aN aY aK H.size NN oN oY_5 hg) (zCwV 0 C.1 wlX7_211 wiX1_triedIsSame ws_X1_triedIsSame wnX1 wkX1_triedIsSame rfl rfl (by decide +kernel) ⟨Nat.le_of_ble_eq_true rfl, Nat.le_of_ble_eq_true rfl⟩) rfl rfl (by decide +kernel) rfl rfl rfl rfl hl.1 (Nat.le_of_ble_eq_true rfl) dX7_still_34 ⟨Nat.zero_le _, Nat.zero_le _⟩ rfl (fun H locs hP hD hS => ?_)
    refine lv_if_eq (tgt := 44) C.1.1 C.1.2.1 dX7_still_37 (by decide) (fun hc => ?_) (fun hc => ?_)
    · replace hf := zIf_t hf hc
      refine lv_iconst (v := 0) C.1.1 C.1.2.1 dX7_still_44 (by decide) ?_
      cases hf
      rw [← hQ]
      exact zRi C hK hP hD hS dX7_still_45
    · replace hf := zIf_f hf hc
      refine lv_iconst (v := 1) C.1.1 C.1.2.1 dX7_still_40 (by decide) ?_
      refine lv_goto (tgt := 45) C.1.1 C.1.2.1 dX7_still_41 (by decide) ?_
      cases hf
      rw [← hQ]
      exact zRi C hK hP hD hS dX7_still_45
  · replace hf := zIf_f hf hc
    refine lv_iconst (v := (-1)) C.1.1 C.1.2.1 dX7_still_12 (by decide) ?_
    cases hf
    rw [← hQ]
    exact zRi C hK hP hD hS dX7_still_13
def fX7_count (oH : Rc) (oT : Rc) (oP : Rc) (p1 : Int32) : Option (Int32) :=
  if p1 = 0 then (
    some (oH 7 0)
  ) else (
    if p1 = 1 then (
      some (oH 8 0)
    ) else (
      if p1 = 2 then (
        some (oH 9 0)
      ) else (
        if p1 = 3 then (
          some (oP 0 0)
        ) else (
          if p1 = 4 then (
            some (oT 1 0)
          ) else (
            if p1 = 5 then (
              some (oP 3 0)
            ) else (
              some (-1 : Int32)
            )
          )
        )
      )
    )
  )
abbrev rX7_count : Room := { frames := 0, cells := 0, slots := 0, locals := 0 }
set_option maxHeartbeats 4000000 in
set_option maxRecDepth 100000 in
theorem mtX7_count (l : Launch) (dC : Nat → ClassId) (dI : Nat → Nat → Nat) (cI cB : ClassId) (aH aR aT aS aP aM aE aC : Nat → Nat) (sz : Nat) (oH : Rc) (oR : Rc) (oT : Rc) (oP : Rc) (p1 : Int32) {ov : Int32} (hf : fX7_count oH oT oP p1 = some ov) : zMi l yX7_count (Cond.code yX7_count cX7_count 2 (some .int) :: lw_g) rX7_count (dC, dI) [(cI, .int), (cB, .byte)] [.ref (aH 0), .int p1] sz (kX7 cI cB aH (aR 0) (aM 0) (aE 0) (aC 0) (aP 0) oH ++ kX5 cI cB aR (aT 0) (aS 0) oR ++ kX6 cI cB aT oT ++ kX4 cI cB aP oP) ov (kX7 cI cB aH (aR 0) (aM 0) (aE 0) (aC 0) (aP 0) oH ++ kX5 cI cB aR (aT 0) (aS 0) oR ++ kX6 cI cB aT oT ++ kX4 cI cB aP oP) := by
  refine zSt (cc := cX7_count) (maxL := 2) (ret := (some .int)) (own := RX7) (fun A => zQi (dC, dI) [(cI, .int), (cB, .byte)] A ov (kX7 cI cB aH (aR 0) (aM 0) (aE 0) (aC 0) (aP 0) oH ++ kX5 cI cB aR (aT 0) (aS 0) oR ++ kX6 cI cB aT oT ++ kX4 cI cB aP oP)) (by decide) rfl rfl (Nat.le_of_ble_eq_true rfl) ?_
  intro p e s m below meth c ls A H locs C hK hA hP hD hS hl
  generalize hQ : MQ below (zQi (dC, dI) [(cI, .int), (cB, .byte)] A ov (kX7 cI cB aH (aR 0) (aM 0) (aE 0) (aC 0) (aP 0) oH ++ kX5 cI cB aR (aT 0) (aS 0) oR ++ kX6 cI cB aT oT ++ kX4 cI cB aP oP)) _ s 0 0 A = QQ
  generalize ([.ref (aH 0), .int p1] : List Value).toArray = args at C hQ ⊢
  have hl : lv_has ls 2 [(0, .ref (aH 0)), (1, .int p1)] := hl
  unfold fX7_count at hf
  refine lv_iload_n C.1.1 C.1.2.1 dX7_count_0 rfl (lv_at hl 1 rfl) ?_
  rcases Classical.em (p1 = 0) with hk1 | hk1
  · replace hf := zIf_t hf hk1
    refine lv_tableIn (off := 39) (tgt := 40) C.1.1 C.1.2.1 dX7_count_1 (by rw [hk1] <;> decide +kernel) (by rw [hk1] <;> decide +kernel) (by rw [hk1] <;> decide +kernel) (by decide) ?_
    refine lv_aload_n C.1.1 C.1.2.1 dX7_count_40 rfl (lv_at hl 0 rfl) ?_
    refine zGet (.int (oH 7 0)) C.1 wuX7 hK hP 0 rfl rfl 7 (by decide) wfX7_52 rfl rfl dX7_count_41 ?_
    cases hf
    rw [← hQ]
    exact zRi C hK hP hD hS dX7_count_44
  · replace hf := zIf_f hf hk1
    rcases Classical.em (p1 = 1) with hk2 | hk2
    · replace hf := zIf_t hf hk2
      refine lv_tableIn (off := 44) (tgt := 45) C.1.1 C.1.2.1 dX7_count_1 (by rw [hk2] <;> decide +kernel) (by rw [hk2] <;> decide +kernel) (by rw [hk2] <;> decide +kernel) (by decide) ?_
      refine lv_aload_n C.1.1 C.1.2.1 dX7_count_45 rfl (lv_at hl 0 rfl) ?_
      refine zGet (.int (oH 8 0)) C.1 wuX7 hK hP 0 rfl rfl 8 (by decide) wfX7_55 rfl rfl dX7_count_46 ?_
      cases hf
      rw [← hQ]
      exact zRi C hK hP hD hS dX7_count_49
    · replace hf := zIf_f hf hk2
      rcases Classical.em (p1 = 2) with hk3 | hk3
      · replace hf := zIf_t hf hk3
        refine lv_tableIn (off := 49) (tgt := 50) C.1.1 C.1.2.1 dX7_count_1 (by rw [hk3] <;> decide +kernel) (by rw [hk3] <;> decide +kernel) (by rw [hk3] <;> decide +kernel) (by decide) ?_
        refine lv_aload_n C.1.1 C.1.2.1 dX7_count_50 rfl (lv_at hl 0 rfl) ?_
        refine zGet (.int (oH 9 0)) C.1 wuX7 hK hP 0 rfl rfl 9 (by decide) wfX7_58 rfl rfl dX7_count_51 ?_
        cases hf
        rw [← hQ]
        exact zRi C hK hP hD hS dX7_count_54
      · replace hf := zIf_f hf hk3
        rcases Classical.em (p1 = 3) with hk4 | hk4
        · replace hf := zIf_t hf hk4
          refine lv_tableIn (off := 54) (tgt := 55) C.1.1 C.1.2.1 dX7_count_1 (by rw [hk4] <;> decide +kernel) (by rw [hk4] <;> decide +kernel) (by rw [hk4] <;> decide +kernel) (by decide) ?_
          refine lv_aload_n C.1.1 C.1.2.1 dX7_count_55 rfl (lv_at hl 0 rfl) ?_
          refine zGet (.ref (aP 0)) C.1 wuX7 hK hP 0 rfl rfl 6 (by decide) wfX7_48 rfl rfl dX7_count_56 ?_
          refine zGet (.int (oP 0 0)) C.1 wuX4 hK hP 7 rfl rfl 0 (by decide) wfX7_98 rfl rfl dX7_count_59 ?_
          cases hf
          rw [← hQ]
          exact zRi C hK hP hD hS dX7_count_62
        · replace hf := zIf_f hf hk4
          rcases Classical.em (p1 = 4) with hk5 | hk5
          · replace hf := zIf_t hf hk5
            refine lv_tableIn (off := 62) (tgt := 63) C.1.1 C.1.2.1 dX7_count_1 (by rw [hk5] <;> decide +kernel) (by rw [hk5] <;> decide +kernel) (by rw [hk5] <;> decide +kernel) (by decide) ?_
            refine lv_aload_n C.1.1 C.1.2.1 dX7_count_63 rfl (lv_at hl 0 rfl) ?_
            refine zGet (.ref (aR 0)) C.1 wuX7 hK hP 0 rfl rfl 0 (by decide) wfX7_12 rfl rfl dX7_count_64 ?_
            refine zGet (.ref (aT 0)) C.1 wuX5 hK hP 2 rfl rfl 0 (by decide) wfX7_79 rfl rfl dX7_count_67 ?_
            refine zGet (.int (oT 1 0)) C.1 wuX6 hK hP 5 rfl rfl 1 (by decide) wfX7_83 rfl rfl dX7_count_70 ?_
            cases hf
            rw [← hQ]
            exact zRi C hK hP hD hS dX7_count_73
          · replace hf := zIf_f hf hk5
            rcases Classical.em (p1 = 5) with hk6 | hk6
            · replace hf := zIf_t hf hk6
              refine lv_tableIn (off := 73) (tgt := 74) C.1.1 C.1.2.1 dX7_count_1 (by rw [hk6] <;> decide +kernel) (by rw [hk6] <;> decide +kernel) (by rw [hk6] <;> decide +kernel) (by decide) ?_
              refine lv_aload_n C.1.1 C.1.2.1 dX7_count_74 rfl (lv_at hl 0 rfl) ?_
              refine zGet (.ref (aP 0)) C.1 wuX7 hK hP 0 rfl rfl 6 (by decide) wfX7_48 rfl rfl dX7_count_75 ?_
              refine zGet (.int (oP 3 0)) C.1 wuX4 hK hP 7 rfl rfl 3 (by decide) wfX7_223 rfl rfl dX7_count_78 ?_
              cases hf
              rw [← hQ]
              exact zRi C hK hP hD hS dX7_count_81
            · replace hf := zIf_f hf hk6
              have nhk1 := lv_neT hk1 (a := 0) (by decide)
              have nhk2 := lv_neT hk2 (a := 1) (by decide)
              have nhk3 := lv_neT hk3 (a := 2) (by decide)
              have nhk4 := lv_neT hk4 (a := 3) (by decide)
              have nhk5 := lv_neT hk5 (a := 4) (by decide)
              have nhk6 := lv_neT hk6 (a := 5) (by decide)
              refine lv_tableOut (tgt := 82) C.1.1 C.1.2.1 dX7_count_1 (by omega) (by decide) ?_
              refine lv_iconst (v := (-1)) C.1.1 C.1.2.1 dX7_count_82 (by decide) ?_
              cases hf
              rw [← hQ]
              exact zRi C hK hP hD hS dX7_count_83
def fX7_trouble (oH : Rc) : Option (Int32) :=
  some (oH 10 0)
abbrev rX7_trouble : Room := { frames := 0, cells := 0, slots := 0, locals := 0 }
set_option maxHeartbeats 4000000 in
set_option maxRecDepth 100000 in
theorem mtX7_trouble (l : Launch) (dC : Nat → ClassId) (dI : Nat → Nat → Nat) (cI cB : ClassId) (aH aR aP aM aE aC : Nat → Nat) (sz : Nat) (oH : Rc) {ov : Int32} (hf : fX7_trouble oH = some ov) : zMi l yX7_trouble (Cond.code yX7_trouble cX7_trouble 1 (some .int) :: lw_g) rX7_trouble (dC, dI) [(cI, .int), (cB, .byte)] [.ref (aH 0)] sz (kX7 cI cB aH (aR 0) (aM 0) (aE 0) (aC 0) (aP 0) oH) ov (kX7 cI cB aH (aR 0) (aM 0) (aE 0) (aC 0) (aP 0) oH) := by
  refine zSt (cc := cX7_trouble) (maxL := 1) (ret := (some .int)) (own := RX7) (fun A => zQi (dC, dI) [(cI, .int), (cB, .byte)] A ov (kX7 cI cB aH (aR 0) (aM 0) (aE 0) (aC 0) (aP 0) oH)) (by decide) rfl rfl (Nat.le_of_ble_eq_true rfl) ?_
  intro p e s m below meth c ls A H locs C hK hA hP hD hS hl
  generalize hQ : MQ below (zQi (dC, dI) [(cI, .int), (cB, .byte)] A ov (kX7 cI cB aH (aR 0) (aM 0) (aE 0) (aC 0) (aP 0) oH)) _ s 0 0 A = QQ
  generalize ([.ref (aH 0)] : List Value).toArray = args at C hQ ⊢
  have hl : lv_has ls 1 [(0, .ref (aH 0))] := hl
  unfold fX7_trouble at hf
  refine lv_aload_n C.1.1 C.1.2.1 dX7_trouble_0 rfl (lv_at hl 0 rfl) ?_
  refine zGet (.int (oH 10 0)) C.1 wuX7 hK hP 0 rfl rfl 10 (by decide) wfX7_61 rfl rfl dX7_trouble_1 ?_
  cases hf
  rw [← hQ]
  exact zRi C hK hP hD hS dX7_trouble_4
