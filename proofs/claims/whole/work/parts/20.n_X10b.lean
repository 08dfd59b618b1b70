theorem dX10_sumDepth_102 : decode cX10_sumDepth 102 = .ok (.iaload, 1) := by decide +kernel
theorem dX10_sumDepth_103 : decode cX10_sumDepth 103 = .ok (.aload_n 0, 1) := by decide +kernel
theorem dX10_sumDepth_104 : decode cX10_sumDepth 104 = .ok (.bipush 7, 2) := by decide +kernel
theorem dX10_sumDepth_106 : decode cX10_sumDepth 106 = .ok (.invokevirtual 254, 3) := by decide +kernel
theorem dX10_sumDepth_109 : decode cX10_sumDepth 109 = .ok (.iadd, 1) := by decide +kernel
theorem dX10_sumDepth_110 : decode cX10_sumDepth 110 = .ok (.iastore, 1) := by decide +kernel
theorem dX10_sumDepth_111 : decode cX10_sumDepth 111 = .ok (.goto 38, 3) := by decide +kernel
theorem dX10_sumDepth_114 : decode cX10_sumDepth 114 = .ok (.iinc 2 (-1), 3) := by decide +kernel
theorem dX10_sumDepth_117 : decode cX10_sumDepth 117 = .ok (.aload_n 0, 1) := by decide +kernel
theorem dX10_sumDepth_118 : decode cX10_sumDepth 118 = .ok (.getfield 50, 3) := by decide +kernel
theorem dX10_sumDepth_121 : decode cX10_sumDepth 121 = .ok (.iload_n 2, 1) := by decide +kernel
theorem dX10_sumDepth_122 : decode cX10_sumDepth 122 = .ok (.iconst 1, 1) := by decide +kernel
theorem dX10_sumDepth_123 : decode cX10_sumDepth 123 = .ok (.isub, 1) := by decide +kernel
theorem dX10_sumDepth_124 : decode cX10_sumDepth 124 = .ok (.aload_n 0, 1) := by decide +kernel
theorem dX10_sumDepth_125 : decode cX10_sumDepth 125 = .ok (.getfield 50, 3) := by decide +kernel
theorem dX10_sumDepth_128 : decode cX10_sumDepth 128 = .ok (.iload_n 2, 1) := by decide +kernel
theorem dX10_sumDepth_129 : decode cX10_sumDepth 129 = .ok (.iconst 1, 1) := by decide +kernel
theorem dX10_sumDepth_130 : decode cX10_sumDepth 130 = .ok (.isub, 1) := by decide +kernel
theorem dX10_sumDepth_131 : decode cX10_sumDepth 131 = .ok (.iaload, 1) := by decide +kernel
theorem dX10_sumDepth_132 : decode cX10_sumDepth 132 = .ok (.aload_n 0, 1) := by decide +kernel
theorem dX10_sumDepth_133 : decode cX10_sumDepth 133 = .ok (.getfield 50, 3) := by decide +kernel
theorem dX10_sumDepth_136 : decode cX10_sumDepth 136 = .ok (.iload_n 2, 1) := by decide +kernel
theorem dX10_sumDepth_137 : decode cX10_sumDepth 137 = .ok (.iaload, 1) := by decide +kernel
theorem dX10_sumDepth_138 : decode cX10_sumDepth 138 = .ok (.invokestatic 257, 3) := by decide +kernel
theorem dX10_sumDepth_141 : decode cX10_sumDepth 141 = .ok (.aload_n 0, 1) := by decide +kernel
theorem dX10_sumDepth_142 : decode cX10_sumDepth 142 = .ok (.iload 4, 2) := by decide +kernel
theorem dX10_sumDepth_144 : decode cX10_sumDepth 144 = .ok (.invokevirtual 254, 3) := by decide +kernel
theorem dX10_sumDepth_147 : decode cX10_sumDepth 147 = .ok (.iadd, 1) := by decide +kernel
theorem dX10_sumDepth_148 : decode cX10_sumDepth 148 = .ok (.iastore, 1) := by decide +kernel
theorem dX10_sumDepth_149 : decode cX10_sumDepth 149 = .ok (.iinc 3 1, 3) := by decide +kernel
theorem dX10_sumDepth_152 : decode cX10_sumDepth 152 = .ok (.goto (-140), 3) := by decide +kernel
theorem dX10_sumDepth_155 : decode cX10_sumDepth 155 = .ok (.aload_n 0, 1) := by decide +kernel
theorem dX10_sumDepth_156 : decode cX10_sumDepth 156 = .ok (.getfield 50, 3) := by decide +kernel
theorem dX10_sumDepth_159 : decode cX10_sumDepth 159 = .ok (.iconst 0, 1) := by decide +kernel
theorem dX10_sumDepth_160 : decode cX10_sumDepth 160 = .ok (.iaload, 1) := by decide +kernel
theorem dX10_sumDepth_161 : decode cX10_sumDepth 161 = .ok (.ireturn, 1) := by decide +kernel
theorem dX10_depthFor_0 : decode cX10_depthFor 0 = .ok (.iconst 0, 1) := by decide +kernel
theorem dX10_depthFor_1 : decode cX10_depthFor 1 = .ok (.istore_n 2, 1) := by decide +kernel
theorem dX10_depthFor_2 : decode cX10_depthFor 2 = .ok (.iload_n 2, 1) := by decide +kernel
theorem dX10_depthFor_3 : decode cX10_depthFor 3 = .ok (.bipush 8, 2) := by decide +kernel
theorem dX10_depthFor_5 : decode cX10_depthFor 5 = .ok (.if_icmp .ge 16, 3) := by decide +kernel
theorem dX10_depthFor_8 : decode cX10_depthFor 8 = .ok (.aload_n 0, 1) := by decide +kernel
theorem dX10_depthFor_9 : decode cX10_depthFor 9 = .ok (.getfield 53, 3) := by decide +kernel
theorem dX10_depthFor_12 : decode cX10_depthFor 12 = .ok (.iload_n 2, 1) := by decide +kernel
theorem dX10_depthFor_13 : decode cX10_depthFor 13 = .ok (.iconst 0, 1) := by decide +kernel
theorem dX10_depthFor_14 : decode cX10_depthFor 14 = .ok (.iastore, 1) := by decide +kernel
theorem dX10_depthFor_15 : decode cX10_depthFor 15 = .ok (.iinc 2 1, 3) := by decide +kernel
theorem dX10_depthFor_18 : decode cX10_depthFor 18 = .ok (.goto (-16), 3) := by decide +kernel
theorem dX10_depthFor_21 : decode cX10_depthFor 21 = .ok (.iconst 0, 1) := by decide +kernel
theorem dX10_depthFor_22 : decode cX10_depthFor 22 = .ok (.istore_n 2, 1) := by decide +kernel
theorem dX10_depthFor_23 : decode cX10_depthFor 23 = .ok (.bipush 8, 2) := by decide +kernel
theorem dX10_depthFor_25 : decode cX10_depthFor 25 = .ok (.iload_n 1, 1) := by decide +kernel
theorem dX10_depthFor_26 : decode cX10_depthFor 26 = .ok (.imul, 1) := by decide +kernel
theorem dX10_depthFor_27 : decode cX10_depthFor 27 = .ok (.istore_n 3, 1) := by decide +kernel
theorem dX10_depthFor_28 : decode cX10_depthFor 28 = .ok (.iload_n 3, 1) := by decide +kernel
theorem dX10_depthFor_29 : decode cX10_depthFor 29 = .ok (.bipush 8, 2) := by decide +kernel
theorem dX10_depthFor_31 : decode cX10_depthFor 31 = .ok (.iload_n 1, 1) := by decide +kernel
theorem dX10_depthFor_32 : decode cX10_depthFor 32 = .ok (.imul, 1) := by decide +kernel
theorem dX10_depthFor_33 : decode cX10_depthFor 33 = .ok (.aload_n 0, 1) := by decide +kernel
theorem dX10_depthFor_34 : decode cX10_depthFor 34 = .ok (.getfield 25, 3) := by decide +kernel
theorem dX10_depthFor_37 : decode cX10_depthFor 37 = .ok (.getfield 174, 3) := by decide +kernel
theorem dX10_depthFor_40 : decode cX10_depthFor 40 = .ok (.iload_n 1, 1) := by decide +kernel
theorem dX10_depthFor_41 : decode cX10_depthFor 41 = .ok (.iaload, 1) := by decide +kernel
theorem dX10_depthFor_42 : decode cX10_depthFor 42 = .ok (.iadd, 1) := by decide +kernel
theorem dX10_depthFor_43 : decode cX10_depthFor 43 = .ok (.if_icmp .ge 94, 3) := by decide +kernel
theorem dX10_depthFor_46 : decode cX10_depthFor 46 = .ok (.aload_n 0, 1) := by decide +kernel
theorem dX10_depthFor_47 : decode cX10_depthFor 47 = .ok (.iload_n 3, 1) := by decide +kernel
theorem dX10_depthFor_48 : decode cX10_depthFor 48 = .ok (.invokevirtual 263, 3) := by decide +kernel
theorem dX10_depthFor_51 : decode cX10_depthFor 51 = .ok (.istore 4, 2) := by decide +kernel
theorem dX10_depthFor_53 : decode cX10_depthFor 53 = .ok (.aload_n 0, 1) := by decide +kernel
theorem dX10_depthFor_54 : decode cX10_depthFor 54 = .ok (.getfield 25, 3) := by decide +kernel
theorem dX10_depthFor_57 : decode cX10_depthFor 57 = .ok (.getfield 198, 3) := by decide +kernel
theorem dX10_depthFor_60 : decode cX10_depthFor 60 = .ok (.iload_n 3, 1) := by decide +kernel
theorem dX10_depthFor_61 : decode cX10_depthFor 61 = .ok (.iaload, 1) := by decide +kernel
theorem dX10_depthFor_62 : decode cX10_depthFor 62 = .ok (.istore 5, 2) := by decide +kernel
theorem dX10_depthFor_64 : decode cX10_depthFor 64 = .ok (.aload_n 0, 1) := by decide +kernel
theorem dX10_depthFor_65 : decode cX10_depthFor 65 = .ok (.getfield 25, 3) := by decide +kernel
theorem dX10_depthFor_68 : decode cX10_depthFor 68 = .ok (.getfield 192, 3) := by decide +kernel
theorem dX10_depthFor_71 : decode cX10_depthFor 71 = .ok (.iload_n 3, 1) := by decide +kernel
theorem dX10_depthFor_72 : decode cX10_depthFor 72 = .ok (.iaload, 1) := by decide +kernel
theorem dX10_depthFor_73 : decode cX10_depthFor 73 = .ok (.iconst (-1), 1) := by decide +kernel
theorem dX10_depthFor_74 : decode cX10_depthFor 74 = .ok (.if_icmp .eq 41, 3) := by decide +kernel
theorem dX10_depthFor_77 : decode cX10_depthFor 77 = .ok (.iload 4, 2) := by decide +kernel
theorem dX10_depthFor_79 : decode cX10_depthFor 79 = .ok (.aload_n 0, 1) := by decide +kernel
theorem dX10_depthFor_80 : decode cX10_depthFor 80 = .ok (.getfield 53, 3) := by decide +kernel
theorem dX10_depthFor_83 : decode cX10_depthFor 83 = .ok (.aload_n 0, 1) := by decide +kernel
theorem dX10_depthFor_84 : decode cX10_depthFor 84 = .ok (.getfield 25, 3) := by decide +kernel
theorem dX10_depthFor_87 : decode cX10_depthFor 87 = .ok (.getfield 192, 3) := by decide +kernel
theorem dX10_depthFor_90 : decode cX10_depthFor 90 = .ok (.iload_n 3, 1) := by decide +kernel
theorem dX10_depthFor_91 : decode cX10_depthFor 91 = .ok (.iaload, 1) := by decide +kernel
theorem dX10_depthFor_92 : decode cX10_depthFor 92 = .ok (.iaload, 1) := by decide +kernel
theorem dX10_depthFor_93 : decode cX10_depthFor 93 = .ok (.aload_n 0, 1) := by decide +kernel
theorem dX10_depthFor_94 : decode cX10_depthFor 94 = .ok (.getfield 53, 3) := by decide +kernel
theorem dX10_depthFor_97 : decode cX10_depthFor 97 = .ok (.iload 5, 2) := by decide +kernel
theorem dX10_depthFor_99 : decode cX10_depthFor 99 = .ok (.iaload, 1) := by decide +kernel
theorem dX10_depthFor_100 : decode cX10_depthFor 100 = .ok (.invokestatic 257, 3) := by decide +kernel
theorem dX10_depthFor_103 : decode cX10_depthFor 103 = .ok (.invokestatic 257, 3) := by decide +kernel
theorem dX10_depthFor_106 : decode cX10_depthFor 106 = .ok (.aload_n 0, 1) := by decide +kernel
theorem dX10_depthFor_107 : decode cX10_depthFor 107 = .ok (.bipush 8, 2) := by decide +kernel
theorem dX10_depthFor_109 : decode cX10_depthFor 109 = .ok (.invokevirtual 254, 3) := by decide +kernel
theorem dX10_depthFor_112 : decode cX10_depthFor 112 = .ok (.iadd, 1) := by decide +kernel
theorem dX10_depthFor_113 : decode cX10_depthFor 113 = .ok (.istore 4, 2) := by decide +kernel
theorem dX10_depthFor_115 : decode cX10_depthFor 115 = .ok (.aload_n 0, 1) := by decide +kernel
theorem dX10_depthFor_116 : decode cX10_depthFor 116 = .ok (.getfield 53, 3) := by decide +kernel
theorem dX10_depthFor_119 : decode cX10_depthFor 119 = .ok (.iload 5, 2) := by decide +kernel
theorem dX10_depthFor_121 : decode cX10_depthFor 121 = .ok (.iload 4, 2) := by decide +kernel
theorem dX10_depthFor_123 : decode cX10_depthFor 123 = .ok (.iastore, 1) := by decide +kernel
theorem dX10_depthFor_124 : decode cX10_depthFor 124 = .ok (.iload_n 2, 1) := by decide +kernel
theorem dX10_depthFor_125 : decode cX10_depthFor 125 = .ok (.iload 4, 2) := by decide +kernel
theorem dX10_depthFor_127 : decode cX10_depthFor 127 = .ok (.invokestatic 257, 3) := by decide +kernel
theorem dX10_depthFor_130 : decode cX10_depthFor 130 = .ok (.istore_n 2, 1) := by decide +kernel
theorem dX10_depthFor_131 : decode cX10_depthFor 131 = .ok (.iinc 3 1, 3) := by decide +kernel
theorem dX10_depthFor_134 : decode cX10_depthFor 134 = .ok (.goto (-106), 3) := by decide +kernel
theorem dX10_depthFor_137 : decode cX10_depthFor 137 = .ok (.iload_n 2, 1) := by decide +kernel
theorem dX10_depthFor_138 : decode cX10_depthFor 138 = .ok (.ireturn, 1) := by decide +kernel
theorem dX10_circuitTicks_0 : decode cX10_circuitTicks 0 = .ok (.iconst 1, 1) := by decide +kernel
theorem dX10_circuitTicks_1 : decode cX10_circuitTicks 1 = .ok (.aload_n 0, 1) := by decide +kernel
theorem dX10_circuitTicks_2 : decode cX10_circuitTicks 2 = .ok (.getfield 25, 3) := by decide +kernel
theorem dX10_circuitTicks_5 : decode cX10_circuitTicks 5 = .ok (.getfield 171, 3) := by decide +kernel
theorem dX10_circuitTicks_8 : decode cX10_circuitTicks 8 = .ok (.iload_n 1, 1) := by decide +kernel
theorem dX10_circuitTicks_9 : decode cX10_circuitTicks 9 = .ok (.iaload, 1) := by decide +kernel
theorem dX10_circuitTicks_10 : decode cX10_circuitTicks 10 = .ok (.iconst 1, 1) := by decide +kernel
theorem dX10_circuitTicks_11 : decode cX10_circuitTicks 11 = .ok (.aload_n 0, 1) := by decide +kernel
theorem dX10_circuitTicks_12 : decode cX10_circuitTicks 12 = .ok (.iload_n 1, 1) := by decide +kernel
theorem dX10_circuitTicks_13 : decode cX10_circuitTicks 13 = .ok (.invokevirtual 266, 3) := by decide +kernel
theorem dX10_circuitTicks_16 : decode cX10_circuitTicks 16 = .ok (.aload_n 0, 1) := by decide +kernel
theorem dX10_circuitTicks_17 : decode cX10_circuitTicks 17 = .ok (.getfield 16, 3) := by decide +kernel
theorem dX10_circuitTicks_20 : decode cX10_circuitTicks 20 = .ok (.iadd, 1) := by decide +kernel
theorem dX10_circuitTicks_21 : decode cX10_circuitTicks 21 = .ok (.iconst 1, 1) := by decide +kernel
theorem dX10_circuitTicks_22 : decode cX10_circuitTicks 22 = .ok (.isub, 1) := by decide +kernel
theorem dX10_circuitTicks_23 : decode cX10_circuitTicks 23 = .ok (.aload_n 0, 1) := by decide +kernel
theorem dX10_circuitTicks_24 : decode cX10_circuitTicks 24 = .ok (.getfield 16, 3) := by decide +kernel
theorem dX10_circuitTicks_27 : decode cX10_circuitTicks 27 = .ok (.idiv, 1) := by decide +kernel
theorem dX10_circuitTicks_28 : decode cX10_circuitTicks 28 = .ok (.invokestatic 257, 3) := by decide +kernel
theorem dX10_circuitTicks_31 : decode cX10_circuitTicks 31 = .ok (.imul, 1) := by decide +kernel
theorem dX10_circuitTicks_32 : decode cX10_circuitTicks 32 = .ok (.iadd, 1) := by decide +kernel
theorem dX10_circuitTicks_33 : decode cX10_circuitTicks 33 = .ok (.ireturn, 1) := by decide +kernel
theorem dX10_readsOf_0 : decode cX10_readsOf 0 = .ok (.iconst 0, 1) := by decide +kernel
theorem dX10_readsOf_1 : decode cX10_readsOf 1 = .ok (.istore_n 2, 1) := by decide +kernel
theorem dX10_readsOf_2 : decode cX10_readsOf 2 = .ok (.iconst 0, 1) := by decide +kernel
theorem dX10_readsOf_3 : decode cX10_readsOf 3 = .ok (.istore_n 3, 1) := by decide +kernel
theorem dX10_readsOf_4 : decode cX10_readsOf 4 = .ok (.bipush 8, 2) := by decide +kernel
theorem dX10_readsOf_6 : decode cX10_readsOf 6 = .ok (.iload_n 1, 1) := by decide +kernel
theorem dX10_readsOf_7 : decode cX10_readsOf 7 = .ok (.imul, 1) := by decide +kernel
theorem dX10_readsOf_8 : decode cX10_readsOf 8 = .ok (.istore 4, 2) := by decide +kernel
theorem dX10_readsOf_10 : decode cX10_readsOf 10 = .ok (.iload 4, 2) := by decide +kernel
theorem dX10_readsOf_12 : decode cX10_readsOf 12 = .ok (.bipush 8, 2) := by decide +kernel
theorem dX10_readsOf_14 : decode cX10_readsOf 14 = .ok (.iload_n 1, 1) := by decide +kernel
theorem dX10_readsOf_15 : decode cX10_readsOf 15 = .ok (.imul, 1) := by decide +kernel
theorem dX10_readsOf_16 : decode cX10_readsOf 16 = .ok (.aload_n 0, 1) := by decide +kernel
theorem dX10_readsOf_17 : decode cX10_readsOf 17 = .ok (.getfield 25, 3) := by decide +kernel
theorem dX10_readsOf_20 : decode cX10_readsOf 20 = .ok (.getfield 174, 3) := by decide +kernel
theorem dX10_readsOf_23 : decode cX10_readsOf 23 = .ok (.iload_n 1, 1) := by decide +kernel
theorem dX10_readsOf_24 : decode cX10_readsOf 24 = .ok (.iaload, 1) := by decide +kernel
theorem dX10_readsOf_25 : decode cX10_readsOf 25 = .ok (.iadd, 1) := by decide +kernel
theorem dX10_readsOf_26 : decode cX10_readsOf 26 = .ok (.if_icmp .ge 167, 3) := by decide +kernel
theorem dX10_readsOf_29 : decode cX10_readsOf 29 = .ok (.iconst 0, 1) := by decide +kernel
theorem dX10_readsOf_30 : decode cX10_readsOf 30 = .ok (.istore 5, 2) := by decide +kernel
theorem dX10_readsOf_32 : decode cX10_readsOf 32 = .ok (.aload_n 0, 1) := by decide +kernel
theorem dX10_readsOf_33 : decode cX10_readsOf 33 = .ok (.getfield 25, 3) := by decide +kernel
theorem dX10_readsOf_36 : decode cX10_readsOf 36 = .ok (.getfield 201, 3) := by decide +kernel
theorem dX10_readsOf_39 : decode cX10_readsOf 39 = .ok (.iload 4, 2) := by decide +kernel
theorem dX10_readsOf_41 : decode cX10_readsOf 41 = .ok (.iaload, 1) := by decide +kernel
theorem dX10_readsOf_42 : decode cX10_readsOf 42 = .ok (.istore 6, 2) := by decide +kernel
theorem dX10_readsOf_44 : decode cX10_readsOf 44 = .ok (.iload 6, 2) := by decide +kernel
theorem dX10_readsOf_46 : decode cX10_readsOf 46 = .ok (.aload_n 0, 1) := by decide +kernel
theorem dX10_readsOf_47 : decode cX10_readsOf 47 = .ok (.getfield 25, 3) := by decide +kernel
theorem dX10_readsOf_50 : decode cX10_readsOf 50 = .ok (.getfield 207, 3) := by decide +kernel
theorem dX10_readsOf_53 : decode cX10_readsOf 53 = .ok (.iload 4, 2) := by decide +kernel
theorem dX10_readsOf_55 : decode cX10_readsOf 55 = .ok (.iaload, 1) := by decide +kernel
theorem dX10_readsOf_56 : decode cX10_readsOf 56 = .ok (.if_icmp .ge 45, 3) := by decide +kernel
theorem dX10_readsOf_59 : decode cX10_readsOf 59 = .ok (.iload 5, 2) := by decide +kernel
theorem dX10_readsOf_61 : decode cX10_readsOf 61 = .ok (.aload_n 0, 1) := by decide +kernel
theorem dX10_readsOf_62 : decode cX10_readsOf 62 = .ok (.getfield 25, 3) := by decide +kernel
theorem dX10_readsOf_65 : decode cX10_readsOf 65 = .ok (.getfield 245, 3) := by decide +kernel
theorem dX10_readsOf_68 : decode cX10_readsOf 68 = .ok (.iload 6, 2) := by decide +kernel
theorem dX10_readsOf_70 : decode cX10_readsOf 70 = .ok (.iaload, 1) := by decide +kernel
theorem dX10_readsOf_71 : decode cX10_readsOf 71 = .ok (.bipush 9, 2) := by decide +kernel
theorem dX10_readsOf_73 : decode cX10_readsOf 73 = .ok (.if_icmp .ne 18, 3) := by decide +kernel
theorem dX10_readsOf_76 : decode cX10_readsOf 76 = .ok (.iconst 1, 1) := by decide +kernel
theorem dX10_readsOf_77 : decode cX10_readsOf 77 = .ok (.aload_n 0, 1) := by decide +kernel
theorem dX10_readsOf_78 : decode cX10_readsOf 78 = .ok (.getfield 25, 3) := by decide +kernel
theorem dX10_readsOf_81 : decode cX10_readsOf 81 = .ok (.getfield 251, 3) := by decide +kernel
theorem dX10_readsOf_84 : decode cX10_readsOf 84 = .ok (.iload 6, 2) := by decide +kernel
theorem dX10_readsOf_86 : decode cX10_readsOf 86 = .ok (.iaload, 1) := by decide +kernel
theorem dX10_readsOf_87 : decode cX10_readsOf 87 = .ok (.ishl, 1) := by decide +kernel
theorem dX10_readsOf_88 : decode cX10_readsOf 88 = .ok (.goto 4, 3) := by decide +kernel
theorem dX10_readsOf_91 : decode cX10_readsOf 91 = .ok (.iconst 0, 1) := by decide +kernel
theorem dX10_readsOf_92 : decode cX10_readsOf 92 = .ok (.ior, 1) := by decide +kernel
theorem dX10_readsOf_93 : decode cX10_readsOf 93 = .ok (.istore 5, 2) := by decide +kernel
theorem dX10_readsOf_95 : decode cX10_readsOf 95 = .ok (.iinc 6 1, 3) := by decide +kernel
theorem dX10_readsOf_98 : decode cX10_readsOf 98 = .ok (.goto (-54), 3) := by decide +kernel
theorem dX10_readsOf_101 : decode cX10_readsOf 101 = .ok (.aload_n 0, 1) := by decide +kernel
theorem dX10_readsOf_102 : decode cX10_readsOf 102 = .ok (.getfield 25, 3) := by decide +kernel
theorem dX10_readsOf_105 : decode cX10_readsOf 105 = .ok (.getfield 192, 3) := by decide +kernel
theorem dX10_readsOf_108 : decode cX10_readsOf 108 = .ok (.iload 4, 2) := by decide +kernel
theorem dX10_readsOf_110 : decode cX10_readsOf 110 = .ok (.iaload, 1) := by decide +kernel
theorem dX10_readsOf_111 : decode cX10_readsOf 111 = .ok (.iconst (-1), 1) := by decide +kernel
theorem dX10_readsOf_112 : decode cX10_readsOf 112 = .ok (.if_icmp .eq 33, 3) := by decide +kernel
theorem dX10_readsOf_115 : decode cX10_readsOf 115 = .ok (.iload 5, 2) := by decide +kernel
theorem dX10_readsOf_117 : decode cX10_readsOf 117 = .ok (.iconst 1, 1) := by decide +kernel
theorem dX10_readsOf_118 : decode cX10_readsOf 118 = .ok (.aload_n 0, 1) := by decide +kernel
theorem dX10_readsOf_119 : decode cX10_readsOf 119 = .ok (.getfield 25, 3) := by decide +kernel
theorem dX10_readsOf_122 : decode cX10_readsOf 122 = .ok (.getfield 192, 3) := by decide +kernel
theorem dX10_readsOf_125 : decode cX10_readsOf 125 = .ok (.iload 4, 2) := by decide +kernel
theorem dX10_readsOf_127 : decode cX10_readsOf 127 = .ok (.iaload, 1) := by decide +kernel
theorem dX10_readsOf_128 : decode cX10_readsOf 128 = .ok (.ishl, 1) := by decide +kernel
theorem dX10_readsOf_129 : decode cX10_readsOf 129 = .ok (.iconst 1, 1) := by decide +kernel
theorem dX10_readsOf_130 : decode cX10_readsOf 130 = .ok (.aload_n 0, 1) := by decide +kernel
theorem dX10_readsOf_131 : decode cX10_readsOf 131 = .ok (.getfield 25, 3) := by decide +kernel
theorem dX10_readsOf_134 : decode cX10_readsOf 134 = .ok (.getfield 198, 3) := by decide +kernel
theorem dX10_readsOf_137 : decode cX10_readsOf 137 = .ok (.iload 4, 2) := by decide +kernel
theorem dX10_readsOf_139 : decode cX10_readsOf 139 = .ok (.iaload, 1) := by decide +kernel
theorem dX10_readsOf_140 : decode cX10_readsOf 140 = .ok (.ishl, 1) := by decide +kernel
theorem dX10_readsOf_141 : decode cX10_readsOf 141 = .ok (.ior, 1) := by decide +kernel
theorem dX10_readsOf_142 : decode cX10_readsOf 142 = .ok (.ior, 1) := by decide +kernel
theorem dX10_readsOf_143 : decode cX10_readsOf 143 = .ok (.istore 5, 2) := by decide +kernel
theorem dX10_readsOf_145 : decode cX10_readsOf 145 = .ok (.iload_n 2, 1) := by decide +kernel
theorem dX10_readsOf_146 : decode cX10_readsOf 146 = .ok (.iload 5, 2) := by decide +kernel
theorem dX10_readsOf_148 : decode cX10_readsOf 148 = .ok (.iload_n 3, 1) := by decide +kernel
theorem dX10_readsOf_149 : decode cX10_readsOf 149 = .ok (.iconst (-1), 1) := by decide +kernel
theorem dX10_readsOf_150 : decode cX10_readsOf 150 = .ok (.ixor, 1) := by decide +kernel
theorem dX10_readsOf_151 : decode cX10_readsOf 151 = .ok (.iand, 1) := by decide +kernel
theorem dX10_readsOf_152 : decode cX10_readsOf 152 = .ok (.ior, 1) := by decide +kernel
theorem dX10_readsOf_153 : decode cX10_readsOf 153 = .ok (.istore_n 2, 1) := by decide +kernel
theorem dX10_readsOf_154 : decode cX10_readsOf 154 = .ok (.iload_n 3, 1) := by decide +kernel
theorem dX10_readsOf_155 : decode cX10_readsOf 155 = .ok (.aload_n 0, 1) := by decide +kernel
theorem dX10_readsOf_156 : decode cX10_readsOf 156 = .ok (.getfield 25, 3) := by decide +kernel
theorem dX10_readsOf_159 : decode cX10_readsOf 159 = .ok (.getfield 192, 3) := by decide +kernel
theorem dX10_readsOf_162 : decode cX10_readsOf 162 = .ok (.iload 4, 2) := by decide +kernel
theorem dX10_readsOf_164 : decode cX10_readsOf 164 = .ok (.iaload, 1) := by decide +kernel
theorem dX10_readsOf_165 : decode cX10_readsOf 165 = .ok (.iconst (-1), 1) := by decide +kernel
theorem dX10_readsOf_166 : decode cX10_readsOf 166 = .ok (.if_icmp .ne 18, 3) := by decide +kernel
theorem dX10_readsOf_169 : decode cX10_readsOf 169 = .ok (.iconst 1, 1) := by decide +kernel
theorem dX10_readsOf_170 : decode cX10_readsOf 170 = .ok (.aload_n 0, 1) := by decide +kernel
theorem dX10_readsOf_171 : decode cX10_readsOf 171 = .ok (.getfield 25, 3) := by decide +kernel
theorem dX10_readsOf_174 : decode cX10_readsOf 174 = .ok (.getfield 198, 3) := by decide +kernel
theorem dX10_readsOf_177 : decode cX10_readsOf 177 = .ok (.iload 4, 2) := by decide +kernel
theorem dX10_readsOf_179 : decode cX10_readsOf 179 = .ok (.iaload, 1) := by decide +kernel
theorem dX10_readsOf_180 : decode cX10_readsOf 180 = .ok (.ishl, 1) := by decide +kernel
theorem dX10_readsOf_181 : decode cX10_readsOf 181 = .ok (.goto 4, 3) := by decide +kernel
theorem dX10_readsOf_184 : decode cX10_readsOf 184 = .ok (.iconst 0, 1) := by decide +kernel
theorem dX10_readsOf_185 : decode cX10_readsOf 185 = .ok (.ior, 1) := by decide +kernel
theorem dX10_readsOf_186 : decode cX10_readsOf 186 = .ok (.istore_n 3, 1) := by decide +kernel
theorem dX10_readsOf_187 : decode cX10_readsOf 187 = .ok (.iinc 4 1, 3) := by decide +kernel
theorem dX10_readsOf_190 : decode cX10_readsOf 190 = .ok (.goto (-180), 3) := by decide +kernel
theorem dX10_readsOf_193 : decode cX10_readsOf 193 = .ok (.iload_n 2, 1) := by decide +kernel
theorem dX10_readsOf_194 : decode cX10_readsOf 194 = .ok (.ireturn, 1) := by decide +kernel
theorem dX10_writesOf_0 : decode cX10_writesOf 0 = .ok (.iconst 0, 1) := by decide +kernel
theorem dX10_writesOf_1 : decode cX10_writesOf 1 = .ok (.istore_n 2, 1) := by decide +kernel
theorem dX10_writesOf_2 : decode cX10_writesOf 2 = .ok (.bipush 8, 2) := by decide +kernel
theorem dX10_writesOf_4 : decode cX10_writesOf 4 = .ok (.iload_n 1, 1) := by decide +kernel
theorem dX10_writesOf_5 : decode cX10_writesOf 5 = .ok (.imul, 1) := by decide +kernel
theorem dX10_writesOf_6 : decode cX10_writesOf 6 = .ok (.istore_n 3, 1) := by decide +kernel
theorem dX10_writesOf_7 : decode cX10_writesOf 7 = .ok (.iload_n 3, 1) := by decide +kernel
theorem dX10_writesOf_8 : decode cX10_writesOf 8 = .ok (.bipush 8, 2) := by decide +kernel
theorem dX10_writesOf_10 : decode cX10_writesOf 10 = .ok (.iload_n 1, 1) := by decide +kernel
theorem dX10_writesOf_11 : decode cX10_writesOf 11 = .ok (.imul, 1) := by decide +kernel
theorem dX10_writesOf_12 : decode cX10_writesOf 12 = .ok (.aload_n 0, 1) := by decide +kernel
theorem dX10_writesOf_13 : decode cX10_writesOf 13 = .ok (.getfield 25, 3) := by decide +kernel
theorem dX10_writesOf_16 : decode cX10_writesOf 16 = .ok (.getfield 174, 3) := by decide +kernel
theorem dX10_writesOf_19 : decode cX10_writesOf 19 = .ok (.iload_n 1, 1) := by decide +kernel
theorem dX10_writesOf_20 : decode cX10_writesOf 20 = .ok (.iaload, 1) := by decide +kernel
theorem dX10_writesOf_21 : decode cX10_writesOf 21 = .ok (.iadd, 1) := by decide +kernel
theorem dX10_writesOf_22 : decode cX10_writesOf 22 = .ok (.if_icmp .ge 23, 3) := by decide +kernel
theorem dX10_writesOf_25 : decode cX10_writesOf 25 = .ok (.iload_n 2, 1) := by decide +kernel
theorem dX10_writesOf_26 : decode cX10_writesOf 26 = .ok (.iconst 1, 1) := by decide +kernel
theorem dX10_writesOf_27 : decode cX10_writesOf 27 = .ok (.aload_n 0, 1) := by decide +kernel
theorem dX10_writesOf_28 : decode cX10_writesOf 28 = .ok (.getfield 25, 3) := by decide +kernel
theorem dX10_writesOf_31 : decode cX10_writesOf 31 = .ok (.getfield 198, 3) := by decide +kernel
theorem dX10_writesOf_34 : decode cX10_writesOf 34 = .ok (.iload_n 3, 1) := by decide +kernel
theorem dX10_writesOf_35 : decode cX10_writesOf 35 = .ok (.iaload, 1) := by decide +kernel
theorem dX10_writesOf_36 : decode cX10_writesOf 36 = .ok (.ishl, 1) := by decide +kernel
theorem dX10_writesOf_37 : decode cX10_writesOf 37 = .ok (.ior, 1) := by decide +kernel
theorem dX10_writesOf_38 : decode cX10_writesOf 38 = .ok (.istore_n 2, 1) := by decide +kernel
theorem dX10_writesOf_39 : decode cX10_writesOf 39 = .ok (.iinc 3 1, 3) := by decide +kernel
theorem dX10_writesOf_42 : decode cX10_writesOf 42 = .ok (.goto (-35), 3) := by decide +kernel
theorem dX10_writesOf_45 : decode cX10_writesOf 45 = .ok (.iload_n 2, 1) := by decide +kernel
theorem dX10_writesOf_46 : decode cX10_writesOf 46 = .ok (.ireturn, 1) := by decide +kernel
theorem dX10_block_0 : decode cX10_block 0 = .ok (.aload_n 0, 1) := by decide +kernel
theorem dX10_block_1 : decode cX10_block 1 = .ok (.iconst 0, 1) := by decide +kernel
theorem dX10_block_2 : decode cX10_block 2 = .ok (.putfield 86, 3) := by decide +kernel
theorem dX10_block_5 : decode cX10_block 5 = .ok (.aload_n 0, 1) := by decide +kernel
theorem dX10_block_6 : decode cX10_block 6 = .ok (.iload_n 1, 1) := by decide +kernel
theorem dX10_block_7 : decode cX10_block 7 = .ok (.invokevirtual 269, 3) := by decide +kernel
theorem dX10_block_10 : decode cX10_block 10 = .ok (.ifCond .ne 5, 3) := by decide +kernel
theorem dX10_block_13 : decode cX10_block 13 = .ok (.iconst (-1), 1) := by decide +kernel
theorem dX10_block_14 : decode cX10_block 14 = .ok (.ireturn, 1) := by decide +kernel
theorem dX10_block_15 : decode cX10_block 15 = .ok (.iload_n 2, 1) := by decide +kernel
theorem dX10_block_16 : decode cX10_block 16 = .ok (.tableswitch 114 0 8 #[52, 62, 72, 78, 84, 90, 96, 102, 108], 52) := by decide +kernel
theorem dX10_block_68 : decode cX10_block 68 = .ok (.aload_n 0, 1) := by decide +kernel
theorem dX10_block_69 : decode cX10_block 69 = .ok (.getfield 25, 3) := by decide +kernel
theorem dX10_block_72 : decode cX10_block 72 = .ok (.getfield 171, 3) := by decide +kernel
theorem dX10_block_75 : decode cX10_block 75 = .ok (.iload_n 1, 1) := by decide +kernel
theorem dX10_block_76 : decode cX10_block 76 = .ok (.iaload, 1) := by decide +kernel
theorem dX10_block_77 : decode cX10_block 77 = .ok (.ireturn, 1) := by decide +kernel
theorem dX10_block_78 : decode cX10_block 78 = .ok (.aload_n 0, 1) := by decide +kernel
theorem dX10_block_79 : decode cX10_block 79 = .ok (.getfield 25, 3) := by decide +kernel
theorem dX10_block_82 : decode cX10_block 82 = .ok (.getfield 174, 3) := by decide +kernel
theorem dX10_block_85 : decode cX10_block 85 = .ok (.iload_n 1, 1) := by decide +kernel
theorem dX10_block_86 : decode cX10_block 86 = .ok (.iaload, 1) := by decide +kernel
theorem dX10_block_87 : decode cX10_block 87 = .ok (.ireturn, 1) := by decide +kernel
theorem dX10_block_88 : decode cX10_block 88 = .ok (.aload_n 0, 1) := by decide +kernel
theorem dX10_block_89 : decode cX10_block 89 = .ok (.iload_n 1, 1) := by decide +kernel
theorem dX10_block_90 : decode cX10_block 90 = .ok (.invokevirtual 272, 3) := by decide +kernel
theorem dX10_block_93 : decode cX10_block 93 = .ok (.ireturn, 1) := by decide +kernel
theorem dX10_block_94 : decode cX10_block 94 = .ok (.aload_n 0, 1) := by decide +kernel
theorem dX10_block_95 : decode cX10_block 95 = .ok (.iload_n 1, 1) := by decide +kernel
theorem dX10_block_96 : decode cX10_block 96 = .ok (.invokevirtual 275, 3) := by decide +kernel
theorem dX10_block_99 : decode cX10_block 99 = .ok (.ireturn, 1) := by decide +kernel
theorem dX10_block_100 : decode cX10_block 100 = .ok (.aload_n 0, 1) := by decide +kernel
theorem dX10_block_101 : decode cX10_block 101 = .ok (.iload_n 1, 1) := by decide +kernel
theorem dX10_block_102 : decode cX10_block 102 = .ok (.invokevirtual 278, 3) := by decide +kernel
theorem dX10_block_105 : decode cX10_block 105 = .ok (.ireturn, 1) := by decide +kernel
theorem dX10_block_106 : decode cX10_block 106 = .ok (.aload_n 0, 1) := by decide +kernel
theorem dX10_block_107 : decode cX10_block 107 = .ok (.iload_n 1, 1) := by decide +kernel
theorem dX10_block_108 : decode cX10_block 108 = .ok (.invokevirtual 266, 3) := by decide +kernel
theorem dX10_block_111 : decode cX10_block 111 = .ok (.ireturn, 1) := by decide +kernel
theorem dX10_block_112 : decode cX10_block 112 = .ok (.aload_n 0, 1) := by decide +kernel
theorem dX10_block_113 : decode cX10_block 113 = .ok (.iload_n 1, 1) := by decide +kernel
theorem dX10_block_114 : decode cX10_block 114 = .ok (.invokevirtual 281, 3) := by decide +kernel
theorem dX10_block_117 : decode cX10_block 117 = .ok (.ireturn, 1) := by decide +kernel
theorem dX10_block_118 : decode cX10_block 118 = .ok (.aload_n 0, 1) := by decide +kernel
theorem dX10_block_119 : decode cX10_block 119 = .ok (.iload_n 1, 1) := by decide +kernel
theorem dX10_block_120 : decode cX10_block 120 = .ok (.invokevirtual 284, 3) := by decide +kernel
theorem dX10_block_123 : decode cX10_block 123 = .ok (.ireturn, 1) := by decide +kernel
theorem dX10_block_124 : decode cX10_block 124 = .ok (.aload_n 0, 1) := by decide +kernel
theorem dX10_block_125 : decode cX10_block 125 = .ok (.iload_n 1, 1) := by decide +kernel
theorem dX10_block_126 : decode cX10_block 126 = .ok (.invokevirtual 287, 3) := by decide +kernel
theorem dX10_block_129 : decode cX10_block 129 = .ok (.ireturn, 1) := by decide +kernel
theorem dX10_block_130 : decode cX10_block 130 = .ok (.iconst (-1), 1) := by decide +kernel
theorem dX10_block_131 : decode cX10_block 131 = .ok (.ireturn, 1) := by decide +kernel
theorem dX10_needs_0 : decode cX10_needs 0 = .ok (.iconst 0, 1) := by decide +kernel
theorem dX10_needs_1 : decode cX10_needs 1 = .ok (.istore_n 1, 1) := by decide +kernel
theorem dX10_needs_2 : decode cX10_needs 2 = .ok (.iload_n 1, 1) := by decide +kernel
theorem dX10_needs_3 : decode cX10_needs 3 = .ok (.aload_n 0, 1) := by decide +kernel
theorem dX10_needs_4 : decode cX10_needs 4 = .ok (.getfield 25, 3) := by decide +kernel
theorem dX10_needs_7 : decode cX10_needs 7 = .ok (.getfield 146, 3) := by decide +kernel
theorem dX10_needs_10 : decode cX10_needs 10 = .ok (.if_icmp .ge 64, 3) := by decide +kernel
theorem dX10_needs_13 : decode cX10_needs 13 = .ok (.aload_n 0, 1) := by decide +kernel
theorem dX10_needs_14 : decode cX10_needs 14 = .ok (.getfield 56, 3) := by decide +kernel
theorem dX10_needs_17 : decode cX10_needs 17 = .ok (.iload_n 1, 1) := by decide +kernel
theorem dX10_needs_18 : decode cX10_needs 18 = .ok (.aload_n 0, 1) := by decide +kernel
theorem dX10_needs_19 : decode cX10_needs 19 = .ok (.iload_n 1, 1) := by decide +kernel
theorem dX10_needs_20 : decode cX10_needs 20 = .ok (.invokevirtual 275, 3) := by decide +kernel
theorem dX10_needs_23 : decode cX10_needs 23 = .ok (.iastore, 1) := by decide +kernel
theorem dX10_needs_24 : decode cX10_needs 24 = .ok (.aload_n 0, 1) := by decide +kernel
theorem dX10_needs_25 : decode cX10_needs 25 = .ok (.getfield 59, 3) := by decide +kernel
theorem dX10_needs_28 : decode cX10_needs 28 = .ok (.iload_n 1, 1) := by decide +kernel
theorem dX10_needs_29 : decode cX10_needs 29 = .ok (.aload_n 0, 1) := by decide +kernel
theorem dX10_needs_30 : decode cX10_needs 30 = .ok (.iload_n 1, 1) := by decide +kernel
theorem dX10_needs_31 : decode cX10_needs 31 = .ok (.invokevirtual 281, 3) := by decide +kernel
theorem dX10_needs_34 : decode cX10_needs 34 = .ok (.iastore, 1) := by decide +kernel
theorem dX10_needs_35 : decode cX10_needs 35 = .ok (.aload_n 0, 1) := by decide +kernel
theorem dX10_needs_36 : decode cX10_needs 36 = .ok (.getfield 62, 3) := by decide +kernel
theorem dX10_needs_39 : decode cX10_needs 39 = .ok (.iload_n 1, 1) := by decide +kernel
theorem dX10_needs_40 : decode cX10_needs 40 = .ok (.aload_n 0, 1) := by decide +kernel
theorem dX10_needs_41 : decode cX10_needs 41 = .ok (.iload_n 1, 1) := by decide +kernel
theorem dX10_needs_42 : decode cX10_needs 42 = .ok (.invokevirtual 278, 3) := by decide +kernel
theorem dX10_needs_45 : decode cX10_needs 45 = .ok (.iastore, 1) := by decide +kernel
theorem dX10_needs_46 : decode cX10_needs 46 = .ok (.aload_n 0, 1) := by decide +kernel
theorem dX10_needs_47 : decode cX10_needs 47 = .ok (.getfield 65, 3) := by decide +kernel
theorem dX10_needs_50 : decode cX10_needs 50 = .ok (.iload_n 1, 1) := by decide +kernel
theorem dX10_needs_51 : decode cX10_needs 51 = .ok (.aload_n 0, 1) := by decide +kernel
theorem dX10_needs_52 : decode cX10_needs 52 = .ok (.iload_n 1, 1) := by decide +kernel
theorem dX10_needs_53 : decode cX10_needs 53 = .ok (.invokevirtual 284, 3) := by decide +kernel
theorem dX10_needs_56 : decode cX10_needs 56 = .ok (.iastore, 1) := by decide +kernel
theorem dX10_needs_57 : decode cX10_needs 57 = .ok (.aload_n 0, 1) := by decide +kernel
theorem dX10_needs_58 : decode cX10_needs 58 = .ok (.getfield 68, 3) := by decide +kernel
theorem dX10_needs_61 : decode cX10_needs 61 = .ok (.iload_n 1, 1) := by decide +kernel
theorem dX10_needs_62 : decode cX10_needs 62 = .ok (.aload_n 0, 1) := by decide +kernel
theorem dX10_needs_63 : decode cX10_needs 63 = .ok (.iload_n 1, 1) := by decide +kernel
theorem dX10_needs_64 : decode cX10_needs 64 = .ok (.invokevirtual 287, 3) := by decide +kernel
theorem dX10_needs_67 : decode cX10_needs 67 = .ok (.iastore, 1) := by decide +kernel
theorem dX10_needs_68 : decode cX10_needs 68 = .ok (.iinc 1 1, 3) := by decide +kernel
theorem dX10_needs_71 : decode cX10_needs 71 = .ok (.goto (-69), 3) := by decide +kernel
theorem dX10_needs_74 : decode cX10_needs 74 = .ok (.return_, 1) := by decide +kernel
theorem dX10_ticksOf_0 : decode cX10_ticksOf 0 = .ok (.aload_n 0, 1) := by decide +kernel
theorem dX10_ticksOf_1 : decode cX10_ticksOf 1 = .ok (.getfield 74, 3) := by decide +kernel
theorem dX10_ticksOf_4 : decode cX10_ticksOf 4 = .ok (.astore_n 2, 1) := by decide +kernel
theorem dX10_ticksOf_5 : decode cX10_ticksOf 5 = .ok (.aload_n 2, 1) := by decide +kernel
theorem dX10_ticksOf_6 : decode cX10_ticksOf 6 = .ok (.iconst 0, 1) := by decide +kernel
theorem dX10_ticksOf_7 : decode cX10_ticksOf 7 = .ok (.sipush 255, 3) := by decide +kernel
theorem dX10_ticksOf_10 : decode cX10_ticksOf 10 = .ok (.iastore, 1) := by decide +kernel
theorem dX10_ticksOf_11 : decode cX10_ticksOf 11 = .ok (.aload_n 2, 1) := by decide +kernel
theorem dX10_ticksOf_12 : decode cX10_ticksOf 12 = .ok (.iconst 1, 1) := by decide +kernel
theorem dX10_ticksOf_13 : decode cX10_ticksOf 13 = .ok (.sipush 255, 3) := by decide +kernel
theorem dX10_ticksOf_16 : decode cX10_ticksOf 16 = .ok (.iastore, 1) := by decide +kernel
theorem dX10_ticksOf_17 : decode cX10_ticksOf 17 = .ok (.iconst 0, 1) := by decide +kernel
theorem dX10_ticksOf_18 : decode cX10_ticksOf 18 = .ok (.istore_n 3, 1) := by decide +kernel
theorem dX10_ticksOf_19 : decode cX10_ticksOf 19 = .ok (.iconst 0, 1) := by decide +kernel
theorem dX10_ticksOf_20 : decode cX10_ticksOf 20 = .ok (.istore 4, 2) := by decide +kernel
theorem dX10_ticksOf_22 : decode cX10_ticksOf 22 = .ok (.iload 4, 2) := by decide +kernel
theorem dX10_ticksOf_24 : decode cX10_ticksOf 24 = .ok (.aload_n 0, 1) := by decide +kernel
theorem dX10_ticksOf_25 : decode cX10_ticksOf 25 = .ok (.getfield 25, 3) := by decide +kernel
theorem dX10_ticksOf_28 : decode cX10_ticksOf 28 = .ok (.getfield 146, 3) := by decide +kernel
theorem dX10_ticksOf_31 : decode cX10_ticksOf 31 = .ok (.if_icmp .ge 120, 3) := by decide +kernel
theorem dX10_ticksOf_34 : decode cX10_ticksOf 34 = .ok (.iload_n 1, 1) := by decide +kernel
theorem dX10_ticksOf_35 : decode cX10_ticksOf 35 = .ok (.iload 4, 2) := by decide +kernel
theorem dX10_ticksOf_37 : decode cX10_ticksOf 37 = .ok (.ishr, 1) := by decide +kernel
theorem dX10_ticksOf_38 : decode cX10_ticksOf 38 = .ok (.iconst 1, 1) := by decide +kernel
theorem dX10_ticksOf_39 : decode cX10_ticksOf 39 = .ok (.iand, 1) := by decide +kernel
theorem dX10_ticksOf_40 : decode cX10_ticksOf 40 = .ok (.istore 5, 2) := by decide +kernel
theorem dX10_ticksOf_42 : decode cX10_ticksOf 42 = .ok (.aload_n 0, 1) := by decide +kernel
theorem dX10_ticksOf_43 : decode cX10_ticksOf 43 = .ok (.getfield 65, 3) := by decide +kernel
theorem dX10_ticksOf_46 : decode cX10_ticksOf 46 = .ok (.iload 4, 2) := by decide +kernel
theorem dX10_ticksOf_48 : decode cX10_ticksOf 48 = .ok (.iaload, 1) := by decide +kernel
theorem dX10_ticksOf_49 : decode cX10_ticksOf 49 = .ok (.aload_n 2, 1) := by decide +kernel
theorem dX10_ticksOf_50 : decode cX10_ticksOf 50 = .ok (.iload 5, 2) := by decide +kernel
theorem dX10_ticksOf_52 : decode cX10_ticksOf 52 = .ok (.iaload, 1) := by decide +kernel
theorem dX10_ticksOf_53 : decode cX10_ticksOf 53 = .ok (.iconst (-1), 1) := by decide +kernel
theorem dX10_ticksOf_54 : decode cX10_ticksOf 54 = .ok (.ixor, 1) := by decide +kernel
theorem dX10_ticksOf_55 : decode cX10_ticksOf 55 = .ok (.iand, 1) := by decide +kernel
theorem dX10_ticksOf_56 : decode cX10_ticksOf 56 = .ok (.istore 6, 2) := by decide +kernel
theorem dX10_ticksOf_58 : decode cX10_ticksOf 58 = .ok (.aload_n 0, 1) := by decide +kernel
theorem dX10_ticksOf_59 : decode cX10_ticksOf 59 = .ok (.getfield 71, 3) := by decide +kernel
theorem dX10_ticksOf_62 : decode cX10_ticksOf 62 = .ok (.iload 4, 2) := by decide +kernel
theorem dX10_ticksOf_64 : decode cX10_ticksOf 64 = .ok (.iload 6, 2) := by decide +kernel
theorem dX10_ticksOf_66 : decode cX10_ticksOf 66 = .ok (.iastore, 1) := by decide +kernel
theorem dX10_ticksOf_67 : decode cX10_ticksOf 67 = .ok (.aload_n 2, 1) := by decide +kernel
theorem dX10_ticksOf_68 : decode cX10_ticksOf 68 = .ok (.iload 5, 2) := by decide +kernel
theorem dX10_ticksOf_70 : decode cX10_ticksOf 70 = .ok (.dup2, 1) := by decide +kernel
theorem dX10_ticksOf_71 : decode cX10_ticksOf 71 = .ok (.iaload, 1) := by decide +kernel
theorem dX10_ticksOf_72 : decode cX10_ticksOf 72 = .ok (.iload 6, 2) := by decide +kernel
theorem dX10_ticksOf_74 : decode cX10_ticksOf 74 = .ok (.ior, 1) := by decide +kernel
theorem dX10_ticksOf_75 : decode cX10_ticksOf 75 = .ok (.iastore, 1) := by decide +kernel
theorem dX10_ticksOf_76 : decode cX10_ticksOf 76 = .ok (.aload_n 2, 1) := by decide +kernel
theorem dX10_ticksOf_77 : decode cX10_ticksOf 77 = .ok (.iload 5, 2) := by decide +kernel
theorem dX10_ticksOf_79 : decode cX10_ticksOf 79 = .ok (.dup2, 1) := by decide +kernel
theorem dX10_ticksOf_80 : decode cX10_ticksOf 80 = .ok (.iaload, 1) := by decide +kernel
theorem dX10_ticksOf_81 : decode cX10_ticksOf 81 = .ok (.aload_n 0, 1) := by decide +kernel
theorem dX10_ticksOf_82 : decode cX10_ticksOf 82 = .ok (.getfield 68, 3) := by decide +kernel
theorem dX10_ticksOf_85 : decode cX10_ticksOf 85 = .ok (.iload 4, 2) := by decide +kernel
theorem dX10_ticksOf_87 : decode cX10_ticksOf 87 = .ok (.iaload, 1) := by decide +kernel
theorem dX10_ticksOf_88 : decode cX10_ticksOf 88 = .ok (.ior, 1) := by decide +kernel
theorem dX10_ticksOf_89 : decode cX10_ticksOf 89 = .ok (.iastore, 1) := by decide +kernel
theorem dX10_ticksOf_90 : decode cX10_ticksOf 90 = .ok (.aload_n 2, 1) := by decide +kernel
theorem dX10_ticksOf_91 : decode cX10_ticksOf 91 = .ok (.iconst 1, 1) := by decide +kernel
theorem dX10_ticksOf_92 : decode cX10_ticksOf 92 = .ok (.iload 5, 2) := by decide +kernel
theorem dX10_ticksOf_94 : decode cX10_ticksOf 94 = .ok (.isub, 1) := by decide +kernel
theorem dX10_ticksOf_95 : decode cX10_ticksOf 95 = .ok (.dup2, 1) := by decide +kernel
theorem dX10_ticksOf_96 : decode cX10_ticksOf 96 = .ok (.iaload, 1) := by decide +kernel
theorem dX10_ticksOf_97 : decode cX10_ticksOf 97 = .ok (.aload_n 0, 1) := by decide +kernel
theorem dX10_ticksOf_98 : decode cX10_ticksOf 98 = .ok (.getfield 68, 3) := by decide +kernel
theorem dX10_ticksOf_101 : decode cX10_ticksOf 101 = .ok (.iload 4, 2) := by decide +kernel
theorem dX10_ticksOf_103 : decode cX10_ticksOf 103 = .ok (.iaload, 1) := by decide +kernel
theorem dX10_ticksOf_104 : decode cX10_ticksOf 104 = .ok (.iconst (-1), 1) := by decide +kernel
theorem dX10_ticksOf_105 : decode cX10_ticksOf 105 = .ok (.ixor, 1) := by decide +kernel
theorem dX10_ticksOf_106 : decode cX10_ticksOf 106 = .ok (.iand, 1) := by decide +kernel
theorem dX10_ticksOf_107 : decode cX10_ticksOf 107 = .ok (.iastore, 1) := by decide +kernel
theorem dX10_ticksOf_108 : decode cX10_ticksOf 108 = .ok (.iload_n 3, 1) := by decide +kernel
theorem dX10_ticksOf_109 : decode cX10_ticksOf 109 = .ok (.iload 5, 2) := by decide +kernel
theorem dX10_ticksOf_111 : decode cX10_ticksOf 111 = .ok (.iconst 1, 1) := by decide +kernel
theorem dX10_ticksOf_112 : decode cX10_ticksOf 112 = .ok (.if_icmp .ne 13, 3) := by decide +kernel
theorem dX10_ticksOf_115 : decode cX10_ticksOf 115 = .ok (.aload_n 0, 1) := by decide +kernel
theorem dX10_ticksOf_116 : decode cX10_ticksOf 116 = .ok (.getfield 59, 3) := by decide +kernel
theorem dX10_ticksOf_119 : decode cX10_ticksOf 119 = .ok (.iload 4, 2) := by decide +kernel
theorem dX10_ticksOf_121 : decode cX10_ticksOf 121 = .ok (.iaload, 1) := by decide +kernel
theorem dX10_ticksOf_122 : decode cX10_ticksOf 122 = .ok (.goto 10, 3) := by decide +kernel
theorem dX10_ticksOf_125 : decode cX10_ticksOf 125 = .ok (.aload_n 0, 1) := by decide +kernel
theorem dX10_ticksOf_126 : decode cX10_ticksOf 126 = .ok (.getfield 56, 3) := by decide +kernel
theorem dX10_ticksOf_129 : decode cX10_ticksOf 129 = .ok (.iload 4, 2) := by decide +kernel
theorem dX10_ticksOf_131 : decode cX10_ticksOf 131 = .ok (.iaload, 1) := by decide +kernel
theorem dX10_ticksOf_132 : decode cX10_ticksOf 132 = .ok (.aload_n 0, 1) := by decide +kernel
theorem dX10_ticksOf_133 : decode cX10_ticksOf 133 = .ok (.getfield 19, 3) := by decide +kernel
theorem dX10_ticksOf_136 : decode cX10_ticksOf 136 = .ok (.iload 6, 2) := by decide +kernel
theorem dX10_ticksOf_138 : decode cX10_ticksOf 138 = .ok (.invokestatic 290, 3) := by decide +kernel
theorem dX10_ticksOf_141 : decode cX10_ticksOf 141 = .ok (.imul, 1) := by decide +kernel
theorem dX10_ticksOf_142 : decode cX10_ticksOf 142 = .ok (.iadd, 1) := by decide +kernel
theorem dX10_ticksOf_143 : decode cX10_ticksOf 143 = .ok (.iadd, 1) := by decide +kernel
theorem dX10_ticksOf_144 : decode cX10_ticksOf 144 = .ok (.istore_n 3, 1) := by decide +kernel
theorem dX10_ticksOf_145 : decode cX10_ticksOf 145 = .ok (.iinc 4 1, 3) := by decide +kernel
theorem dX10_ticksOf_148 : decode cX10_ticksOf 148 = .ok (.goto (-126), 3) := by decide +kernel
theorem dX10_ticksOf_151 : decode cX10_ticksOf 151 = .ok (.aload_n 0, 1) := by decide +kernel
theorem dX10_ticksOf_152 : decode cX10_ticksOf 152 = .ok (.getfield 71, 3) := by decide +kernel
theorem dX10_ticksOf_155 : decode cX10_ticksOf 155 = .ok (.aload_n 0, 1) := by decide +kernel
theorem dX10_ticksOf_156 : decode cX10_ticksOf 156 = .ok (.getfield 25, 3) := by decide +kernel
theorem dX10_ticksOf_159 : decode cX10_ticksOf 159 = .ok (.getfield 146, 3) := by decide +kernel
theorem dX10_ticksOf_162 : decode cX10_ticksOf 162 = .ok (.sipush 255, 3) := by decide +kernel
theorem dX10_ticksOf_165 : decode cX10_ticksOf 165 = .ok (.aload_n 2, 1) := by decide +kernel
theorem dX10_ticksOf_166 : decode cX10_ticksOf 166 = .ok (.iconst 0, 1) := by decide +kernel
theorem dX10_ticksOf_167 : decode cX10_ticksOf 167 = .ok (.iaload, 1) := by decide +kernel
theorem dX10_ticksOf_168 : decode cX10_ticksOf 168 = .ok (.iconst (-1), 1) := by decide +kernel
theorem dX10_ticksOf_169 : decode cX10_ticksOf 169 = .ok (.ixor, 1) := by decide +kernel
theorem dX10_ticksOf_170 : decode cX10_ticksOf 170 = .ok (.iand, 1) := by decide +kernel
theorem dX10_ticksOf_171 : decode cX10_ticksOf 171 = .ok (.iastore, 1) := by decide +kernel
theorem dX10_ticksOf_172 : decode cX10_ticksOf 172 = .ok (.iload_n 3, 1) := by decide +kernel
theorem dX10_ticksOf_173 : decode cX10_ticksOf 173 = .ok (.aload_n 0, 1) := by decide +kernel
theorem dX10_ticksOf_174 : decode cX10_ticksOf 174 = .ok (.getfield 19, 3) := by decide +kernel
theorem dX10_ticksOf_177 : decode cX10_ticksOf 177 = .ok (.aload_n 0, 1) := by decide +kernel
theorem dX10_ticksOf_178 : decode cX10_ticksOf 178 = .ok (.getfield 71, 3) := by decide +kernel
theorem dX10_ticksOf_181 : decode cX10_ticksOf 181 = .ok (.aload_n 0, 1) := by decide +kernel
theorem dX10_ticksOf_182 : decode cX10_ticksOf 182 = .ok (.getfield 25, 3) := by decide +kernel
theorem dX10_ticksOf_185 : decode cX10_ticksOf 185 = .ok (.getfield 146, 3) := by decide +kernel
theorem dX10_ticksOf_188 : decode cX10_ticksOf 188 = .ok (.iaload, 1) := by decide +kernel
theorem dX10_ticksOf_189 : decode cX10_ticksOf 189 = .ok (.invokestatic 290, 3) := by decide +kernel
theorem dX10_ticksOf_192 : decode cX10_ticksOf 192 = .ok (.imul, 1) := by decide +kernel
theorem dX10_ticksOf_193 : decode cX10_ticksOf 193 = .ok (.iadd, 1) := by decide +kernel
theorem dX10_ticksOf_194 : decode cX10_ticksOf 194 = .ok (.ireturn, 1) := by decide +kernel
theorem dX10_gatesOfCut_0 : decode cX10_gatesOfCut 0 = .ok (.iconst 0, 1) := by decide +kernel
theorem dX10_gatesOfCut_1 : decode cX10_gatesOfCut 1 = .ok (.istore_n 2, 1) := by decide +kernel
theorem dX10_gatesOfCut_2 : decode cX10_gatesOfCut 2 = .ok (.iconst 0, 1) := by decide +kernel
theorem dX10_gatesOfCut_3 : decode cX10_gatesOfCut 3 = .ok (.istore_n 3, 1) := by decide +kernel
theorem dX10_gatesOfCut_4 : decode cX10_gatesOfCut 4 = .ok (.iload_n 3, 1) := by decide +kernel
theorem dX10_gatesOfCut_5 : decode cX10_gatesOfCut 5 = .ok (.aload_n 0, 1) := by decide +kernel
theorem dX10_gatesOfCut_6 : decode cX10_gatesOfCut 6 = .ok (.getfield 25, 3) := by decide +kernel
theorem dX10_gatesOfCut_9 : decode cX10_gatesOfCut 9 = .ok (.getfield 146, 3) := by decide +kernel
theorem dX10_gatesOfCut_12 : decode cX10_gatesOfCut 12 = .ok (.if_icmp .ge 31, 3) := by decide +kernel
theorem dX10_gatesOfCut_15 : decode cX10_gatesOfCut 15 = .ok (.iload_n 2, 1) := by decide +kernel
theorem dX10_gatesOfCut_16 : decode cX10_gatesOfCut 16 = .ok (.iload_n 1, 1) := by decide +kernel
theorem dX10_gatesOfCut_17 : decode cX10_gatesOfCut 17 = .ok (.iload_n 3, 1) := by decide +kernel
theorem dX10_gatesOfCut_18 : decode cX10_gatesOfCut 18 = .ok (.ishr, 1) := by decide +kernel
theorem dX10_gatesOfCut_19 : decode cX10_gatesOfCut 19 = .ok (.iconst 1, 1) := by decide +kernel
theorem dX10_gatesOfCut_20 : decode cX10_gatesOfCut 20 = .ok (.iand, 1) := by decide +kernel
theorem dX10_gatesOfCut_21 : decode cX10_gatesOfCut 21 = .ok (.iconst 1, 1) := by decide +kernel
theorem dX10_gatesOfCut_22 : decode cX10_gatesOfCut 22 = .ok (.if_icmp .ne 12, 3) := by decide +kernel
theorem dX10_gatesOfCut_25 : decode cX10_gatesOfCut 25 = .ok (.aload_n 0, 1) := by decide +kernel
theorem dX10_gatesOfCut_26 : decode cX10_gatesOfCut 26 = .ok (.getfield 62, 3) := by decide +kernel
theorem dX10_gatesOfCut_29 : decode cX10_gatesOfCut 29 = .ok (.iload_n 3, 1) := by decide +kernel
theorem dX10_gatesOfCut_30 : decode cX10_gatesOfCut 30 = .ok (.iaload, 1) := by decide +kernel
theorem dX10_gatesOfCut_31 : decode cX10_gatesOfCut 31 = .ok (.goto 4, 3) := by decide +kernel
theorem dX10_gatesOfCut_34 : decode cX10_gatesOfCut 34 = .ok (.iconst 0, 1) := by decide +kernel
theorem dX10_gatesOfCut_35 : decode cX10_gatesOfCut 35 = .ok (.iadd, 1) := by decide +kernel
theorem dX10_gatesOfCut_36 : decode cX10_gatesOfCut 36 = .ok (.istore_n 2, 1) := by decide +kernel
theorem dX10_gatesOfCut_37 : decode cX10_gatesOfCut 37 = .ok (.iinc 3 1, 3) := by decide +kernel
theorem dX10_gatesOfCut_40 : decode cX10_gatesOfCut 40 = .ok (.goto (-36), 3) := by decide +kernel
theorem dX10_gatesOfCut_43 : decode cX10_gatesOfCut 43 = .ok (.iload_n 2, 1) := by decide +kernel
theorem dX10_gatesOfCut_44 : decode cX10_gatesOfCut 44 = .ok (.ireturn, 1) := by decide +kernel
theorem dX10_asked_0 : decode cX10_asked 0 = .ok (.aload_n 0, 1) := by decide +kernel
theorem dX10_asked_1 : decode cX10_asked 1 = .ok (.getfield 230, 3) := by decide +kernel
theorem dX10_asked_4 : decode cX10_asked 4 = .ok (.ifCond .ne 7, 3) := by decide +kernel
theorem dX10_asked_7 : decode cX10_asked 7 = .ok (.iconst 4, 1) := by decide +kernel
theorem dX10_asked_8 : decode cX10_asked 8 = .ok (.goto 25, 3) := by decide +kernel
theorem dX10_asked_11 : decode cX10_asked 11 = .ok (.iload_n 1, 1) := by decide +kernel
theorem dX10_asked_12 : decode cX10_asked 12 = .ok (.ifCond .lt 16, 3) := by decide +kernel
theorem dX10_asked_15 : decode cX10_asked 15 = .ok (.iload_n 1, 1) := by decide +kernel
theorem dX10_asked_16 : decode cX10_asked 16 = .ok (.iconst 1, 1) := by decide +kernel
theorem dX10_asked_17 : decode cX10_asked 17 = .ok (.aload_n 0, 1) := by decide +kernel
theorem dX10_asked_18 : decode cX10_asked 18 = .ok (.getfield 25, 3) := by decide +kernel
theorem dX10_asked_21 : decode cX10_asked 21 = .ok (.getfield 146, 3) := by decide +kernel
theorem dX10_asked_24 : decode cX10_asked 24 = .ok (.ishl, 1) := by decide +kernel
theorem dX10_asked_25 : decode cX10_asked 25 = .ok (.if_icmp .lt 7, 3) := by decide +kernel
theorem dX10_asked_28 : decode cX10_asked 28 = .ok (.iconst 2, 1) := by decide +kernel
theorem dX10_asked_29 : decode cX10_asked 29 = .ok (.goto 4, 3) := by decide +kernel
theorem dX10_asked_32 : decode cX10_asked 32 = .ok (.iconst 0, 1) := by decide +kernel
theorem dX10_asked_33 : decode cX10_asked 33 = .ok (.ireturn, 1) := by decide +kernel
theorem dX10_ticks_0 : decode cX10_ticks 0 = .ok (.aload_n 0, 1) := by decide +kernel
theorem dX10_ticks_1 : decode cX10_ticks 1 = .ok (.iconst 0, 1) := by decide +kernel
theorem dX10_ticks_2 : decode cX10_ticks 2 = .ok (.putfield 86, 3) := by decide +kernel
theorem dX10_ticks_5 : decode cX10_ticks 5 = .ok (.aload_n 0, 1) := by decide +kernel
theorem dX10_ticks_6 : decode cX10_ticks 6 = .ok (.iload_n 1, 1) := by decide +kernel
theorem dX10_ticks_7 : decode cX10_ticks 7 = .ok (.invokevirtual 293, 3) := by decide +kernel
theorem dX10_ticks_10 : decode cX10_ticks 10 = .ok (.ifCond .le 13, 3) := by decide +kernel
theorem dX10_ticks_13 : decode cX10_ticks 13 = .ok (.aload_n 0, 1) := by decide +kernel
theorem dX10_ticks_14 : decode cX10_ticks 14 = .ok (.aload_n 0, 1) := by decide +kernel
theorem dX10_ticks_15 : decode cX10_ticks 15 = .ok (.iload_n 1, 1) := by decide +kernel
theorem dX10_ticks_16 : decode cX10_ticks 16 = .ok (.invokevirtual 293, 3) := by decide +kernel
theorem dX10_ticks_19 : decode cX10_ticks 19 = .ok (.invokevirtual 221, 3) := by decide +kernel
theorem dX10_ticks_22 : decode cX10_ticks 22 = .ok (.ireturn, 1) := by decide +kernel
theorem dX10_ticks_23 : decode cX10_ticks 23 = .ok (.aload_n 0, 1) := by decide +kernel
theorem dX10_ticks_24 : decode cX10_ticks 24 = .ok (.invokevirtual 296, 3) := by decide +kernel
theorem dX10_ticks_27 : decode cX10_ticks 27 = .ok (.aload_n 0, 1) := by decide +kernel
theorem dX10_ticks_28 : decode cX10_ticks 28 = .ok (.aload_n 0, 1) := by decide +kernel
theorem dX10_ticks_29 : decode cX10_ticks 29 = .ok (.iload_n 1, 1) := by decide +kernel
theorem dX10_ticks_30 : decode cX10_ticks 30 = .ok (.invokevirtual 299, 3) := by decide +kernel
theorem dX10_ticks_33 : decode cX10_ticks 33 = .ok (.invokevirtual 233, 3) := by decide +kernel
theorem dX10_ticks_36 : decode cX10_ticks 36 = .ok (.ireturn, 1) := by decide +kernel
theorem dX10_gates_0 : decode cX10_gates 0 = .ok (.aload_n 0, 1) := by decide +kernel
theorem dX10_gates_1 : decode cX10_gates 1 = .ok (.iconst 0, 1) := by decide +kernel
theorem dX10_gates_2 : decode cX10_gates 2 = .ok (.putfield 86, 3) := by decide +kernel
theorem dX10_gates_5 : decode cX10_gates 5 = .ok (.aload_n 0, 1) := by decide +kernel
theorem dX10_gates_6 : decode cX10_gates 6 = .ok (.iload_n 1, 1) := by decide +kernel
theorem dX10_gates_7 : decode cX10_gates 7 = .ok (.invokevirtual 293, 3) := by decide +kernel
theorem dX10_gates_10 : decode cX10_gates 10 = .ok (.ifCond .le 13, 3) := by decide +kernel
theorem dX10_gates_13 : decode cX10_gates 13 = .ok (.aload_n 0, 1) := by decide +kernel
theorem dX10_gates_14 : decode cX10_gates 14 = .ok (.aload_n 0, 1) := by decide +kernel
theorem dX10_gates_15 : decode cX10_gates 15 = .ok (.iload_n 1, 1) := by decide +kernel
theorem dX10_gates_16 : decode cX10_gates 16 = .ok (.invokevirtual 293, 3) := by decide +kernel
theorem dX10_gates_19 : decode cX10_gates 19 = .ok (.invokevirtual 221, 3) := by decide +kernel
theorem dX10_gates_22 : decode cX10_gates 22 = .ok (.ireturn, 1) := by decide +kernel
theorem dX10_gates_23 : decode cX10_gates 23 = .ok (.aload_n 0, 1) := by decide +kernel
theorem dX10_gates_24 : decode cX10_gates 24 = .ok (.invokevirtual 296, 3) := by decide +kernel
theorem dX10_gates_27 : decode cX10_gates 27 = .ok (.aload_n 0, 1) := by decide +kernel
theorem dX10_gates_28 : decode cX10_gates 28 = .ok (.aload_n 0, 1) := by decide +kernel
theorem dX10_gates_29 : decode cX10_gates 29 = .ok (.iload_n 1, 1) := by decide +kernel
theorem dX10_gates_30 : decode cX10_gates 30 = .ok (.invokevirtual 302, 3) := by decide +kernel
theorem dX10_gates_33 : decode cX10_gates 33 = .ok (.invokevirtual 233, 3) := by decide +kernel
theorem dX10_gates_36 : decode cX10_gates 36 = .ok (.ireturn, 1) := by decide +kernel
theorem dX10_moved_0 : decode cX10_moved 0 = .ok (.aload_n 0, 1) := by decide +kernel
theorem dX10_moved_1 : decode cX10_moved 1 = .ok (.iconst 0, 1) := by decide +kernel
theorem dX10_moved_2 : decode cX10_moved 2 = .ok (.putfield 86, 3) := by decide +kernel
theorem dX10_moved_5 : decode cX10_moved 5 = .ok (.aload_n 0, 1) := by decide +kernel
theorem dX10_moved_6 : decode cX10_moved 6 = .ok (.iload_n 1, 1) := by decide +kernel
theorem dX10_moved_7 : decode cX10_moved 7 = .ok (.invokevirtual 293, 3) := by decide +kernel
theorem dX10_moved_10 : decode cX10_moved 10 = .ok (.ifCond .le 13, 3) := by decide +kernel
theorem dX10_moved_13 : decode cX10_moved 13 = .ok (.aload_n 0, 1) := by decide +kernel
theorem dX10_moved_14 : decode cX10_moved 14 = .ok (.aload_n 0, 1) := by decide +kernel
theorem dX10_moved_15 : decode cX10_moved 15 = .ok (.iload_n 1, 1) := by decide +kernel
theorem dX10_moved_16 : decode cX10_moved 16 = .ok (.invokevirtual 293, 3) := by decide +kernel
theorem dX10_moved_19 : decode cX10_moved 19 = .ok (.invokevirtual 221, 3) := by decide +kernel
theorem dX10_moved_22 : decode cX10_moved 22 = .ok (.ireturn, 1) := by decide +kernel
theorem dX10_moved_23 : decode cX10_moved 23 = .ok (.aload_n 0, 1) := by decide +kernel
theorem dX10_moved_24 : decode cX10_moved 24 = .ok (.invokevirtual 296, 3) := by decide +kernel
theorem dX10_moved_27 : decode cX10_moved 27 = .ok (.aload_n 0, 1) := by decide +kernel
theorem dX10_moved_28 : decode cX10_moved 28 = .ok (.iload_n 1, 1) := by decide +kernel
theorem dX10_moved_29 : decode cX10_moved 29 = .ok (.invokevirtual 299, 3) := by decide +kernel
theorem dX10_moved_32 : decode cX10_moved 32 = .ok (.istore_n 2, 1) := by decide +kernel
theorem dX10_moved_33 : decode cX10_moved 33 = .ok (.iconst 0, 1) := by decide +kernel
theorem dX10_moved_34 : decode cX10_moved 34 = .ok (.istore_n 3, 1) := by decide +kernel
theorem dX10_moved_35 : decode cX10_moved 35 = .ok (.iconst 0, 1) := by decide +kernel
theorem dX10_moved_36 : decode cX10_moved 36 = .ok (.istore 4, 2) := by decide +kernel
theorem dX10_moved_38 : decode cX10_moved 38 = .ok (.iload 4, 2) := by decide +kernel
theorem dX10_moved_40 : decode cX10_moved 40 = .ok (.aload_n 0, 1) := by decide +kernel
theorem dX10_moved_41 : decode cX10_moved 41 = .ok (.getfield 25, 3) := by decide +kernel
theorem dX10_moved_44 : decode cX10_moved 44 = .ok (.getfield 146, 3) := by decide +kernel
theorem dX10_moved_47 : decode cX10_moved 47 = .ok (.if_icmp .gt 22, 3) := by decide +kernel
theorem dX10_moved_50 : decode cX10_moved 50 = .ok (.iload_n 3, 1) := by decide +kernel
theorem dX10_moved_51 : decode cX10_moved 51 = .ok (.aload_n 0, 1) := by decide +kernel
theorem dX10_moved_52 : decode cX10_moved 52 = .ok (.getfield 71, 3) := by decide +kernel
theorem dX10_moved_55 : decode cX10_moved 55 = .ok (.iload 4, 2) := by decide +kernel
theorem dX10_moved_57 : decode cX10_moved 57 = .ok (.iaload, 1) := by decide +kernel
theorem dX10_moved_58 : decode cX10_moved 58 = .ok (.invokestatic 290, 3) := by decide +kernel
theorem dX10_moved_61 : decode cX10_moved 61 = .ok (.iadd, 1) := by decide +kernel
theorem dX10_moved_62 : decode cX10_moved 62 = .ok (.istore_n 3, 1) := by decide +kernel
theorem dX10_moved_63 : decode cX10_moved 63 = .ok (.iinc 4 1, 3) := by decide +kernel
theorem dX10_moved_66 : decode cX10_moved 66 = .ok (.goto (-28), 3) := by decide +kernel
theorem dX10_moved_69 : decode cX10_moved 69 = .ok (.aload_n 0, 1) := by decide +kernel
theorem dX10_moved_70 : decode cX10_moved 70 = .ok (.iload_n 3, 1) := by decide +kernel
theorem dX10_moved_71 : decode cX10_moved 71 = .ok (.invokevirtual 233, 3) := by decide +kernel
theorem dX10_moved_74 : decode cX10_moved 74 = .ok (.ireturn, 1) := by decide +kernel
theorem dX10_room_0 : decode cX10_room 0 = .ok (.aload_n 0, 1) := by decide +kernel
theorem dX10_room_1 : decode cX10_room 1 = .ok (.iconst 0, 1) := by decide +kernel
theorem dX10_room_2 : decode cX10_room 2 = .ok (.putfield 86, 3) := by decide +kernel
theorem dX10_room_5 : decode cX10_room 5 = .ok (.aload_n 0, 1) := by decide +kernel
theorem dX10_room_6 : decode cX10_room 6 = .ok (.iload_n 1, 1) := by decide +kernel
theorem dX10_room_7 : decode cX10_room 7 = .ok (.invokevirtual 293, 3) := by decide +kernel
theorem dX10_room_10 : decode cX10_room 10 = .ok (.ifCond .le 13, 3) := by decide +kernel
theorem dX10_room_13 : decode cX10_room 13 = .ok (.aload_n 0, 1) := by decide +kernel
theorem dX10_room_14 : decode cX10_room 14 = .ok (.aload_n 0, 1) := by decide +kernel
theorem dX10_room_15 : decode cX10_room 15 = .ok (.iload_n 1, 1) := by decide +kernel
theorem dX10_room_16 : decode cX10_room 16 = .ok (.invokevirtual 293, 3) := by decide +kernel
theorem dX10_room_19 : decode cX10_room 19 = .ok (.invokevirtual 221, 3) := by decide +kernel
theorem dX10_room_22 : decode cX10_room 22 = .ok (.ireturn, 1) := by decide +kernel
theorem dX10_room_23 : decode cX10_room 23 = .ok (.aload_n 0, 1) := by decide +kernel
theorem dX10_room_24 : decode cX10_room 24 = .ok (.invokevirtual 296, 3) := by decide +kernel
theorem dX10_room_27 : decode cX10_room 27 = .ok (.aload_n 0, 1) := by decide +kernel
theorem dX10_room_28 : decode cX10_room 28 = .ok (.iload_n 1, 1) := by decide +kernel
theorem dX10_room_29 : decode cX10_room 29 = .ok (.invokevirtual 299, 3) := by decide +kernel
theorem dX10_room_32 : decode cX10_room 32 = .ok (.istore_n 2, 1) := by decide +kernel
theorem dX10_room_33 : decode cX10_room 33 = .ok (.iconst 0, 1) := by decide +kernel
theorem dX10_room_34 : decode cX10_room 34 = .ok (.istore_n 3, 1) := by decide +kernel
theorem dX10_room_35 : decode cX10_room 35 = .ok (.iconst 0, 1) := by decide +kernel
theorem dX10_room_36 : decode cX10_room 36 = .ok (.istore 4, 2) := by decide +kernel
theorem dX10_room_38 : decode cX10_room 38 = .ok (.iload 4, 2) := by decide +kernel
theorem dX10_room_40 : decode cX10_room 40 = .ok (.aload_n 0, 1) := by decide +kernel
theorem dX10_room_41 : decode cX10_room 41 = .ok (.getfield 25, 3) := by decide +kernel
theorem dX10_room_44 : decode cX10_room 44 = .ok (.getfield 146, 3) := by decide +kernel
theorem dX10_room_47 : decode cX10_room 47 = .ok (.if_icmp .gt 24, 3) := by decide +kernel
theorem dX10_room_50 : decode cX10_room 50 = .ok (.iload_n 3, 1) := by decide +kernel
theorem dX10_room_51 : decode cX10_room 51 = .ok (.aload_n 0, 1) := by decide +kernel
theorem dX10_room_52 : decode cX10_room 52 = .ok (.getfield 71, 3) := by decide +kernel
theorem dX10_room_55 : decode cX10_room 55 = .ok (.iload 4, 2) := by decide +kernel
theorem dX10_room_57 : decode cX10_room 57 = .ok (.iaload, 1) := by decide +kernel
theorem dX10_room_58 : decode cX10_room 58 = .ok (.invokestatic 290, 3) := by decide +kernel
theorem dX10_room_61 : decode cX10_room 61 = .ok (.invokestatic 257, 3) := by decide +kernel
theorem dX10_room_64 : decode cX10_room 64 = .ok (.istore_n 3, 1) := by decide +kernel
theorem dX10_room_65 : decode cX10_room 65 = .ok (.iinc 4 1, 3) := by decide +kernel
theorem dX10_room_68 : decode cX10_room 68 = .ok (.goto (-30), 3) := by decide +kernel
theorem dX10_room_71 : decode cX10_room 71 = .ok (.aload_n 0, 1) := by decide +kernel
theorem dX10_room_72 : decode cX10_room 72 = .ok (.iload_n 3, 1) := by decide +kernel
theorem dX10_room_73 : decode cX10_room 73 = .ok (.invokevirtual 233, 3) := by decide +kernel
theorem dX10_room_76 : decode cX10_room 76 = .ok (.ireturn, 1) := by decide +kernel
theorem dX10_moves_0 : decode cX10_moves 0 = .ok (.aload_n 0, 1) := by decide +kernel
theorem dX10_moves_1 : decode cX10_moves 1 = .ok (.iconst 0, 1) := by decide +kernel
theorem dX10_moves_2 : decode cX10_moves 2 = .ok (.putfield 86, 3) := by decide +kernel
theorem dX10_moves_5 : decode cX10_moves 5 = .ok (.aload_n 0, 1) := by decide +kernel
theorem dX10_moves_6 : decode cX10_moves 6 = .ok (.iload_n 1, 1) := by decide +kernel
theorem dX10_moves_7 : decode cX10_moves 7 = .ok (.invokevirtual 293, 3) := by decide +kernel
theorem dX10_moves_10 : decode cX10_moves 10 = .ok (.ifCond .le 13, 3) := by decide +kernel
theorem dX10_moves_13 : decode cX10_moves 13 = .ok (.aload_n 0, 1) := by decide +kernel
theorem dX10_moves_14 : decode cX10_moves 14 = .ok (.aload_n 0, 1) := by decide +kernel
theorem dX10_moves_15 : decode cX10_moves 15 = .ok (.iload_n 1, 1) := by decide +kernel
theorem dX10_moves_16 : decode cX10_moves 16 = .ok (.invokevirtual 293, 3) := by decide +kernel
theorem dX10_moves_19 : decode cX10_moves 19 = .ok (.invokevirtual 221, 3) := by decide +kernel
theorem dX10_moves_22 : decode cX10_moves 22 = .ok (.ireturn, 1) := by decide +kernel
theorem dX10_moves_23 : decode cX10_moves 23 = .ok (.iload_n 2, 1) := by decide +kernel
theorem dX10_moves_24 : decode cX10_moves 24 = .ok (.ifCond .lt 14, 3) := by decide +kernel
theorem dX10_moves_27 : decode cX10_moves 27 = .ok (.iload_n 2, 1) := by decide +kernel
theorem dX10_moves_28 : decode cX10_moves 28 = .ok (.aload_n 0, 1) := by decide +kernel
theorem dX10_moves_29 : decode cX10_moves 29 = .ok (.getfield 25, 3) := by decide +kernel
theorem dX10_moves_32 : decode cX10_moves 32 = .ok (.getfield 146, 3) := by decide +kernel
theorem dX10_moves_35 : decode cX10_moves 35 = .ok (.if_icmp .le 9, 3) := by decide +kernel
theorem dX10_moves_38 : decode cX10_moves 38 = .ok (.aload_n 0, 1) := by decide +kernel
theorem dX10_moves_39 : decode cX10_moves 39 = .ok (.iconst 1, 1) := by decide +kernel
theorem dX10_moves_40 : decode cX10_moves 40 = .ok (.invokevirtual 221, 3) := by decide +kernel
theorem dX10_moves_43 : decode cX10_moves 43 = .ok (.ireturn, 1) := by decide +kernel
theorem dX10_moves_44 : decode cX10_moves 44 = .ok (.aload_n 0, 1) := by decide +kernel
theorem dX10_moves_45 : decode cX10_moves 45 = .ok (.invokevirtual 296, 3) := by decide +kernel
theorem dX10_moves_48 : decode cX10_moves 48 = .ok (.aload_n 0, 1) := by decide +kernel
theorem dX10_moves_49 : decode cX10_moves 49 = .ok (.iload_n 1, 1) := by decide +kernel
theorem dX10_moves_50 : decode cX10_moves 50 = .ok (.invokevirtual 299, 3) := by decide +kernel
theorem dX10_moves_53 : decode cX10_moves 53 = .ok (.istore_n 3, 1) := by decide +kernel
theorem dX10_moves_54 : decode cX10_moves 54 = .ok (.aload_n 0, 1) := by decide +kernel
theorem dX10_moves_55 : decode cX10_moves 55 = .ok (.aload_n 0, 1) := by decide +kernel
theorem dX10_moves_56 : decode cX10_moves 56 = .ok (.getfield 71, 3) := by decide +kernel
theorem dX10_moves_59 : decode cX10_moves 59 = .ok (.iload_n 2, 1) := by decide +kernel
theorem dX10_moves_60 : decode cX10_moves 60 = .ok (.iaload, 1) := by decide +kernel
theorem dX10_moves_61 : decode cX10_moves 61 = .ok (.invokevirtual 233, 3) := by decide +kernel
theorem dX10_moves_64 : decode cX10_moves 64 = .ok (.ireturn, 1) := by decide +kernel
theorem dX10_quickest_0 : decode cX10_quickest 0 = .ok (.aload_n 0, 1) := by decide +kernel
theorem dX10_quickest_1 : decode cX10_quickest 1 = .ok (.iconst 0, 1) := by decide +kernel
theorem dX10_quickest_2 : decode cX10_quickest 2 = .ok (.putfield 86, 3) := by decide +kernel
theorem dX10_quickest_5 : decode cX10_quickest 5 = .ok (.aload_n 0, 1) := by decide +kernel
theorem dX10_quickest_6 : decode cX10_quickest 6 = .ok (.getfield 230, 3) := by decide +kernel
theorem dX10_quickest_9 : decode cX10_quickest 9 = .ok (.ifCond .ne 9, 3) := by decide +kernel
theorem dX10_quickest_12 : decode cX10_quickest 12 = .ok (.aload_n 0, 1) := by decide +kernel
theorem dX10_quickest_13 : decode cX10_quickest 13 = .ok (.iconst 4, 1) := by decide +kernel
theorem dX10_quickest_14 : decode cX10_quickest 14 = .ok (.invokevirtual 221, 3) := by decide +kernel
theorem dX10_quickest_17 : decode cX10_quickest 17 = .ok (.ireturn, 1) := by decide +kernel
theorem dX10_quickest_18 : decode cX10_quickest 18 = .ok (.iload_n 1, 1) := by decide +kernel
theorem dX10_quickest_19 : decode cX10_quickest 19 = .ok (.iconst 0, 1) := by decide +kernel
theorem dX10_quickest_20 : decode cX10_quickest 20 = .ok (.ldc_w 305, 3) := by decide +kernel
theorem dX10_quickest_23 : decode cX10_quickest 23 = .ok (.invokestatic 167, 3) := by decide +kernel
theorem dX10_quickest_26 : decode cX10_quickest 26 = .ok (.ifCond .ne 9, 3) := by decide +kernel
theorem dX10_quickest_29 : decode cX10_quickest 29 = .ok (.aload_n 0, 1) := by decide +kernel
theorem dX10_quickest_30 : decode cX10_quickest 30 = .ok (.iconst 2, 1) := by decide +kernel
theorem dX10_quickest_31 : decode cX10_quickest 31 = .ok (.invokevirtual 221, 3) := by decide +kernel
theorem dX10_quickest_34 : decode cX10_quickest 34 = .ok (.ireturn, 1) := by decide +kernel
theorem dX10_quickest_35 : decode cX10_quickest 35 = .ok (.aload_n 0, 1) := by decide +kernel
theorem dX10_quickest_36 : decode cX10_quickest 36 = .ok (.invokevirtual 296, 3) := by decide +kernel
theorem dX10_quickest_39 : decode cX10_quickest 39 = .ok (.iconst 0, 1) := by decide +kernel
theorem dX10_quickest_40 : decode cX10_quickest 40 = .ok (.istore_n 2, 1) := by decide +kernel
theorem dX10_quickest_41 : decode cX10_quickest 41 = .ok (.aload_n 0, 1) := by decide +kernel
theorem dX10_quickest_42 : decode cX10_quickest 42 = .ok (.iconst 0, 1) := by decide +kernel
theorem dX10_quickest_43 : decode cX10_quickest 43 = .ok (.invokevirtual 299, 3) := by decide +kernel
theorem dX10_quickest_46 : decode cX10_quickest 46 = .ok (.istore_n 3, 1) := by decide +kernel
theorem dX10_quickest_47 : decode cX10_quickest 47 = .ok (.iconst 0, 1) := by decide +kernel
theorem dX10_quickest_48 : decode cX10_quickest 48 = .ok (.istore 4, 2) := by decide +kernel
theorem dX10_quickest_50 : decode cX10_quickest 50 = .ok (.iconst 1, 1) := by decide +kernel
theorem dX10_quickest_51 : decode cX10_quickest 51 = .ok (.istore 5, 2) := by decide +kernel
theorem dX10_quickest_53 : decode cX10_quickest 53 = .ok (.iload 5, 2) := by decide +kernel
theorem dX10_quickest_55 : decode cX10_quickest 55 = .ok (.iconst 1, 1) := by decide +kernel
theorem dX10_quickest_56 : decode cX10_quickest 56 = .ok (.aload_n 0, 1) := by decide +kernel
theorem dX10_quickest_57 : decode cX10_quickest 57 = .ok (.getfield 25, 3) := by decide +kernel
theorem dX10_quickest_60 : decode cX10_quickest 60 = .ok (.getfield 146, 3) := by decide +kernel
theorem dX10_quickest_63 : decode cX10_quickest 63 = .ok (.ishl, 1) := by decide +kernel
theorem dX10_quickest_64 : decode cX10_quickest 64 = .ok (.if_icmp .ge 66, 3) := by decide +kernel
theorem dX10_quickest_67 : decode cX10_quickest 67 = .ok (.aload_n 0, 1) := by decide +kernel
theorem dX10_quickest_68 : decode cX10_quickest 68 = .ok (.iload 5, 2) := by decide +kernel
theorem dX10_quickest_70 : decode cX10_quickest 70 = .ok (.invokevirtual 302, 3) := by decide +kernel
theorem dX10_quickest_73 : decode cX10_quickest 73 = .ok (.istore 6, 2) := by decide +kernel
theorem dX10_quickest_75 : decode cX10_quickest 75 = .ok (.iload 6, 2) := by decide +kernel
theorem dX10_quickest_77 : decode cX10_quickest 77 = .ok (.iload_n 1, 1) := by decide +kernel
theorem dX10_quickest_78 : decode cX10_quickest 78 = .ok (.if_icmp .le 6, 3) := by decide +kernel
theorem dX10_quickest_81 : decode cX10_quickest 81 = .ok (.goto 43, 3) := by decide +kernel
theorem dX10_quickest_84 : decode cX10_quickest 84 = .ok (.aload_n 0, 1) := by decide +kernel
theorem dX10_quickest_85 : decode cX10_quickest 85 = .ok (.iload 5, 2) := by decide +kernel
theorem dX10_quickest_87 : decode cX10_quickest 87 = .ok (.invokevirtual 299, 3) := by decide +kernel
theorem dX10_quickest_90 : decode cX10_quickest 90 = .ok (.istore 7, 2) := by decide +kernel
theorem dX10_quickest_92 : decode cX10_quickest 92 = .ok (.iload 7, 2) := by decide +kernel
theorem dX10_quickest_94 : decode cX10_quickest 94 = .ok (.iload_n 3, 1) := by decide +kernel
theorem dX10_quickest_95 : decode cX10_quickest 95 = .ok (.if_icmp .gt 29, 3) := by decide +kernel
theorem dX10_quickest_98 : decode cX10_quickest 98 = .ok (.iload 7, 2) := by decide +kernel
theorem dX10_quickest_100 : decode cX10_quickest 100 = .ok (.iload_n 3, 1) := by decide +kernel
theorem dX10_quickest_101 : decode cX10_quickest 101 = .ok (.if_icmp .ne 13, 3) := by decide +kernel
theorem dX10_quickest_104 : decode cX10_quickest 104 = .ok (.iload 6, 2) := by decide +kernel
theorem dX10_quickest_106 : decode cX10_quickest 106 = .ok (.iload 4, 2) := by decide +kernel
theorem dX10_quickest_108 : decode cX10_quickest 108 = .ok (.if_icmp .lt 6, 3) := by decide +kernel
theorem dX10_quickest_111 : decode cX10_quickest 111 = .ok (.goto 13, 3) := by decide +kernel
theorem dX10_quickest_114 : decode cX10_quickest 114 = .ok (.iload 5, 2) := by decide +kernel
theorem dX10_quickest_116 : decode cX10_quickest 116 = .ok (.istore_n 2, 1) := by decide +kernel
theorem dX10_quickest_117 : decode cX10_quickest 117 = .ok (.iload 7, 2) := by decide +kernel
theorem dX10_quickest_119 : decode cX10_quickest 119 = .ok (.istore_n 3, 1) := by decide +kernel
theorem dX10_quickest_120 : decode cX10_quickest 120 = .ok (.iload 6, 2) := by decide +kernel
theorem dX10_quickest_122 : decode cX10_quickest 122 = .ok (.istore 4, 2) := by decide +kernel
theorem dX10_quickest_124 : decode cX10_quickest 124 = .ok (.iinc 5 1, 3) := by decide +kernel
theorem dX10_quickest_127 : decode cX10_quickest 127 = .ok (.goto (-74), 3) := by decide +kernel
theorem dX10_quickest_130 : decode cX10_quickest 130 = .ok (.aload_n 0, 1) := by decide +kernel
theorem dX10_quickest_131 : decode cX10_quickest 131 = .ok (.iload_n 2, 1) := by decide +kernel
theorem dX10_quickest_132 : decode cX10_quickest 132 = .ok (.invokevirtual 233, 3) := by decide +kernel
theorem dX10_quickest_135 : decode cX10_quickest 135 = .ok (.ireturn, 1) := by decide +kernel
theorem dX10_fewest_0 : decode cX10_fewest 0 = .ok (.aload_n 0, 1) := by decide +kernel
theorem dX10_fewest_1 : decode cX10_fewest 1 = .ok (.iconst 0, 1) := by decide +kernel
theorem dX10_fewest_2 : decode cX10_fewest 2 = .ok (.putfield 86, 3) := by decide +kernel
theorem dX10_fewest_5 : decode cX10_fewest 5 = .ok (.aload_n 0, 1) := by decide +kernel
theorem dX10_fewest_6 : decode cX10_fewest 6 = .ok (.getfield 230, 3) := by decide +kernel
theorem dX10_fewest_9 : decode cX10_fewest 9 = .ok (.ifCond .ne 9, 3) := by decide +kernel
theorem dX10_fewest_12 : decode cX10_fewest 12 = .ok (.aload_n 0, 1) := by decide +kernel
theorem dX10_fewest_13 : decode cX10_fewest 13 = .ok (.iconst 4, 1) := by decide +kernel
theorem dX10_fewest_14 : decode cX10_fewest 14 = .ok (.invokevirtual 221, 3) := by decide +kernel
theorem dX10_fewest_17 : decode cX10_fewest 17 = .ok (.ireturn, 1) := by decide +kernel
theorem dX10_fewest_18 : decode cX10_fewest 18 = .ok (.iload_n 1, 1) := by decide +kernel
theorem dX10_fewest_19 : decode cX10_fewest 19 = .ok (.ifCond .ge 9, 3) := by decide +kernel
theorem dX10_fewest_22 : decode cX10_fewest 22 = .ok (.aload_n 0, 1) := by decide +kernel
theorem dX10_fewest_23 : decode cX10_fewest 23 = .ok (.iconst 2, 1) := by decide +kernel
theorem dX10_fewest_24 : decode cX10_fewest 24 = .ok (.invokevirtual 221, 3) := by decide +kernel
theorem dX10_fewest_27 : decode cX10_fewest 27 = .ok (.ireturn, 1) := by decide +kernel
theorem dX10_fewest_28 : decode cX10_fewest 28 = .ok (.aload_n 0, 1) := by decide +kernel
theorem dX10_fewest_29 : decode cX10_fewest 29 = .ok (.invokevirtual 296, 3) := by decide +kernel
theorem dX10_fewest_32 : decode cX10_fewest 32 = .ok (.bipush (-2), 2) := by decide +kernel
theorem dX10_fewest_34 : decode cX10_fewest 34 = .ok (.istore_n 2, 1) := by decide +kernel
theorem dX10_fewest_35 : decode cX10_fewest 35 = .ok (.iconst 0, 1) := by decide +kernel
theorem dX10_fewest_36 : decode cX10_fewest 36 = .ok (.istore_n 3, 1) := by decide +kernel
theorem dX10_fewest_37 : decode cX10_fewest 37 = .ok (.iload_n 3, 1) := by decide +kernel
theorem dX10_fewest_38 : decode cX10_fewest 38 = .ok (.iconst 1, 1) := by decide +kernel
theorem dX10_fewest_39 : decode cX10_fewest 39 = .ok (.aload_n 0, 1) := by decide +kernel
theorem dX10_fewest_40 : decode cX10_fewest 40 = .ok (.getfield 25, 3) := by decide +kernel
theorem dX10_fewest_43 : decode cX10_fewest 43 = .ok (.getfield 146, 3) := by decide +kernel
theorem dX10_fewest_46 : decode cX10_fewest 46 = .ok (.ishl, 1) := by decide +kernel
theorem dX10_fewest_47 : decode cX10_fewest 47 = .ok (.if_icmp .ge 46, 3) := by decide +kernel
theorem dX10_fewest_50 : decode cX10_fewest 50 = .ok (.aload_n 0, 1) := by decide +kernel
theorem dX10_fewest_51 : decode cX10_fewest 51 = .ok (.iload_n 3, 1) := by decide +kernel
theorem dX10_fewest_52 : decode cX10_fewest 52 = .ok (.invokevirtual 299, 3) := by decide +kernel
theorem dX10_fewest_55 : decode cX10_fewest 55 = .ok (.iload_n 1, 1) := by decide +kernel
theorem dX10_fewest_56 : decode cX10_fewest 56 = .ok (.if_icmp .le 6, 3) := by decide +kernel
theorem dX10_fewest_59 : decode cX10_fewest 59 = .ok (.goto 28, 3) := by decide +kernel
theorem dX10_fewest_62 : decode cX10_fewest 62 = .ok (.aload_n 0, 1) := by decide +kernel
theorem dX10_fewest_63 : decode cX10_fewest 63 = .ok (.iload_n 3, 1) := by decide +kernel
theorem dX10_fewest_64 : decode cX10_fewest 64 = .ok (.invokevirtual 302, 3) := by decide +kernel
theorem dX10_fewest_67 : decode cX10_fewest 67 = .ok (.istore 4, 2) := by decide +kernel
theorem dX10_fewest_69 : decode cX10_fewest 69 = .ok (.iload_n 2, 1) := by decide +kernel
theorem dX10_fewest_70 : decode cX10_fewest 70 = .ok (.bipush (-2), 2) := by decide +kernel
theorem dX10_fewest_72 : decode cX10_fewest 72 = .ok (.if_icmp .ne 8, 3) := by decide +kernel
theorem dX10_fewest_75 : decode cX10_fewest 75 = .ok (.iload 4, 2) := by decide +kernel
theorem dX10_fewest_77 : decode cX10_fewest 77 = .ok (.goto 9, 3) := by decide +kernel
theorem dX10_fewest_80 : decode cX10_fewest 80 = .ok (.iload_n 2, 1) := by decide +kernel
theorem dX10_fewest_81 : decode cX10_fewest 81 = .ok (.iload 4, 2) := by decide +kernel
theorem dX10_fewest_83 : decode cX10_fewest 83 = .ok (.invokestatic 306, 3) := by decide +kernel
theorem dX10_fewest_86 : decode cX10_fewest 86 = .ok (.istore_n 2, 1) := by decide +kernel
theorem dX10_fewest_87 : decode cX10_fewest 87 = .ok (.iinc 3 1, 3) := by decide +kernel
theorem dX10_fewest_90 : decode cX10_fewest 90 = .ok (.goto (-53), 3) := by decide +kernel
theorem dX10_fewest_93 : decode cX10_fewest 93 = .ok (.aload_n 0, 1) := by decide +kernel
theorem dX10_fewest_94 : decode cX10_fewest 94 = .ok (.iload_n 2, 1) := by decide +kernel
theorem dX10_fewest_95 : decode cX10_fewest 95 = .ok (.invokevirtual 233, 3) := by decide +kernel
theorem dX10_fewest_98 : decode cX10_fewest 98 = .ok (.ireturn, 1) := by decide +kernel
theorem dX10_turn_0 : decode cX10_turn 0 = .ok (.aload_n 0, 1) := by decide +kernel
theorem dX10_turn_1 : decode cX10_turn 1 = .ok (.iconst 0, 1) := by decide +kernel
theorem dX10_turn_2 : decode cX10_turn 2 = .ok (.putfield 86, 3) := by decide +kernel
theorem dX10_turn_5 : decode cX10_turn 5 = .ok (.aload_n 0, 1) := by decide +kernel
theorem dX10_turn_6 : decode cX10_turn 6 = .ok (.iload_n 1, 1) := by decide +kernel
theorem dX10_turn_7 : decode cX10_turn 7 = .ok (.invokevirtual 293, 3) := by decide +kernel
theorem dX10_turn_10 : decode cX10_turn 10 = .ok (.ifCond .le 11, 3) := by decide +kernel
theorem dX10_turn_13 : decode cX10_turn 13 = .ok (.aload_n 0, 1) := by decide +kernel
theorem dX10_turn_14 : decode cX10_turn 14 = .ok (.iload_n 1, 1) := by decide +kernel
theorem dX10_turn_15 : decode cX10_turn 15 = .ok (.invokevirtual 293, 3) := by decide +kernel
theorem dX10_turn_18 : decode cX10_turn 18 = .ok (.goto 16, 3) := by decide +kernel
theorem dX10_turn_21 : decode cX10_turn 21 = .ok (.aload_n 0, 1) := by decide +kernel
theorem dX10_turn_22 : decode cX10_turn 22 = .ok (.iload_n 2, 1) := by decide +kernel
theorem dX10_turn_23 : decode cX10_turn 23 = .ok (.invokevirtual 269, 3) := by decide +kernel
theorem dX10_turn_26 : decode cX10_turn 26 = .ok (.ifCond .eq 7, 3) := by decide +kernel
theorem dX10_turn_29 : decode cX10_turn 29 = .ok (.iconst 0, 1) := by decide +kernel
theorem dX10_turn_30 : decode cX10_turn 30 = .ok (.goto 4, 3) := by decide +kernel
theorem dX10_turn_33 : decode cX10_turn 33 = .ok (.iconst 1, 1) := by decide +kernel
theorem dX10_turn_34 : decode cX10_turn 34 = .ok (.istore_n 3, 1) := by decide +kernel
theorem dX10_turn_35 : decode cX10_turn 35 = .ok (.iload_n 3, 1) := by decide +kernel
theorem dX10_turn_36 : decode cX10_turn 36 = .ok (.ifCond .le 14, 3) := by decide +kernel
theorem dX10_turn_39 : decode cX10_turn 39 = .ok (.aload_n 0, 1) := by decide +kernel
theorem dX10_turn_40 : decode cX10_turn 40 = .ok (.iload_n 3, 1) := by decide +kernel
theorem dX10_turn_41 : decode cX10_turn 41 = .ok (.invokevirtual 221, 3) := by decide +kernel
theorem dX10_turn_44 : decode cX10_turn 44 = .ok (.istore 4, 2) := by decide +kernel
theorem dX10_turn_46 : decode cX10_turn 46 = .ok (.ldc_w 311, 3) := by decide +kernel
theorem dX10_turn_49 : decode cX10_turn 49 = .ok (.ireturn, 1) := by decide +kernel
theorem dX10_turn_50 : decode cX10_turn 50 = .ok (.aload_n 0, 1) := by decide +kernel
theorem dX10_turn_51 : decode cX10_turn 51 = .ok (.invokevirtual 296, 3) := by decide +kernel
theorem dX10_turn_54 : decode cX10_turn 54 = .ok (.aload_n 0, 1) := by decide +kernel
theorem dX10_turn_55 : decode cX10_turn 55 = .ok (.iload_n 1, 1) := by decide +kernel
theorem dX10_turn_56 : decode cX10_turn 56 = .ok (.invokevirtual 299, 3) := by decide +kernel
theorem dX10_turn_59 : decode cX10_turn 59 = .ok (.istore 4, 2) := by decide +kernel
theorem dX10_turn_61 : decode cX10_turn 61 = .ok (.aload_n 0, 1) := by decide +kernel
theorem dX10_turn_62 : decode cX10_turn 62 = .ok (.aload_n 0, 1) := by decide +kernel
theorem dX10_turn_63 : decode cX10_turn 63 = .ok (.iload_n 1, 1) := by decide +kernel
theorem dX10_turn_64 : decode cX10_turn 64 = .ok (.iconst 1, 1) := by decide +kernel
theorem dX10_turn_65 : decode cX10_turn 65 = .ok (.iload_n 2, 1) := by decide +kernel
theorem dX10_turn_66 : decode cX10_turn 66 = .ok (.ishl, 1) := by decide +kernel
theorem dX10_turn_67 : decode cX10_turn 67 = .ok (.ixor, 1) := by decide +kernel
theorem dX10_turn_68 : decode cX10_turn 68 = .ok (.invokevirtual 299, 3) := by decide +kernel
theorem dX10_turn_71 : decode cX10_turn 71 = .ok (.iload 4, 2) := by decide +kernel
theorem dX10_turn_73 : decode cX10_turn 73 = .ok (.isub, 1) := by decide +kernel
theorem dX10_turn_74 : decode cX10_turn 74 = .ok (.invokevirtual 233, 3) := by decide +kernel
theorem dX10_turn_77 : decode cX10_turn 77 = .ok (.ireturn, 1) := by decide +kernel
theorem dX10_edges_0 : decode cX10_edges 0 = .ok (.aload_n 0, 1) := by decide +kernel
theorem dX10_edges_1 : decode cX10_edges 1 = .ok (.iconst 0, 1) := by decide +kernel
theorem dX10_edges_2 : decode cX10_edges 2 = .ok (.putfield 86, 3) := by decide +kernel
theorem dX10_edges_5 : decode cX10_edges 5 = .ok (.aload_n 0, 1) := by decide +kernel
theorem dX10_edges_6 : decode cX10_edges 6 = .ok (.getfield 230, 3) := by decide +kernel
theorem dX10_edges_9 : decode cX10_edges 9 = .ok (.ifCond .ne 9, 3) := by decide +kernel
theorem dX10_edges_12 : decode cX10_edges 12 = .ok (.aload_n 0, 1) := by decide +kernel
theorem dX10_edges_13 : decode cX10_edges 13 = .ok (.iconst 4, 1) := by decide +kernel
theorem dX10_edges_14 : decode cX10_edges 14 = .ok (.invokevirtual 221, 3) := by decide +kernel
theorem dX10_edges_17 : decode cX10_edges 17 = .ok (.ireturn, 1) := by decide +kernel
theorem dX10_edges_18 : decode cX10_edges 18 = .ok (.aload_n 0, 1) := by decide +kernel
theorem dX10_edges_19 : decode cX10_edges 19 = .ok (.invokevirtual 296, 3) := by decide +kernel
theorem dX10_edges_22 : decode cX10_edges 22 = .ok (.iconst 1, 1) := by decide +kernel
theorem dX10_edges_23 : decode cX10_edges 23 = .ok (.aload_n 0, 1) := by decide +kernel
theorem dX10_edges_24 : decode cX10_edges 24 = .ok (.getfield 25, 3) := by decide +kernel
theorem dX10_edges_27 : decode cX10_edges 27 = .ok (.getfield 146, 3) := by decide +kernel
theorem dX10_edges_30 : decode cX10_edges 30 = .ok (.ishl, 1) := by decide +kernel
theorem dX10_edges_31 : decode cX10_edges 31 = .ok (.istore_n 1, 1) := by decide +kernel
theorem dX10_edges_32 : decode cX10_edges 32 = .ok (.iconst 0, 1) := by decide +kernel
theorem dX10_edges_33 : decode cX10_edges 33 = .ok (.istore_n 2, 1) := by decide +kernel
theorem dX10_edges_34 : decode cX10_edges 34 = .ok (.iload_n 2, 1) := by decide +kernel
theorem dX10_edges_35 : decode cX10_edges 35 = .ok (.iload_n 1, 1) := by decide +kernel
theorem dX10_edges_36 : decode cX10_edges 36 = .ok (.if_icmp .ge 31, 3) := by decide +kernel
theorem dX10_edges_39 : decode cX10_edges 39 = .ok (.aload_n 0, 1) := by decide +kernel
theorem dX10_edges_40 : decode cX10_edges 40 = .ok (.getfield 80, 3) := by decide +kernel
theorem dX10_edges_43 : decode cX10_edges 43 = .ok (.iload_n 2, 1) := by decide +kernel
theorem dX10_edges_44 : decode cX10_edges 44 = .ok (.aload_n 0, 1) := by decide +kernel
theorem dX10_edges_45 : decode cX10_edges 45 = .ok (.iload_n 2, 1) := by decide +kernel
theorem dX10_edges_46 : decode cX10_edges 46 = .ok (.invokevirtual 299, 3) := by decide +kernel
theorem dX10_edges_49 : decode cX10_edges 49 = .ok (.iastore, 1) := by decide +kernel
theorem dX10_edges_50 : decode cX10_edges 50 = .ok (.aload_n 0, 1) := by decide +kernel
theorem dX10_edges_51 : decode cX10_edges 51 = .ok (.getfield 83, 3) := by decide +kernel
theorem dX10_edges_54 : decode cX10_edges 54 = .ok (.iload_n 2, 1) := by decide +kernel
theorem dX10_edges_55 : decode cX10_edges 55 = .ok (.aload_n 0, 1) := by decide +kernel
theorem dX10_edges_56 : decode cX10_edges 56 = .ok (.iload_n 2, 1) := by decide +kernel
theorem dX10_edges_57 : decode cX10_edges 57 = .ok (.invokevirtual 302, 3) := by decide +kernel
theorem dX10_edges_60 : decode cX10_edges 60 = .ok (.iastore, 1) := by decide +kernel
theorem dX10_edges_61 : decode cX10_edges 61 = .ok (.iinc 2 1, 3) := by decide +kernel
theorem dX10_edges_64 : decode cX10_edges 64 = .ok (.goto (-30), 3) := by decide +kernel
theorem dX10_edges_67 : decode cX10_edges 67 = .ok (.aload_n 0, 1) := by decide +kernel
theorem dX10_edges_68 : decode cX10_edges 68 = .ok (.iconst 0, 1) := by decide +kernel
theorem dX10_edges_69 : decode cX10_edges 69 = .ok (.putfield 312, 3) := by decide +kernel
theorem dX10_edges_72 : decode cX10_edges 72 = .ok (.ldc_w 315, 3) := by decide +kernel
theorem dX10_edges_75 : decode cX10_edges 75 = .ok (.istore_n 2, 1) := by decide +kernel
theorem dX10_edges_76 : decode cX10_edges 76 = .ok (.iconst 1, 1) := by decide +kernel
theorem dX10_edges_77 : decode cX10_edges 77 = .ok (.istore_n 3, 1) := by decide +kernel
theorem dX10_edges_78 : decode cX10_edges 78 = .ok (.iload_n 3, 1) := by decide +kernel
theorem dX10_edges_79 : decode cX10_edges 79 = .ok (.ifCond .eq 147, 3) := by decide +kernel
theorem dX10_edges_82 : decode cX10_edges 82 = .ok (.iconst (-1), 1) := by decide +kernel
theorem dX10_edges_83 : decode cX10_edges 83 = .ok (.istore 4, 2) := by decide +kernel
theorem dX10_edges_85 : decode cX10_edges 85 = .ok (.iconst 0, 1) := by decide +kernel
theorem dX10_edges_86 : decode cX10_edges 86 = .ok (.istore 5, 2) := by decide +kernel
theorem dX10_edges_88 : decode cX10_edges 88 = .ok (.iload 5, 2) := by decide +kernel
theorem dX10_edges_90 : decode cX10_edges 90 = .ok (.iload_n 1, 1) := by decide +kernel
theorem dX10_edges_91 : decode cX10_edges 91 = .ok (.if_icmp .ge 84, 3) := by decide +kernel
theorem dX10_edges_94 : decode cX10_edges 94 = .ok (.aload_n 0, 1) := by decide +kernel
theorem dX10_edges_95 : decode cX10_edges 95 = .ok (.getfield 80, 3) := by decide +kernel
theorem dX10_edges_98 : decode cX10_edges 98 = .ok (.iload 5, 2) := by decide +kernel
theorem dX10_edges_100 : decode cX10_edges 100 = .ok (.iaload, 1) := by decide +kernel
theorem dX10_edges_101 : decode cX10_edges 101 = .ok (.iload_n 2, 1) := by decide +kernel
theorem dX10_edges_102 : decode cX10_edges 102 = .ok (.if_icmp .lt 6, 3) := by decide +kernel
theorem dX10_edges_105 : decode cX10_edges 105 = .ok (.goto 64, 3) := by decide +kernel
theorem dX10_edges_108 : decode cX10_edges 108 = .ok (.iload 4, 2) := by decide +kernel
theorem dX10_edges_110 : decode cX10_edges 110 = .ok (.iconst (-1), 1) := by decide +kernel
theorem dX10_edges_111 : decode cX10_edges 111 = .ok (.if_icmp .eq 54, 3) := by decide +kernel
theorem dX10_edges_114 : decode cX10_edges 114 = .ok (.aload_n 0, 1) := by decide +kernel
theorem dX10_edges_115 : decode cX10_edges 115 = .ok (.getfield 83, 3) := by decide +kernel
theorem dX10_edges_118 : decode cX10_edges 118 = .ok (.iload 5, 2) := by decide +kernel
theorem dX10_edges_120 : decode cX10_edges 120 = .ok (.iaload, 1) := by decide +kernel
theorem dX10_edges_121 : decode cX10_edges 121 = .ok (.aload_n 0, 1) := by decide +kernel
theorem dX10_edges_122 : decode cX10_edges 122 = .ok (.getfield 83, 3) := by decide +kernel
theorem dX10_edges_125 : decode cX10_edges 125 = .ok (.iload 4, 2) := by decide +kernel
theorem dX10_edges_127 : decode cX10_edges 127 = .ok (.iaload, 1) := by decide +kernel
theorem dX10_edges_128 : decode cX10_edges 128 = .ok (.if_icmp .lt 37, 3) := by decide +kernel
theorem dX10_edges_131 : decode cX10_edges 131 = .ok (.aload_n 0, 1) := by decide +kernel
theorem dX10_edges_132 : decode cX10_edges 132 = .ok (.getfield 83, 3) := by decide +kernel
theorem dX10_edges_135 : decode cX10_edges 135 = .ok (.iload 5, 2) := by decide +kernel
theorem dX10_edges_137 : decode cX10_edges 137 = .ok (.iaload, 1) := by decide +kernel
theorem dX10_edges_138 : decode cX10_edges 138 = .ok (.aload_n 0, 1) := by decide +kernel
theorem dX10_edges_139 : decode cX10_edges 139 = .ok (.getfield 83, 3) := by decide +kernel
theorem dX10_edges_142 : decode cX10_edges 142 = .ok (.iload 4, 2) := by decide +kernel
theorem dX10_edges_144 : decode cX10_edges 144 = .ok (.iaload, 1) := by decide +kernel
theorem dX10_edges_145 : decode cX10_edges 145 = .ok (.if_icmp .ne 24, 3) := by decide +kernel
theorem dX10_edges_148 : decode cX10_edges 148 = .ok (.aload_n 0, 1) := by decide +kernel
theorem dX10_edges_149 : decode cX10_edges 149 = .ok (.getfield 80, 3) := by decide +kernel
theorem dX10_edges_152 : decode cX10_edges 152 = .ok (.iload 5, 2) := by decide +kernel
theorem dX10_edges_154 : decode cX10_edges 154 = .ok (.iaload, 1) := by decide +kernel
theorem dX10_edges_155 : decode cX10_edges 155 = .ok (.aload_n 0, 1) := by decide +kernel
theorem dX10_edges_156 : decode cX10_edges 156 = .ok (.getfield 80, 3) := by decide +kernel
theorem dX10_edges_159 : decode cX10_edges 159 = .ok (.iload 4, 2) := by decide +kernel
theorem dX10_edges_161 : decode cX10_edges 161 = .ok (.iaload, 1) := by decide +kernel
theorem dX10_edges_162 : decode cX10_edges 162 = .ok (.if_icmp .ge 7, 3) := by decide +kernel
theorem dX10_edges_165 : decode cX10_edges 165 = .ok (.iload 5, 2) := by decide +kernel
theorem dX10_edges_167 : decode cX10_edges 167 = .ok (.istore 4, 2) := by decide +kernel
theorem dX10_edges_169 : decode cX10_edges 169 = .ok (.iinc 5 1, 3) := by decide +kernel
theorem dX10_edges_172 : decode cX10_edges 172 = .ok (.goto (-84), 3) := by decide +kernel
theorem dX10_edges_175 : decode cX10_edges 175 = .ok (.iload 4, 2) := by decide +kernel
theorem dX10_edges_177 : decode cX10_edges 177 = .ok (.iconst (-1), 1) := by decide +kernel
theorem dX10_edges_178 : decode cX10_edges 178 = .ok (.if_icmp .eq 7, 3) := by decide +kernel
theorem dX10_edges_181 : decode cX10_edges 181 = .ok (.iconst 1, 1) := by decide +kernel
theorem dX10_edges_182 : decode cX10_edges 182 = .ok (.goto 4, 3) := by decide +kernel
theorem dX10_edges_185 : decode cX10_edges 185 = .ok (.iconst 0, 1) := by decide +kernel
theorem dX10_edges_186 : decode cX10_edges 186 = .ok (.istore_n 3, 1) := by decide +kernel
theorem dX10_edges_187 : decode cX10_edges 187 = .ok (.iload_n 3, 1) := by decide +kernel
theorem dX10_edges_188 : decode cX10_edges 188 = .ok (.ifCond .ne 6, 3) := by decide +kernel
theorem dX10_edges_191 : decode cX10_edges 191 = .ok (.goto (-113), 3) := by decide +kernel
theorem dX10_edges_194 : decode cX10_edges 194 = .ok (.aload_n 0, 1) := by decide +kernel
theorem dX10_edges_195 : decode cX10_edges 195 = .ok (.getfield 77, 3) := by decide +kernel
theorem dX10_edges_198 : decode cX10_edges 198 = .ok (.aload_n 0, 1) := by decide +kernel
theorem dX10_edges_199 : decode cX10_edges 199 = .ok (.getfield 312, 3) := by decide +kernel
theorem dX10_edges_202 : decode cX10_edges 202 = .ok (.iload 4, 2) := by decide +kernel
theorem dX10_edges_204 : decode cX10_edges 204 = .ok (.iastore, 1) := by decide +kernel
theorem dX10_edges_205 : decode cX10_edges 205 = .ok (.aload_n 0, 1) := by decide +kernel
theorem dX10_edges_206 : decode cX10_edges 206 = .ok (.dup, 1) := by decide +kernel
theorem dX10_edges_207 : decode cX10_edges 207 = .ok (.getfield 312, 3) := by decide +kernel
theorem dX10_edges_210 : decode cX10_edges 210 = .ok (.iconst 1, 1) := by decide +kernel
theorem dX10_edges_211 : decode cX10_edges 211 = .ok (.iadd, 1) := by decide +kernel
theorem dX10_edges_212 : decode cX10_edges 212 = .ok (.putfield 312, 3) := by decide +kernel
theorem dX10_edges_215 : decode cX10_edges 215 = .ok (.aload_n 0, 1) := by decide +kernel
theorem dX10_edges_216 : decode cX10_edges 216 = .ok (.getfield 80, 3) := by decide +kernel
theorem dX10_edges_219 : decode cX10_edges 219 = .ok (.iload 4, 2) := by decide +kernel
theorem dX10_edges_221 : decode cX10_edges 221 = .ok (.iaload, 1) := by decide +kernel
theorem dX10_edges_222 : decode cX10_edges 222 = .ok (.istore_n 2, 1) := by decide +kernel
theorem dX10_edges_223 : decode cX10_edges 223 = .ok (.goto (-145), 3) := by decide +kernel
theorem dX10_edges_226 : decode cX10_edges 226 = .ok (.aload_n 0, 1) := by decide +kernel
theorem dX10_edges_227 : decode cX10_edges 227 = .ok (.aload_n 0, 1) := by decide +kernel
theorem dX10_edges_228 : decode cX10_edges 228 = .ok (.getfield 312, 3) := by decide +kernel
theorem dX10_edges_231 : decode cX10_edges 231 = .ok (.invokevirtual 233, 3) := by decide +kernel
theorem dX10_edges_234 : decode cX10_edges 234 = .ok (.ireturn, 1) := by decide +kernel
theorem dX10_edge_0 : decode cX10_edge 0 = .ok (.aload_n 0, 1) := by decide +kernel
theorem dX10_edge_1 : decode cX10_edge 1 = .ok (.iconst 0, 1) := by decide +kernel
theorem dX10_edge_2 : decode cX10_edge 2 = .ok (.putfield 86, 3) := by decide +kernel
theorem dX10_edge_5 : decode cX10_edge 5 = .ok (.iload_n 1, 1) := by decide +kernel
theorem dX10_edge_6 : decode cX10_edge 6 = .ok (.ifCond .lt 20, 3) := by decide +kernel
theorem dX10_edge_9 : decode cX10_edge 9 = .ok (.iload_n 1, 1) := by decide +kernel
theorem dX10_edge_10 : decode cX10_edge 10 = .ok (.aload_n 0, 1) := by decide +kernel
theorem dX10_edge_11 : decode cX10_edge 11 = .ok (.getfield 312, 3) := by decide +kernel
theorem dX10_edge_14 : decode cX10_edge 14 = .ok (.if_icmp .ge 12, 3) := by decide +kernel
theorem dX10_edge_17 : decode cX10_edge 17 = .ok (.aload_n 0, 1) := by decide +kernel
theorem dX10_edge_18 : decode cX10_edge 18 = .ok (.getfield 77, 3) := by decide +kernel
theorem dX10_edge_21 : decode cX10_edge 21 = .ok (.iload_n 1, 1) := by decide +kernel
theorem dX10_edge_22 : decode cX10_edge 22 = .ok (.iaload, 1) := by decide +kernel
theorem dX10_edge_23 : decode cX10_edge 23 = .ok (.goto 4, 3) := by decide +kernel
theorem dX10_edge_26 : decode cX10_edge 26 = .ok (.iconst (-1), 1) := by decide +kernel
theorem dX10_edge_27 : decode cX10_edge 27 = .ok (.ireturn, 1) := by decide +kernel
theorem dX10_worked_0 : decode cX10_worked 0 = .ok (.iconst 0, 1) := by decide +kernel
theorem dX10_worked_1 : decode cX10_worked 1 = .ok (.istore_n 3, 1) := by decide +kernel
theorem dX10_worked_2 : decode cX10_worked 2 = .ok (.aload_n 0, 1) := by decide +kernel
theorem dX10_worked_3 : decode cX10_worked 3 = .ok (.getfield 25, 3) := by decide +kernel
theorem dX10_worked_6 : decode cX10_worked 6 = .ok (.getfield 201, 3) := by decide +kernel
theorem dX10_worked_9 : decode cX10_worked 9 = .ok (.iload_n 1, 1) := by decide +kernel
theorem dX10_worked_10 : decode cX10_worked 10 = .ok (.iaload, 1) := by decide +kernel
theorem dX10_worked_11 : decode cX10_worked 11 = .ok (.istore 4, 2) := by decide +kernel
theorem dX10_worked_13 : decode cX10_worked 13 = .ok (.iload 4, 2) := by decide +kernel
theorem dX10_worked_15 : decode cX10_worked 15 = .ok (.aload_n 0, 1) := by decide +kernel
theorem dX10_worked_16 : decode cX10_worked 16 = .ok (.getfield 25, 3) := by decide +kernel
theorem dX10_worked_19 : decode cX10_worked 19 = .ok (.getfield 207, 3) := by decide +kernel
theorem dX10_worked_22 : decode cX10_worked 22 = .ok (.iload_n 1, 1) := by decide +kernel
theorem dX10_worked_23 : decode cX10_worked 23 = .ok (.iaload, 1) := by decide +kernel
theorem dX10_worked_24 : decode cX10_worked 24 = .ok (.if_icmp .ge 243, 3) := by decide +kernel
theorem dX10_worked_27 : decode cX10_worked 27 = .ok (.aload_n 0, 1) := by decide +kernel
theorem dX10_worked_28 : decode cX10_worked 28 = .ok (.getfield 25, 3) := by decide +kernel
theorem dX10_worked_31 : decode cX10_worked 31 = .ok (.getfield 245, 3) := by decide +kernel
theorem dX10_worked_34 : decode cX10_worked 34 = .ok (.iload 4, 2) := by decide +kernel
theorem dX10_worked_36 : decode cX10_worked 36 = .ok (.iaload, 1) := by decide +kernel
theorem dX10_worked_37 : decode cX10_worked 37 = .ok (.istore 5, 2) := by decide +kernel
theorem dX10_worked_39 : decode cX10_worked 39 = .ok (.iload 5, 2) := by decide +kernel
theorem dX10_worked_41 : decode cX10_worked 41 = .ok (.bipush 9, 2) := by decide +kernel
theorem dX10_worked_43 : decode cX10_worked 43 = .ok (.if_icmp .eq 10, 3) := by decide +kernel
theorem dX10_worked_46 : decode cX10_worked 46 = .ok (.iload 5, 2) := by decide +kernel
theorem dX10_worked_48 : decode cX10_worked 48 = .ok (.bipush 10, 2) := by decide +kernel
theorem dX10_worked_50 : decode cX10_worked 50 = .ok (.if_icmp .ne 51, 3) := by decide +kernel
theorem dX10_worked_53 : decode cX10_worked 53 = .ok (.aload_n 0, 1) := by decide +kernel
theorem dX10_worked_54 : decode cX10_worked 54 = .ok (.getfield 50, 3) := by decide +kernel
theorem dX10_worked_57 : decode cX10_worked 57 = .ok (.iload_n 3, 1) := by decide +kernel
theorem dX10_worked_58 : decode cX10_worked 58 = .ok (.iload 5, 2) := by decide +kernel
theorem dX10_worked_60 : decode cX10_worked 60 = .ok (.bipush 9, 2) := by decide +kernel
theorem dX10_worked_62 : decode cX10_worked 62 = .ok (.if_icmp .ne 18, 3) := by decide +kernel
theorem dX10_worked_65 : decode cX10_worked 65 = .ok (.aload_n 2, 1) := by decide +kernel
theorem dX10_worked_66 : decode cX10_worked 66 = .ok (.aload_n 0, 1) := by decide +kernel
theorem dX10_worked_67 : decode cX10_worked 67 = .ok (.getfield 25, 3) := by decide +kernel
theorem dX10_worked_70 : decode cX10_worked 70 = .ok (.getfield 251, 3) := by decide +kernel
theorem dX10_worked_73 : decode cX10_worked 73 = .ok (.iload 4, 2) := by decide +kernel
theorem dX10_worked_75 : decode cX10_worked 75 = .ok (.iaload, 1) := by decide +kernel
theorem dX10_worked_76 : decode cX10_worked 76 = .ok (.iaload, 1) := by decide +kernel
theorem dX10_worked_77 : decode cX10_worked 77 = .ok (.goto 17, 3) := by decide +kernel
theorem dX10_worked_80 : decode cX10_worked 80 = .ok (.aload_n 0, 1) := by decide +kernel
theorem dX10_worked_81 : decode cX10_worked 81 = .ok (.aload_n 0, 1) := by decide +kernel
theorem dX10_worked_82 : decode cX10_worked 82 = .ok (.getfield 25, 3) := by decide +kernel
theorem dX10_worked_85 : decode cX10_worked 85 = .ok (.getfield 251, 3) := by decide +kernel
theorem dX10_worked_88 : decode cX10_worked 88 = .ok (.iload 4, 2) := by decide +kernel
theorem dX10_worked_90 : decode cX10_worked 90 = .ok (.iaload, 1) := by decide +kernel
theorem dX10_worked_91 : decode cX10_worked 91 = .ok (.invokevirtual 239, 3) := by decide +kernel
theorem dX10_worked_94 : decode cX10_worked 94 = .ok (.iastore, 1) := by decide +kernel
theorem dX10_worked_95 : decode cX10_worked 95 = .ok (.iinc 3 1, 3) := by decide +kernel
theorem dX10_worked_98 : decode cX10_worked 98 = .ok (.goto 163, 3) := by decide +kernel
theorem dX10_worked_101 : decode cX10_worked 101 = .ok (.iload 5, 2) := by decide +kernel
theorem dX10_worked_103 : decode cX10_worked 103 = .ok (.bipush 7, 2) := by decide +kernel
theorem dX10_worked_105 : decode cX10_worked 105 = .ok (.if_icmp .ne 28, 3) := by decide +kernel
theorem dX10_worked_108 : decode cX10_worked 108 = .ok (.aload_n 0, 1) := by decide +kernel
theorem dX10_worked_109 : decode cX10_worked 109 = .ok (.getfield 50, 3) := by decide +kernel
theorem dX10_worked_112 : decode cX10_worked 112 = .ok (.iload_n 3, 1) := by decide +kernel
theorem dX10_worked_113 : decode cX10_worked 113 = .ok (.iconst 1, 1) := by decide +kernel
theorem dX10_worked_114 : decode cX10_worked 114 = .ok (.isub, 1) := by decide +kernel
theorem dX10_worked_115 : decode cX10_worked 115 = .ok (.aload_n 0, 1) := by decide +kernel
theorem dX10_worked_116 : decode cX10_worked 116 = .ok (.aload_n 0, 1) := by decide +kernel
theorem dX10_worked_117 : decode cX10_worked 117 = .ok (.getfield 50, 3) := by decide +kernel
theorem dX10_worked_120 : decode cX10_worked 120 = .ok (.iload_n 3, 1) := by decide +kernel
theorem dX10_worked_121 : decode cX10_worked 121 = .ok (.iconst 1, 1) := by decide +kernel
theorem dX10_worked_122 : decode cX10_worked 122 = .ok (.isub, 1) := by decide +kernel
theorem dX10_worked_123 : decode cX10_worked 123 = .ok (.iaload, 1) := by decide +kernel
theorem dX10_worked_124 : decode cX10_worked 124 = .ok (.iconst (-1), 1) := by decide +kernel
theorem dX10_worked_125 : decode cX10_worked 125 = .ok (.ixor, 1) := by decide +kernel
theorem dX10_worked_126 : decode cX10_worked 126 = .ok (.invokevirtual 239, 3) := by decide +kernel
theorem dX10_worked_129 : decode cX10_worked 129 = .ok (.iastore, 1) := by decide +kernel
theorem dX10_worked_130 : decode cX10_worked 130 = .ok (.goto 131, 3) := by decide +kernel
theorem dX10_worked_133 : decode cX10_worked 133 = .ok (.iinc 3 (-1), 3) := by decide +kernel
theorem dX10_worked_136 : decode cX10_worked 136 = .ok (.aload_n 0, 1) := by decide +kernel
theorem dX10_worked_137 : decode cX10_worked 137 = .ok (.getfield 50, 3) := by decide +kernel
theorem dX10_worked_140 : decode cX10_worked 140 = .ok (.iload_n 3, 1) := by decide +kernel
theorem dX10_worked_141 : decode cX10_worked 141 = .ok (.iconst 1, 1) := by decide +kernel
theorem dX10_worked_142 : decode cX10_worked 142 = .ok (.isub, 1) := by decide +kernel
theorem dX10_worked_143 : decode cX10_worked 143 = .ok (.iaload, 1) := by decide +kernel
theorem dX10_worked_144 : decode cX10_worked 144 = .ok (.istore 6, 2) := by decide +kernel
theorem dX10_worked_146 : decode cX10_worked 146 = .ok (.aload_n 0, 1) := by decide +kernel
theorem dX10_worked_147 : decode cX10_worked 147 = .ok (.getfield 50, 3) := by decide +kernel
theorem dX10_worked_150 : decode cX10_worked 150 = .ok (.iload_n 3, 1) := by decide +kernel
theorem dX10_worked_151 : decode cX10_worked 151 = .ok (.iaload, 1) := by decide +kernel
theorem dX10_worked_152 : decode cX10_worked 152 = .ok (.istore 7, 2) := by decide +kernel
theorem dX10_worked_154 : decode cX10_worked 154 = .ok (.aload_n 0, 1) := by decide +kernel
theorem dX10_worked_155 : decode cX10_worked 155 = .ok (.getfield 50, 3) := by decide +kernel
theorem dX10_worked_158 : decode cX10_worked 158 = .ok (.iload_n 3, 1) := by decide +kernel
theorem dX10_worked_159 : decode cX10_worked 159 = .ok (.iconst 1, 1) := by decide +kernel
theorem dX10_worked_160 : decode cX10_worked 160 = .ok (.isub, 1) := by decide +kernel
theorem dX10_worked_161 : decode cX10_worked 161 = .ok (.aload_n 0, 1) := by decide +kernel
theorem dX10_worked_162 : decode cX10_worked 162 = .ok (.iload 5, 2) := by decide +kernel
theorem dX10_worked_164 : decode cX10_worked 164 = .ok (.ifCond .ne 11, 3) := by decide +kernel
theorem dX10_worked_167 : decode cX10_worked 167 = .ok (.iload 6, 2) := by decide +kernel
theorem dX10_worked_169 : decode cX10_worked 169 = .ok (.iload 7, 2) := by decide +kernel
theorem dX10_worked_171 : decode cX10_worked 171 = .ok (.iadd, 1) := by decide +kernel
theorem dX10_worked_172 : decode cX10_worked 172 = .ok (.goto 85, 3) := by decide +kernel
theorem dX10_worked_175 : decode cX10_worked 175 = .ok (.iload 5, 2) := by decide +kernel
theorem dX10_worked_177 : decode cX10_worked 177 = .ok (.iconst 1, 1) := by decide +kernel
theorem dX10_worked_178 : decode cX10_worked 178 = .ok (.if_icmp .ne 11, 3) := by decide +kernel
theorem dX10_worked_181 : decode cX10_worked 181 = .ok (.iload 6, 2) := by decide +kernel
theorem dX10_worked_183 : decode cX10_worked 183 = .ok (.iload 7, 2) := by decide +kernel
theorem dX10_worked_185 : decode cX10_worked 185 = .ok (.isub, 1) := by decide +kernel
theorem dX10_worked_186 : decode cX10_worked 186 = .ok (.goto 71, 3) := by decide +kernel
theorem dX10_worked_189 : decode cX10_worked 189 = .ok (.iload 5, 2) := by decide +kernel
theorem dX10_worked_191 : decode cX10_worked 191 = .ok (.iconst 2, 1) := by decide +kernel
theorem dX10_worked_192 : decode cX10_worked 192 = .ok (.if_icmp .ne 11, 3) := by decide +kernel
theorem dX10_worked_195 : decode cX10_worked 195 = .ok (.iload 6, 2) := by decide +kernel
theorem dX10_worked_197 : decode cX10_worked 197 = .ok (.iload 7, 2) := by decide +kernel
theorem dX10_worked_199 : decode cX10_worked 199 = .ok (.imul, 1) := by decide +kernel
theorem dX10_worked_200 : decode cX10_worked 200 = .ok (.goto 57, 3) := by decide +kernel
theorem dX10_worked_203 : decode cX10_worked 203 = .ok (.iload 5, 2) := by decide +kernel
theorem dX10_worked_205 : decode cX10_worked 205 = .ok (.iconst 3, 1) := by decide +kernel
theorem dX10_worked_206 : decode cX10_worked 206 = .ok (.if_icmp .ne 11, 3) := by decide +kernel
theorem dX10_worked_209 : decode cX10_worked 209 = .ok (.iload 6, 2) := by decide +kernel
theorem dX10_worked_211 : decode cX10_worked 211 = .ok (.iload 7, 2) := by decide +kernel
theorem dX10_worked_213 : decode cX10_worked 213 = .ok (.iand, 1) := by decide +kernel
theorem dX10_worked_214 : decode cX10_worked 214 = .ok (.goto 43, 3) := by decide +kernel
theorem dX10_worked_217 : decode cX10_worked 217 = .ok (.iload 5, 2) := by decide +kernel
theorem dX10_worked_219 : decode cX10_worked 219 = .ok (.iconst 4, 1) := by decide +kernel
theorem dX10_worked_220 : decode cX10_worked 220 = .ok (.if_icmp .ne 11, 3) := by decide +kernel
theorem dX10_worked_223 : decode cX10_worked 223 = .ok (.iload 6, 2) := by decide +kernel
theorem dX10_worked_225 : decode cX10_worked 225 = .ok (.iload 7, 2) := by decide +kernel
theorem dX10_worked_227 : decode cX10_worked 227 = .ok (.ior, 1) := by decide +kernel
theorem dX10_worked_228 : decode cX10_worked 228 = .ok (.goto 29, 3) := by decide +kernel
theorem dX10_worked_231 : decode cX10_worked 231 = .ok (.iload 5, 2) := by decide +kernel
theorem dX10_worked_233 : decode cX10_worked 233 = .ok (.iconst 5, 1) := by decide +kernel
theorem dX10_worked_234 : decode cX10_worked 234 = .ok (.if_icmp .ne 11, 3) := by decide +kernel
theorem dX10_worked_237 : decode cX10_worked 237 = .ok (.iload 6, 2) := by decide +kernel
theorem dX10_worked_239 : decode cX10_worked 239 = .ok (.iload 7, 2) := by decide +kernel
theorem dX10_worked_241 : decode cX10_worked 241 = .ok (.ixor, 1) := by decide +kernel
theorem dX10_worked_242 : decode cX10_worked 242 = .ok (.goto 15, 3) := by decide +kernel
theorem dX10_worked_245 : decode cX10_worked 245 = .ok (.iload 6, 2) := by decide +kernel
theorem dX10_worked_247 : decode cX10_worked 247 = .ok (.iload 7, 2) := by decide +kernel
theorem dX10_worked_249 : decode cX10_worked 249 = .ok (.if_icmp .ge 7, 3) := by decide +kernel
theorem dX10_worked_252 : decode cX10_worked 252 = .ok (.iconst 1, 1) := by decide +kernel
theorem dX10_worked_253 : decode cX10_worked 253 = .ok (.goto 4, 3) := by decide +kernel
theorem dX10_worked_256 : decode cX10_worked 256 = .ok (.iconst 0, 1) := by decide +kernel
theorem dX10_worked_257 : decode cX10_worked 257 = .ok (.invokevirtual 239, 3) := by decide +kernel
theorem dX10_worked_260 : decode cX10_worked 260 = .ok (.iastore, 1) := by decide +kernel
theorem dX10_worked_261 : decode cX10_worked 261 = .ok (.iinc 4 1, 3) := by decide +kernel
theorem dX10_worked_264 : decode cX10_worked 264 = .ok (.goto (-251), 3) := by decide +kernel
theorem dX10_worked_267 : decode cX10_worked 267 = .ok (.aload_n 0, 1) := by decide +kernel
theorem dX10_worked_268 : decode cX10_worked 268 = .ok (.getfield 50, 3) := by decide +kernel
theorem dX10_worked_271 : decode cX10_worked 271 = .ok (.iconst 0, 1) := by decide +kernel
theorem dX10_worked_272 : decode cX10_worked 272 = .ok (.iaload, 1) := by decide +kernel
theorem dX10_worked_273 : decode cX10_worked 273 = .ok (.ireturn, 1) := by decide +kernel
theorem dX10_does_0 : decode cX10_does 0 = .ok (.bipush 8, 2) := by decide +kernel
theorem dX10_does_2 : decode cX10_does 2 = .ok (.iload_n 1, 1) := by decide +kernel
theorem dX10_does_3 : decode cX10_does 3 = .ok (.imul, 1) := by decide +kernel
theorem dX10_does_4 : decode cX10_does 4 = .ok (.istore_n 3, 1) := by decide +kernel
theorem dX10_does_5 : decode cX10_does 5 = .ok (.iload_n 3, 1) := by decide +kernel
theorem dX10_does_6 : decode cX10_does 6 = .ok (.bipush 8, 2) := by decide +kernel
theorem dX10_does_8 : decode cX10_does 8 = .ok (.iload_n 1, 1) := by decide +kernel
theorem dX10_does_9 : decode cX10_does 9 = .ok (.imul, 1) := by decide +kernel
theorem dX10_does_10 : decode cX10_does 10 = .ok (.aload_n 0, 1) := by decide +kernel
theorem dX10_does_11 : decode cX10_does 11 = .ok (.getfield 25, 3) := by decide +kernel
theorem dX10_does_14 : decode cX10_does 14 = .ok (.getfield 174, 3) := by decide +kernel
theorem dX10_does_17 : decode cX10_does 17 = .ok (.iload_n 1, 1) := by decide +kernel
theorem dX10_does_18 : decode cX10_does 18 = .ok (.iaload, 1) := by decide +kernel
theorem dX10_does_19 : decode cX10_does 19 = .ok (.iadd, 1) := by decide +kernel
theorem dX10_does_20 : decode cX10_does 20 = .ok (.if_icmp .ge 56, 3) := by decide +kernel
theorem dX10_does_23 : decode cX10_does 23 = .ok (.aload_n 0, 1) := by decide +kernel
theorem dX10_does_24 : decode cX10_does 24 = .ok (.getfield 25, 3) := by decide +kernel
theorem dX10_does_27 : decode cX10_does 27 = .ok (.getfield 192, 3) := by decide +kernel
theorem dX10_does_30 : decode cX10_does 30 = .ok (.iload_n 3, 1) := by decide +kernel
theorem dX10_does_31 : decode cX10_does 31 = .ok (.iaload, 1) := by decide +kernel
theorem dX10_does_32 : decode cX10_does 32 = .ok (.iconst (-1), 1) := by decide +kernel
theorem dX10_does_33 : decode cX10_does 33 = .ok (.if_icmp .eq 20, 3) := by decide +kernel
theorem dX10_does_36 : decode cX10_does 36 = .ok (.aload_n 2, 1) := by decide +kernel
theorem dX10_does_37 : decode cX10_does 37 = .ok (.aload_n 0, 1) := by decide +kernel
theorem dX10_does_38 : decode cX10_does 38 = .ok (.getfield 25, 3) := by decide +kernel
theorem dX10_does_41 : decode cX10_does 41 = .ok (.getfield 192, 3) := by decide +kernel
theorem dX10_does_44 : decode cX10_does 44 = .ok (.iload_n 3, 1) := by decide +kernel
theorem dX10_does_45 : decode cX10_does 45 = .ok (.iaload, 1) := by decide +kernel
theorem dX10_does_46 : decode cX10_does 46 = .ok (.iaload, 1) := by decide +kernel
theorem dX10_does_47 : decode cX10_does 47 = .ok (.ifCond .ne 6, 3) := by decide +kernel
theorem dX10_does_50 : decode cX10_does 50 = .ok (.goto 20, 3) := by decide +kernel
theorem dX10_does_53 : decode cX10_does 53 = .ok (.aload_n 2, 1) := by decide +kernel
theorem dX10_does_54 : decode cX10_does 54 = .ok (.aload_n 0, 1) := by decide +kernel
theorem dX10_does_55 : decode cX10_does 55 = .ok (.getfield 25, 3) := by decide +kernel
theorem dX10_does_58 : decode cX10_does 58 = .ok (.getfield 198, 3) := by decide +kernel
theorem dX10_does_61 : decode cX10_does 61 = .ok (.iload_n 3, 1) := by decide +kernel
theorem dX10_does_62 : decode cX10_does 62 = .ok (.iaload, 1) := by decide +kernel
theorem dX10_does_63 : decode cX10_does 63 = .ok (.aload_n 0, 1) := by decide +kernel
theorem dX10_does_64 : decode cX10_does 64 = .ok (.iload_n 3, 1) := by decide +kernel
theorem dX10_does_65 : decode cX10_does 65 = .ok (.aload_n 2, 1) := by decide +kernel
theorem dX10_does_66 : decode cX10_does 66 = .ok (.invokevirtual 316, 3) := by decide +kernel
theorem dX10_does_69 : decode cX10_does 69 = .ok (.iastore, 1) := by decide +kernel
theorem dX10_does_70 : decode cX10_does 70 = .ok (.iinc 3 1, 3) := by decide +kernel
theorem dX10_does_73 : decode cX10_does 73 = .ok (.goto (-68), 3) := by decide +kernel
theorem dX10_does_76 : decode cX10_does 76 = .ok (.return_, 1) := by decide +kernel
theorem dX10_run_0 : decode cX10_run 0 = .ok (.aload_n 0, 1) := by decide +kernel
theorem dX10_run_1 : decode cX10_run 1 = .ok (.iconst 0, 1) := by decide +kernel
theorem dX10_run_2 : decode cX10_run 2 = .ok (.putfield 86, 3) := by decide +kernel
theorem dX10_run_5 : decode cX10_run 5 = .ok (.aload_n 0, 1) := by decide +kernel
theorem dX10_run_6 : decode cX10_run 6 = .ok (.iload_n 1, 1) := by decide +kernel
theorem dX10_run_7 : decode cX10_run 7 = .ok (.invokevirtual 293, 3) := by decide +kernel
theorem dX10_run_10 : decode cX10_run 10 = .ok (.ifCond .le 13, 3) := by decide +kernel
theorem dX10_run_13 : decode cX10_run 13 = .ok (.aload_n 0, 1) := by decide +kernel
theorem dX10_run_14 : decode cX10_run 14 = .ok (.aload_n 0, 1) := by decide +kernel
theorem dX10_run_15 : decode cX10_run 15 = .ok (.iload_n 1, 1) := by decide +kernel
theorem dX10_run_16 : decode cX10_run 16 = .ok (.invokevirtual 293, 3) := by decide +kernel
theorem dX10_run_19 : decode cX10_run 19 = .ok (.invokevirtual 221, 3) := by decide +kernel
theorem dX10_run_22 : decode cX10_run 22 = .ok (.ireturn, 1) := by decide +kernel
theorem dX10_run_23 : decode cX10_run 23 = .ok (.aload_n 0, 1) := by decide +kernel
theorem dX10_run_24 : decode cX10_run 24 = .ok (.invokevirtual 296, 3) := by decide +kernel
theorem dX10_run_27 : decode cX10_run 27 = .ok (.iconst 0, 1) := by decide +kernel
theorem dX10_run_28 : decode cX10_run 28 = .ok (.istore_n 2, 1) := by decide +kernel
theorem dX10_run_29 : decode cX10_run 29 = .ok (.iload_n 2, 1) := by decide +kernel
theorem dX10_run_30 : decode cX10_run 30 = .ok (.aload_n 0, 1) := by decide +kernel
theorem dX10_run_31 : decode cX10_run 31 = .ok (.getfield 25, 3) := by decide +kernel
theorem dX10_run_34 : decode cX10_run 34 = .ok (.getfield 146, 3) := by decide +kernel
theorem dX10_run_37 : decode cX10_run 37 = .ok (.if_icmp .ge 39, 3) := by decide +kernel
theorem dX10_run_40 : decode cX10_run 40 = .ok (.iconst 0, 1) := by decide +kernel
theorem dX10_run_41 : decode cX10_run 41 = .ok (.istore_n 3, 1) := by decide +kernel
theorem dX10_run_42 : decode cX10_run 42 = .ok (.iload_n 3, 1) := by decide +kernel
theorem dX10_run_43 : decode cX10_run 43 = .ok (.aload_n 0, 1) := by decide +kernel
theorem dX10_run_44 : decode cX10_run 44 = .ok (.getfield 25, 3) := by decide +kernel
theorem dX10_run_47 : decode cX10_run 47 = .ok (.getfield 171, 3) := by decide +kernel
theorem dX10_run_50 : decode cX10_run 50 = .ok (.iload_n 2, 1) := by decide +kernel
theorem dX10_run_51 : decode cX10_run 51 = .ok (.iaload, 1) := by decide +kernel
theorem dX10_run_52 : decode cX10_run 52 = .ok (.if_icmp .ge 18, 3) := by decide +kernel
theorem dX10_run_55 : decode cX10_run 55 = .ok (.aload_n 0, 1) := by decide +kernel
theorem dX10_run_56 : decode cX10_run 56 = .ok (.iload_n 2, 1) := by decide +kernel
theorem dX10_run_57 : decode cX10_run 57 = .ok (.aload_n 0, 1) := by decide +kernel
theorem dX10_run_58 : decode cX10_run 58 = .ok (.getfield 43, 3) := by decide +kernel
theorem dX10_run_61 : decode cX10_run 61 = .ok (.invokevirtual 320, 3) := by decide +kernel
theorem dX10_run_64 : decode cX10_run 64 = .ok (.iinc 3 1, 3) := by decide +kernel
theorem dX10_run_67 : decode cX10_run 67 = .ok (.goto (-25), 3) := by decide +kernel
theorem dX10_run_70 : decode cX10_run 70 = .ok (.iinc 2 1, 3) := by decide +kernel
theorem dX10_run_73 : decode cX10_run 73 = .ok (.goto (-44), 3) := by decide +kernel
theorem dX10_run_76 : decode cX10_run 76 = .ok (.aload_n 0, 1) := by decide +kernel
theorem dX10_run_77 : decode cX10_run 77 = .ok (.aload_n 0, 1) := by decide +kernel
theorem dX10_run_78 : decode cX10_run 78 = .ok (.iload_n 1, 1) := by decide +kernel
theorem dX10_run_79 : decode cX10_run 79 = .ok (.invokevirtual 299, 3) := by decide +kernel
theorem dX10_run_82 : decode cX10_run 82 = .ok (.invokevirtual 233, 3) := by decide +kernel
theorem dX10_run_85 : decode cX10_run 85 = .ok (.ireturn, 1) := by decide +kernel
theorem dX10_blocked_0 : decode cX10_blocked 0 = .ok (.aload_n 0, 1) := by decide +kernel
theorem dX10_blocked_1 : decode cX10_blocked 1 = .ok (.getfield 230, 3) := by decide +kernel
theorem dX10_blocked_4 : decode cX10_blocked 4 = .ok (.ifCond .ne 7, 3) := by decide +kernel
theorem dX10_blocked_7 : decode cX10_blocked 7 = .ok (.iconst 4, 1) := by decide +kernel
theorem dX10_blocked_8 : decode cX10_blocked 8 = .ok (.goto 16, 3) := by decide +kernel
theorem dX10_blocked_11 : decode cX10_blocked 11 = .ok (.aload_n 0, 1) := by decide +kernel
theorem dX10_blocked_12 : decode cX10_blocked 12 = .ok (.iload_n 1, 1) := by decide +kernel
theorem dX10_blocked_13 : decode cX10_blocked 13 = .ok (.invokevirtual 269, 3) := by decide +kernel
theorem dX10_blocked_16 : decode cX10_blocked 16 = .ok (.ifCond .eq 7, 3) := by decide +kernel
theorem dX10_blocked_19 : decode cX10_blocked 19 = .ok (.iconst 0, 1) := by decide +kernel
theorem dX10_blocked_20 : decode cX10_blocked 20 = .ok (.goto 4, 3) := by decide +kernel
theorem dX10_blocked_23 : decode cX10_blocked 23 = .ok (.iconst 1, 1) := by decide +kernel
theorem dX10_blocked_24 : decode cX10_blocked 24 = .ok (.ireturn, 1) := by decide +kernel
theorem dX10_once_0 : decode cX10_once 0 = .ok (.aload_n 0, 1) := by decide +kernel
theorem dX10_once_1 : decode cX10_once 1 = .ok (.iconst 0, 1) := by decide +kernel
theorem dX10_once_2 : decode cX10_once 2 = .ok (.putfield 86, 3) := by decide +kernel
theorem dX10_once_5 : decode cX10_once 5 = .ok (.aload_n 0, 1) := by decide +kernel
theorem dX10_once_6 : decode cX10_once 6 = .ok (.iload_n 1, 1) := by decide +kernel
theorem dX10_once_7 : decode cX10_once 7 = .ok (.invokevirtual 324, 3) := by decide +kernel
theorem dX10_once_10 : decode cX10_once 10 = .ok (.ifCond .le 13, 3) := by decide +kernel
theorem dX10_once_13 : decode cX10_once 13 = .ok (.aload_n 0, 1) := by decide +kernel
theorem dX10_once_14 : decode cX10_once 14 = .ok (.aload_n 0, 1) := by decide +kernel
theorem dX10_once_15 : decode cX10_once 15 = .ok (.iload_n 1, 1) := by decide +kernel
theorem dX10_once_16 : decode cX10_once 16 = .ok (.invokevirtual 324, 3) := by decide +kernel
theorem dX10_once_19 : decode cX10_once 19 = .ok (.invokevirtual 236, 3) := by decide +kernel
theorem dX10_once_22 : decode cX10_once 22 = .ok (.ireturn, 1) := by decide +kernel
theorem dX10_once_23 : decode cX10_once 23 = .ok (.aload_n 0, 1) := by decide +kernel
theorem dX10_once_24 : decode cX10_once 24 = .ok (.iload_n 1, 1) := by decide +kernel
theorem dX10_once_25 : decode cX10_once 25 = .ok (.aload_n 0, 1) := by decide +kernel
theorem dX10_once_26 : decode cX10_once 26 = .ok (.getfield 43, 3) := by decide +kernel
theorem dX10_once_29 : decode cX10_once 29 = .ok (.invokevirtual 320, 3) := by decide +kernel
theorem dX10_once_32 : decode cX10_once 32 = .ok (.aload_n 0, 1) := by decide +kernel
theorem dX10_once_33 : decode cX10_once 33 = .ok (.invokevirtual 242, 3) := by decide +kernel
theorem dX10_once_36 : decode cX10_once 36 = .ok (.ireturn, 1) := by decide +kernel
theorem dX10_tries_0 : decode cX10_tries 0 = .ok (.iconst 0, 1) := by decide +kernel
theorem dX10_tries_1 : decode cX10_tries 1 = .ok (.istore_n 2, 1) := by decide +kernel
theorem dX10_tries_2 : decode cX10_tries 2 = .ok (.iload_n 2, 1) := by decide +kernel
theorem dX10_tries_3 : decode cX10_tries 3 = .ok (.bipush 8, 2) := by decide +kernel
theorem dX10_tries_5 : decode cX10_tries 5 = .ok (.if_icmp .ge 21, 3) := by decide +kernel
theorem dX10_tries_8 : decode cX10_tries 8 = .ok (.aload_n 0, 1) := by decide +kernel
theorem dX10_tries_9 : decode cX10_tries 9 = .ok (.getfield 47, 3) := by decide +kernel
theorem dX10_tries_12 : decode cX10_tries 12 = .ok (.iload_n 2, 1) := by decide +kernel
theorem dX10_tries_13 : decode cX10_tries 13 = .ok (.aload_n 0, 1) := by decide +kernel
theorem dX10_tries_14 : decode cX10_tries 14 = .ok (.getfield 43, 3) := by decide +kernel
theorem dX10_tries_17 : decode cX10_tries 17 = .ok (.iload_n 2, 1) := by decide +kernel
theorem dX10_tries_18 : decode cX10_tries 18 = .ok (.iaload, 1) := by decide +kernel
theorem dX10_tries_19 : decode cX10_tries 19 = .ok (.iastore, 1) := by decide +kernel
theorem dX10_tries_20 : decode cX10_tries 20 = .ok (.iinc 2 1, 3) := by decide +kernel
theorem dX10_tries_23 : decode cX10_tries 23 = .ok (.goto (-21), 3) := by decide +kernel
theorem dX10_tries_26 : decode cX10_tries 26 = .ok (.aload_n 0, 1) := by decide +kernel
theorem dX10_tries_27 : decode cX10_tries 27 = .ok (.iload_n 1, 1) := by decide +kernel
theorem dX10_tries_28 : decode cX10_tries 28 = .ok (.aload_n 0, 1) := by decide +kernel
theorem dX10_tries_29 : decode cX10_tries 29 = .ok (.getfield 47, 3) := by decide +kernel
theorem dX10_tries_32 : decode cX10_tries 32 = .ok (.invokevirtual 320, 3) := by decide +kernel
theorem dX10_tries_35 : decode cX10_tries 35 = .ok (.return_, 1) := by decide +kernel
theorem dX10_changes_0 : decode cX10_changes 0 = .ok (.aload_n 0, 1) := by decide +kernel
theorem dX10_changes_1 : decode cX10_changes 1 = .ok (.iconst 0, 1) := by decide +kernel
theorem dX10_changes_2 : decode cX10_changes 2 = .ok (.putfield 86, 3) := by decide +kernel
theorem dX10_changes_5 : decode cX10_changes 5 = .ok (.aload_n 0, 1) := by decide +kernel
theorem dX10_changes_6 : decode cX10_changes 6 = .ok (.getfield 230, 3) := by decide +kernel
theorem dX10_changes_9 : decode cX10_changes 9 = .ok (.ifCond .ne 9, 3) := by decide +kernel
theorem dX10_changes_12 : decode cX10_changes 12 = .ok (.aload_n 0, 1) := by decide +kernel
theorem dX10_changes_13 : decode cX10_changes 13 = .ok (.iconst 4, 1) := by decide +kernel
theorem dX10_changes_14 : decode cX10_changes 14 = .ok (.invokevirtual 221, 3) := by decide +kernel
theorem dX10_changes_17 : decode cX10_changes 17 = .ok (.ireturn, 1) := by decide +kernel
theorem dX10_changes_18 : decode cX10_changes 18 = .ok (.aload_n 0, 1) := by decide +kernel
theorem dX10_changes_19 : decode cX10_changes 19 = .ok (.iload_n 1, 1) := by decide +kernel
theorem dX10_changes_20 : decode cX10_changes 20 = .ok (.invokevirtual 269, 3) := by decide +kernel
theorem dX10_changes_23 : decode cX10_changes 23 = .ok (.ifCond .eq 13, 3) := by decide +kernel
theorem dX10_changes_26 : decode cX10_changes 26 = .ok (.iload_n 2, 1) := by decide +kernel
theorem dX10_changes_27 : decode cX10_changes 27 = .ok (.iconst 0, 1) := by decide +kernel
theorem dX10_changes_28 : decode cX10_changes 28 = .ok (.bipush 7, 2) := by decide +kernel
theorem dX10_changes_30 : decode cX10_changes 30 = .ok (.invokestatic 167, 3) := by decide +kernel
theorem dX10_changes_33 : decode cX10_changes 33 = .ok (.ifCond .ne 9, 3) := by decide +kernel
theorem dX10_changes_36 : decode cX10_changes 36 = .ok (.aload_n 0, 1) := by decide +kernel
theorem dX10_changes_37 : decode cX10_changes 37 = .ok (.iconst 1, 1) := by decide +kernel
theorem dX10_changes_38 : decode cX10_changes 38 = .ok (.invokevirtual 221, 3) := by decide +kernel
theorem dX10_changes_41 : decode cX10_changes 41 = .ok (.ireturn, 1) := by decide +kernel
theorem dX10_changes_42 : decode cX10_changes 42 = .ok (.aload_n 0, 1) := by decide +kernel
theorem dX10_changes_43 : decode cX10_changes 43 = .ok (.iload_n 1, 1) := by decide +kernel
theorem dX10_changes_44 : decode cX10_changes 44 = .ok (.invokevirtual 327, 3) := by decide +kernel
theorem dX10_changes_47 : decode cX10_changes 47 = .ok (.aload_n 0, 1) := by decide +kernel
theorem dX10_changes_48 : decode cX10_changes 48 = .ok (.aload_n 0, 1) := by decide +kernel
theorem dX10_changes_49 : decode cX10_changes 49 = .ok (.getfield 47, 3) := by decide +kernel
theorem dX10_changes_52 : decode cX10_changes 52 = .ok (.iload_n 2, 1) := by decide +kernel
theorem dX10_changes_53 : decode cX10_changes 53 = .ok (.iaload, 1) := by decide +kernel
theorem dX10_changes_54 : decode cX10_changes 54 = .ok (.aload_n 0, 1) := by decide +kernel
theorem dX10_changes_55 : decode cX10_changes 55 = .ok (.getfield 43, 3) := by decide +kernel
theorem dX10_changes_58 : decode cX10_changes 58 = .ok (.iload_n 2, 1) := by decide +kernel
theorem dX10_changes_59 : decode cX10_changes 59 = .ok (.iaload, 1) := by decide +kernel
theorem dX10_changes_60 : decode cX10_changes 60 = .ok (.ixor, 1) := by decide +kernel
theorem dX10_changes_61 : decode cX10_changes 61 = .ok (.invokevirtual 233, 3) := by decide +kernel
theorem dX10_changes_64 : decode cX10_changes 64 = .ok (.ireturn, 1) := by decide +kernel
theorem dX10_still_0 : decode cX10_still 0 = .ok (.aload_n 0, 1) := by decide +kernel
theorem dX10_still_1 : decode cX10_still 1 = .ok (.iconst 0, 1) := by decide +kernel
theorem dX10_still_2 : decode cX10_still 2 = .ok (.putfield 86, 3) := by decide +kernel
theorem dX10_still_5 : decode cX10_still 5 = .ok (.aload_n 0, 1) := by decide +kernel
theorem dX10_still_6 : decode cX10_still 6 = .ok (.iload_n 1, 1) := by decide +kernel
theorem dX10_still_7 : decode cX10_still 7 = .ok (.invokevirtual 324, 3) := by decide +kernel
theorem dX10_still_10 : decode cX10_still 10 = .ok (.ifCond .le 13, 3) := by decide +kernel
theorem dX10_still_13 : decode cX10_still 13 = .ok (.aload_n 0, 1) := by decide +kernel
theorem dX10_still_14 : decode cX10_still 14 = .ok (.aload_n 0, 1) := by decide +kernel
theorem dX10_still_15 : decode cX10_still 15 = .ok (.iload_n 1, 1) := by decide +kernel
theorem dX10_still_16 : decode cX10_still 16 = .ok (.invokevirtual 324, 3) := by decide +kernel
theorem dX10_still_19 : decode cX10_still 19 = .ok (.invokevirtual 221, 3) := by decide +kernel
theorem dX10_still_22 : decode cX10_still 22 = .ok (.ireturn, 1) := by decide +kernel
theorem dX10_still_23 : decode cX10_still 23 = .ok (.aload_n 0, 1) := by decide +kernel
theorem dX10_still_24 : decode cX10_still 24 = .ok (.iload_n 1, 1) := by decide +kernel
theorem dX10_still_25 : decode cX10_still 25 = .ok (.invokevirtual 327, 3) := by decide +kernel
theorem dX10_still_28 : decode cX10_still 28 = .ok (.iconst 1, 1) := by decide +kernel
theorem dX10_still_29 : decode cX10_still 29 = .ok (.istore_n 2, 1) := by decide +kernel
theorem dX10_still_30 : decode cX10_still 30 = .ok (.iconst 0, 1) := by decide +kernel
theorem dX10_still_31 : decode cX10_still 31 = .ok (.istore_n 3, 1) := by decide +kernel
theorem dX10_still_32 : decode cX10_still 32 = .ok (.iload_n 3, 1) := by decide +kernel
theorem dX10_still_33 : decode cX10_still 33 = .ok (.bipush 8, 2) := by decide +kernel
theorem dX10_still_35 : decode cX10_still 35 = .ok (.if_icmp .ge 34, 3) := by decide +kernel
theorem dX10_still_38 : decode cX10_still 38 = .ok (.iload_n 2, 1) := by decide +kernel
theorem dX10_still_39 : decode cX10_still 39 = .ok (.ifCond .eq 22, 3) := by decide +kernel
theorem dX10_still_42 : decode cX10_still 42 = .ok (.aload_n 0, 1) := by decide +kernel
theorem dX10_still_43 : decode cX10_still 43 = .ok (.getfield 47, 3) := by decide +kernel
theorem dX10_still_46 : decode cX10_still 46 = .ok (.iload_n 3, 1) := by decide +kernel
theorem dX10_still_47 : decode cX10_still 47 = .ok (.iaload, 1) := by decide +kernel
theorem dX10_still_48 : decode cX10_still 48 = .ok (.aload_n 0, 1) := by decide +kernel
theorem dX10_still_49 : decode cX10_still 49 = .ok (.getfield 43, 3) := by decide +kernel
theorem dX10_still_52 : decode cX10_still 52 = .ok (.iload_n 3, 1) := by decide +kernel
theorem dX10_still_53 : decode cX10_still 53 = .ok (.iaload, 1) := by decide +kernel
theorem dX10_still_54 : decode cX10_still 54 = .ok (.if_icmp .ne 7, 3) := by decide +kernel
theorem dX10_still_57 : decode cX10_still 57 = .ok (.iconst 1, 1) := by decide +kernel
theorem dX10_still_58 : decode cX10_still 58 = .ok (.goto 4, 3) := by decide +kernel
theorem dX10_still_61 : decode cX10_still 61 = .ok (.iconst 0, 1) := by decide +kernel
theorem dX10_still_62 : decode cX10_still 62 = .ok (.istore_n 2, 1) := by decide +kernel
theorem dX10_still_63 : decode cX10_still 63 = .ok (.iinc 3 1, 3) := by decide +kernel
theorem dX10_still_66 : decode cX10_still 66 = .ok (.goto (-34), 3) := by decide +kernel
theorem dX10_still_69 : decode cX10_still 69 = .ok (.aload_n 0, 1) := by decide +kernel
theorem dX10_still_70 : decode cX10_still 70 = .ok (.iload_n 2, 1) := by decide +kernel
theorem dX10_still_71 : decode cX10_still 71 = .ok (.ifCond .eq 7, 3) := by decide +kernel
theorem dX10_still_74 : decode cX10_still 74 = .ok (.iconst 1, 1) := by decide +kernel
theorem dX10_still_75 : decode cX10_still 75 = .ok (.goto 4, 3) := by decide +kernel
theorem dX10_still_78 : decode cX10_still 78 = .ok (.iconst 0, 1) := by decide +kernel
theorem dX10_still_79 : decode cX10_still 79 = .ok (.invokevirtual 233, 3) := by decide +kernel
theorem dX10_still_82 : decode cX10_still 82 = .ok (.ireturn, 1) := by decide +kernel
theorem dX10_name_0 : decode cX10_name 0 = .ok (.aload_n 0, 1) := by decide +kernel
theorem dX10_name_1 : decode cX10_name 1 = .ok (.aload_n 0, 1) := by decide +kernel
theorem dX10_name_2 : decode cX10_name 2 = .ok (.iload_n 1, 1) := by decide +kernel
theorem dX10_name_3 : decode cX10_name 3 = .ok (.invokevirtual 269, 3) := by decide +kernel
theorem dX10_name_6 : decode cX10_name 6 = .ok (.ifCond .eq 20, 3) := by decide +kernel
theorem dX10_name_9 : decode cX10_name 9 = .ok (.iload_n 2, 1) := by decide +kernel
theorem dX10_name_10 : decode cX10_name 10 = .ok (.ifCond .lt 16, 3) := by decide +kernel
theorem dX10_name_13 : decode cX10_name 13 = .ok (.iload_n 2, 1) := by decide +kernel
theorem dX10_name_14 : decode cX10_name 14 = .ok (.aload_n 0, 1) := by decide +kernel
theorem dX10_name_15 : decode cX10_name 15 = .ok (.getfield 25, 3) := by decide +kernel
theorem dX10_name_18 : decode cX10_name 18 = .ok (.getfield 158, 3) := by decide +kernel
theorem dX10_name_21 : decode cX10_name 21 = .ok (.iload_n 1, 1) := by decide +kernel
theorem dX10_name_22 : decode cX10_name 22 = .ok (.iaload, 1) := by decide +kernel
theorem dX10_name_23 : decode cX10_name 23 = .ok (.if_icmp .lt 7, 3) := by decide +kernel
theorem dX10_name_26 : decode cX10_name 26 = .ok (.iconst 1, 1) := by decide +kernel
theorem dX10_name_27 : decode cX10_name 27 = .ok (.goto 4, 3) := by decide +kernel
theorem dX10_name_30 : decode cX10_name 30 = .ok (.iconst 0, 1) := by decide +kernel
theorem dX10_name_31 : decode cX10_name 31 = .ok (.putfield 86, 3) := by decide +kernel
theorem dX10_name_34 : decode cX10_name 34 = .ok (.aload_n 0, 1) := by decide +kernel
theorem dX10_name_35 : decode cX10_name 35 = .ok (.getfield 86, 3) := by decide +kernel
theorem dX10_name_38 : decode cX10_name 38 = .ok (.ifCond .le 7, 3) := by decide +kernel
theorem dX10_name_41 : decode cX10_name 41 = .ok (.iconst 0, 1) := by decide +kernel
theorem dX10_name_42 : decode cX10_name 42 = .ok (.goto 17, 3) := by decide +kernel
theorem dX10_name_45 : decode cX10_name 45 = .ok (.aload_n 0, 1) := by decide +kernel
theorem dX10_name_46 : decode cX10_name 46 = .ok (.getfield 25, 3) := by decide +kernel
theorem dX10_name_49 : decode cX10_name 49 = .ok (.getfield 161, 3) := by decide +kernel
theorem dX10_name_52 : decode cX10_name 52 = .ok (.bipush 8, 2) := by decide +kernel
theorem dX10_name_54 : decode cX10_name 54 = .ok (.iload_n 1, 1) := by decide +kernel
theorem dX10_name_55 : decode cX10_name 55 = .ok (.imul, 1) := by decide +kernel
theorem dX10_name_56 : decode cX10_name 56 = .ok (.iload_n 2, 1) := by decide +kernel
theorem dX10_name_57 : decode cX10_name 57 = .ok (.iadd, 1) := by decide +kernel
theorem dX10_name_58 : decode cX10_name 58 = .ok (.baload, 1) := by decide +kernel
theorem dX10_name_59 : decode cX10_name 59 = .ok (.ireturn, 1) := by decide +kernel
theorem dX10_count_0 : decode cX10_count 0 = .ok (.aload_n 0, 1) := by decide +kernel
theorem dX10_count_1 : decode cX10_count 1 = .ok (.iconst 0, 1) := by decide +kernel
theorem dX10_count_2 : decode cX10_count 2 = .ok (.putfield 86, 3) := by decide +kernel
theorem dX10_count_5 : decode cX10_count 5 = .ok (.iload_n 1, 1) := by decide +kernel
theorem dX10_count_6 : decode cX10_count 6 = .ok (.tableswitch 96 0 5 #[38, 43, 48, 53, 72, 77], 38) := by decide +kernel
theorem dX10_count_44 : decode cX10_count 44 = .ok (.aload_n 0, 1) := by decide +kernel
theorem dX10_count_45 : decode cX10_count 45 = .ok (.getfield 13, 3) := by decide +kernel
theorem dX10_count_48 : decode cX10_count 48 = .ok (.ireturn, 1) := by decide +kernel
theorem dX10_count_49 : decode cX10_count 49 = .ok (.aload_n 0, 1) := by decide +kernel
theorem dX10_count_50 : decode cX10_count 50 = .ok (.getfield 16, 3) := by decide +kernel
theorem dX10_count_53 : decode cX10_count 53 = .ok (.ireturn, 1) := by decide +kernel
theorem dX10_count_54 : decode cX10_count 54 = .ok (.aload_n 0, 1) := by decide +kernel
theorem dX10_count_55 : decode cX10_count 55 = .ok (.getfield 19, 3) := by decide +kernel
theorem dX10_count_58 : decode cX10_count 58 = .ok (.ireturn, 1) := by decide +kernel
theorem dX10_count_59 : decode cX10_count 59 = .ok (.aload_n 0, 1) := by decide +kernel
theorem dX10_count_60 : decode cX10_count 60 = .ok (.getfield 230, 3) := by decide +kernel
theorem dX10_count_63 : decode cX10_count 63 = .ok (.ifCond .eq 13, 3) := by decide +kernel
theorem dX10_count_66 : decode cX10_count 66 = .ok (.aload_n 0, 1) := by decide +kernel
theorem dX10_count_67 : decode cX10_count 67 = .ok (.getfield 25, 3) := by decide +kernel
theorem dX10_count_70 : decode cX10_count 70 = .ok (.getfield 146, 3) := by decide +kernel
theorem dX10_count_73 : decode cX10_count 73 = .ok (.goto 4, 3) := by decide +kernel
theorem dX10_count_76 : decode cX10_count 76 = .ok (.iconst 0, 1) := by decide +kernel
theorem dX10_count_77 : decode cX10_count 77 = .ok (.ireturn, 1) := by decide +kernel
theorem dX10_count_78 : decode cX10_count 78 = .ok (.aload_n 0, 1) := by decide +kernel
theorem dX10_count_79 : decode cX10_count 79 = .ok (.getfield 218, 3) := by decide +kernel
theorem dX10_count_82 : decode cX10_count 82 = .ok (.ireturn, 1) := by decide +kernel
theorem dX10_count_83 : decode cX10_count 83 = .ok (.aload_n 0, 1) := by decide +kernel
theorem dX10_count_84 : decode cX10_count 84 = .ok (.getfield 230, 3) := by decide +kernel
theorem dX10_count_87 : decode cX10_count 87 = .ok (.ifCond .eq 13, 3) := by decide +kernel
theorem dX10_count_90 : decode cX10_count 90 = .ok (.aload_n 0, 1) := by decide +kernel
theorem dX10_count_91 : decode cX10_count 91 = .ok (.getfield 25, 3) := by decide +kernel
theorem dX10_count_94 : decode cX10_count 94 = .ok (.getfield 143, 3) := by decide +kernel
theorem dX10_count_97 : decode cX10_count 97 = .ok (.goto 4, 3) := by decide +kernel
theorem dX10_count_100 : decode cX10_count 100 = .ok (.iconst 0, 1) := by decide +kernel
theorem dX10_count_101 : decode cX10_count 101 = .ok (.ireturn, 1) := by decide +kernel
theorem dX10_count_102 : decode cX10_count 102 = .ok (.iconst (-1), 1) := by decide +kernel
theorem dX10_count_103 : decode cX10_count 103 = .ok (.ireturn, 1) := by decide +kernel
theorem dX10_trouble_0 : decode cX10_trouble 0 = .ok (.aload_n 0, 1) := by decide +kernel
theorem dX10_trouble_1 : decode cX10_trouble 1 = .ok (.iconst 0, 1) := by decide +kernel
theorem dX10_trouble_2 : decode cX10_trouble 2 = .ok (.putfield 86, 3) := by decide +kernel
theorem dX10_trouble_5 : decode cX10_trouble 5 = .ok (.aload_n 0, 1) := by decide +kernel
theorem dX10_trouble_6 : decode cX10_trouble 6 = .ok (.getfield 89, 3) := by decide +kernel
theorem dX10_trouble_9 : decode cX10_trouble 9 = .ok (.ireturn, 1) := by decide +kernel

