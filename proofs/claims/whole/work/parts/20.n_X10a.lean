theorem dX10_init_0 : decode cX10_init 0 = .ok (.aload_n 0, 1) := by decide +kernel
theorem dX10_init_1 : decode cX10_init 1 = .ok (.invokespecial 1, 3) := by decide +kernel
theorem dX10_init_4 : decode cX10_init 4 = .ok (.aload_n 0, 1) := by decide +kernel
theorem dX10_init_5 : decode cX10_init 5 = .ok (.iconst (-1), 1) := by decide +kernel
theorem dX10_init_6 : decode cX10_init 6 = .ok (.putfield 9, 3) := by decide +kernel
theorem dX10_init_9 : decode cX10_init 9 = .ok (.aload_n 0, 1) := by decide +kernel
theorem dX10_init_10 : decode cX10_init 10 = .ok (.bipush 8, 2) := by decide +kernel
theorem dX10_init_12 : decode cX10_init 12 = .ok (.putfield 13, 3) := by decide +kernel
theorem dX10_init_15 : decode cX10_init 15 = .ok (.aload_n 0, 1) := by decide +kernel
theorem dX10_init_16 : decode cX10_init 16 = .ok (.bipush 40, 2) := by decide +kernel
theorem dX10_init_18 : decode cX10_init 18 = .ok (.putfield 16, 3) := by decide +kernel
theorem dX10_init_21 : decode cX10_init 21 = .ok (.aload_n 0, 1) := by decide +kernel
theorem dX10_init_22 : decode cX10_init 22 = .ok (.iconst 3, 1) := by decide +kernel
theorem dX10_init_23 : decode cX10_init 23 = .ok (.putfield 19, 3) := by decide +kernel
theorem dX10_init_26 : decode cX10_init 26 = .ok (.aload_n 0, 1) := by decide +kernel
theorem dX10_init_27 : decode cX10_init 27 = .ok (.new 22, 3) := by decide +kernel
theorem dX10_init_30 : decode cX10_init 30 = .ok (.dup, 1) := by decide +kernel
theorem dX10_init_31 : decode cX10_init 31 = .ok (.invokespecial 24, 3) := by decide +kernel
theorem dX10_init_34 : decode cX10_init 34 = .ok (.putfield 25, 3) := by decide +kernel
theorem dX10_init_37 : decode cX10_init 37 = .ok (.aload_n 0, 1) := by decide +kernel
theorem dX10_init_38 : decode cX10_init 38 = .ok (.new 22, 3) := by decide +kernel
theorem dX10_init_41 : decode cX10_init 41 = .ok (.dup, 1) := by decide +kernel
theorem dX10_init_42 : decode cX10_init 42 = .ok (.invokespecial 24, 3) := by decide +kernel
theorem dX10_init_45 : decode cX10_init 45 = .ok (.putfield 29, 3) := by decide +kernel
theorem dX10_init_48 : decode cX10_init 48 = .ok (.aload_n 0, 1) := by decide +kernel
theorem dX10_init_49 : decode cX10_init 49 = .ok (.new 32, 3) := by decide +kernel
theorem dX10_init_52 : decode cX10_init 52 = .ok (.dup, 1) := by decide +kernel
theorem dX10_init_53 : decode cX10_init 53 = .ok (.invokespecial 34, 3) := by decide +kernel
theorem dX10_init_56 : decode cX10_init 56 = .ok (.putfield 35, 3) := by decide +kernel
theorem dX10_init_59 : decode cX10_init 59 = .ok (.aload_n 0, 1) := by decide +kernel
theorem dX10_init_60 : decode cX10_init 60 = .ok (.sipush 600, 3) := by decide +kernel
theorem dX10_init_63 : decode cX10_init 63 = .ok (.newarray .byte, 2) := by decide +kernel
theorem dX10_init_65 : decode cX10_init 65 = .ok (.putfield 39, 3) := by decide +kernel
theorem dX10_init_68 : decode cX10_init 68 = .ok (.aload_n 0, 1) := by decide +kernel
theorem dX10_init_69 : decode cX10_init 69 = .ok (.bipush 8, 2) := by decide +kernel
theorem dX10_init_71 : decode cX10_init 71 = .ok (.newarray .int, 2) := by decide +kernel
theorem dX10_init_73 : decode cX10_init 73 = .ok (.putfield 43, 3) := by decide +kernel
theorem dX10_init_76 : decode cX10_init 76 = .ok (.aload_n 0, 1) := by decide +kernel
theorem dX10_init_77 : decode cX10_init 77 = .ok (.bipush 8, 2) := by decide +kernel
theorem dX10_init_79 : decode cX10_init 79 = .ok (.newarray .int, 2) := by decide +kernel
theorem dX10_init_81 : decode cX10_init 81 = .ok (.putfield 47, 3) := by decide +kernel
theorem dX10_init_84 : decode cX10_init 84 = .ok (.aload_n 0, 1) := by decide +kernel
theorem dX10_init_85 : decode cX10_init 85 = .ok (.sipush 700, 3) := by decide +kernel
theorem dX10_init_88 : decode cX10_init 88 = .ok (.newarray .int, 2) := by decide +kernel
theorem dX10_init_90 : decode cX10_init 90 = .ok (.putfield 50, 3) := by decide +kernel
theorem dX10_init_93 : decode cX10_init 93 = .ok (.aload_n 0, 1) := by decide +kernel
theorem dX10_init_94 : decode cX10_init 94 = .ok (.bipush 8, 2) := by decide +kernel
theorem dX10_init_96 : decode cX10_init 96 = .ok (.newarray .int, 2) := by decide +kernel
theorem dX10_init_98 : decode cX10_init 98 = .ok (.putfield 53, 3) := by decide +kernel
theorem dX10_init_101 : decode cX10_init 101 = .ok (.aload_n 0, 1) := by decide +kernel
theorem dX10_init_102 : decode cX10_init 102 = .ok (.bipush 12, 2) := by decide +kernel
theorem dX10_init_104 : decode cX10_init 104 = .ok (.newarray .int, 2) := by decide +kernel
theorem dX10_init_106 : decode cX10_init 106 = .ok (.putfield 56, 3) := by decide +kernel
theorem dX10_init_109 : decode cX10_init 109 = .ok (.aload_n 0, 1) := by decide +kernel
theorem dX10_init_110 : decode cX10_init 110 = .ok (.bipush 12, 2) := by decide +kernel
theorem dX10_init_112 : decode cX10_init 112 = .ok (.newarray .int, 2) := by decide +kernel
theorem dX10_init_114 : decode cX10_init 114 = .ok (.putfield 59, 3) := by decide +kernel
theorem dX10_init_117 : decode cX10_init 117 = .ok (.aload_n 0, 1) := by decide +kernel
theorem dX10_init_118 : decode cX10_init 118 = .ok (.bipush 12, 2) := by decide +kernel
theorem dX10_init_120 : decode cX10_init 120 = .ok (.newarray .int, 2) := by decide +kernel
theorem dX10_init_122 : decode cX10_init 122 = .ok (.putfield 62, 3) := by decide +kernel
theorem dX10_init_125 : decode cX10_init 125 = .ok (.aload_n 0, 1) := by decide +kernel
theorem dX10_init_126 : decode cX10_init 126 = .ok (.bipush 12, 2) := by decide +kernel
theorem dX10_init_128 : decode cX10_init 128 = .ok (.newarray .int, 2) := by decide +kernel
theorem dX10_init_130 : decode cX10_init 130 = .ok (.putfield 65, 3) := by decide +kernel
theorem dX10_init_133 : decode cX10_init 133 = .ok (.aload_n 0, 1) := by decide +kernel
theorem dX10_init_134 : decode cX10_init 134 = .ok (.bipush 12, 2) := by decide +kernel
theorem dX10_init_136 : decode cX10_init 136 = .ok (.newarray .int, 2) := by decide +kernel
theorem dX10_init_138 : decode cX10_init 138 = .ok (.putfield 68, 3) := by decide +kernel
theorem dX10_init_141 : decode cX10_init 141 = .ok (.aload_n 0, 1) := by decide +kernel
theorem dX10_init_142 : decode cX10_init 142 = .ok (.bipush 13, 2) := by decide +kernel
theorem dX10_init_144 : decode cX10_init 144 = .ok (.newarray .int, 2) := by decide +kernel
theorem dX10_init_146 : decode cX10_init 146 = .ok (.putfield 71, 3) := by decide +kernel
theorem dX10_init_149 : decode cX10_init 149 = .ok (.aload_n 0, 1) := by decide +kernel
theorem dX10_init_150 : decode cX10_init 150 = .ok (.iconst 2, 1) := by decide +kernel
theorem dX10_init_151 : decode cX10_init 151 = .ok (.newarray .int, 2) := by decide +kernel
theorem dX10_init_153 : decode cX10_init 153 = .ok (.putfield 74, 3) := by decide +kernel
theorem dX10_init_156 : decode cX10_init 156 = .ok (.aload_n 0, 1) := by decide +kernel
theorem dX10_init_157 : decode cX10_init 157 = .ok (.sipush 4096, 3) := by decide +kernel
theorem dX10_init_160 : decode cX10_init 160 = .ok (.newarray .int, 2) := by decide +kernel
theorem dX10_init_162 : decode cX10_init 162 = .ok (.putfield 77, 3) := by decide +kernel
theorem dX10_init_165 : decode cX10_init 165 = .ok (.aload_n 0, 1) := by decide +kernel
theorem dX10_init_166 : decode cX10_init 166 = .ok (.sipush 4096, 3) := by decide +kernel
theorem dX10_init_169 : decode cX10_init 169 = .ok (.newarray .int, 2) := by decide +kernel
theorem dX10_init_171 : decode cX10_init 171 = .ok (.putfield 80, 3) := by decide +kernel
theorem dX10_init_174 : decode cX10_init 174 = .ok (.aload_n 0, 1) := by decide +kernel
theorem dX10_init_175 : decode cX10_init 175 = .ok (.sipush 4096, 3) := by decide +kernel
theorem dX10_init_178 : decode cX10_init 178 = .ok (.newarray .int, 2) := by decide +kernel
theorem dX10_init_180 : decode cX10_init 180 = .ok (.putfield 83, 3) := by decide +kernel
theorem dX10_init_183 : decode cX10_init 183 = .ok (.return_, 1) := by decide +kernel
theorem dX10_thrown_0 : decode cX10_thrown 0 = .ok (.aload_n 0, 1) := by decide +kernel
theorem dX10_thrown_1 : decode cX10_thrown 1 = .ok (.getfield 86, 3) := by decide +kernel
theorem dX10_thrown_4 : decode cX10_thrown 4 = .ok (.ireturn, 1) := by decide +kernel
theorem dX10_refused_0 : decode cX10_refused 0 = .ok (.aload_n 0, 1) := by decide +kernel
theorem dX10_refused_1 : decode cX10_refused 1 = .ok (.iload_n 1, 1) := by decide +kernel
theorem dX10_refused_2 : decode cX10_refused 2 = .ok (.putfield 89, 3) := by decide +kernel
theorem dX10_refused_5 : decode cX10_refused 5 = .ok (.aload_n 0, 1) := by decide +kernel
theorem dX10_refused_6 : decode cX10_refused 6 = .ok (.iconst (-1), 1) := by decide +kernel
theorem dX10_refused_7 : decode cX10_refused 7 = .ok (.putfield 9, 3) := by decide +kernel
theorem dX10_refused_10 : decode cX10_refused 10 = .ok (.iconst (-1), 1) := by decide +kernel
theorem dX10_refused_11 : decode cX10_refused 11 = .ok (.ireturn, 1) := by decide +kernel
theorem dX10_denied_0 : decode cX10_denied 0 = .ok (.aload_n 0, 1) := by decide +kernel
theorem dX10_denied_1 : decode cX10_denied 1 = .ok (.iload_n 1, 1) := by decide +kernel
theorem dX10_denied_2 : decode cX10_denied 2 = .ok (.putfield 89, 3) := by decide +kernel
theorem dX10_denied_5 : decode cX10_denied 5 = .ok (.aload_n 0, 1) := by decide +kernel
theorem dX10_denied_6 : decode cX10_denied 6 = .ok (.iconst (-1), 1) := by decide +kernel
theorem dX10_denied_7 : decode cX10_denied 7 = .ok (.putfield 9, 3) := by decide +kernel
theorem dX10_denied_10 : decode cX10_denied 10 = .ok (.iconst 0, 1) := by decide +kernel
theorem dX10_denied_11 : decode cX10_denied 11 = .ok (.ireturn, 1) := by decide +kernel
theorem dX10_done_0 : decode cX10_done 0 = .ok (.aload_n 0, 1) := by decide +kernel
theorem dX10_done_1 : decode cX10_done 1 = .ok (.iconst 0, 1) := by decide +kernel
theorem dX10_done_2 : decode cX10_done 2 = .ok (.putfield 89, 3) := by decide +kernel
theorem dX10_done_5 : decode cX10_done 5 = .ok (.aload_n 0, 1) := by decide +kernel
theorem dX10_done_6 : decode cX10_done 6 = .ok (.iconst (-1), 1) := by decide +kernel
theorem dX10_done_7 : decode cX10_done 7 = .ok (.putfield 9, 3) := by decide +kernel
theorem dX10_done_10 : decode cX10_done 10 = .ok (.iload_n 1, 1) := by decide +kernel
theorem dX10_done_11 : decode cX10_done 11 = .ok (.ireturn, 1) := by decide +kernel
theorem dX10_granted_0 : decode cX10_granted 0 = .ok (.aload_n 0, 1) := by decide +kernel
theorem dX10_granted_1 : decode cX10_granted 1 = .ok (.iconst 0, 1) := by decide +kernel
theorem dX10_granted_2 : decode cX10_granted 2 = .ok (.putfield 89, 3) := by decide +kernel
theorem dX10_granted_5 : decode cX10_granted 5 = .ok (.aload_n 0, 1) := by decide +kernel
theorem dX10_granted_6 : decode cX10_granted 6 = .ok (.iconst (-1), 1) := by decide +kernel
theorem dX10_granted_7 : decode cX10_granted 7 = .ok (.putfield 9, 3) := by decide +kernel
theorem dX10_granted_10 : decode cX10_granted 10 = .ok (.iconst 1, 1) := by decide +kernel
theorem dX10_granted_11 : decode cX10_granted 11 = .ok (.ireturn, 1) := by decide +kernel
theorem dX10_in_0 : decode cX10_in 0 = .ok (.iload_n 0, 1) := by decide +kernel
theorem dX10_in_1 : decode cX10_in 1 = .ok (.iload_n 1, 1) := by decide +kernel
theorem dX10_in_2 : decode cX10_in 2 = .ok (.if_icmp .lt 12, 3) := by decide +kernel
theorem dX10_in_5 : decode cX10_in 5 = .ok (.iload_n 0, 1) := by decide +kernel
theorem dX10_in_6 : decode cX10_in 6 = .ok (.iload_n 2, 1) := by decide +kernel
theorem dX10_in_7 : decode cX10_in 7 = .ok (.if_icmp .gt 7, 3) := by decide +kernel
theorem dX10_in_10 : decode cX10_in 10 = .ok (.iconst 1, 1) := by decide +kernel
theorem dX10_in_11 : decode cX10_in 11 = .ok (.goto 4, 3) := by decide +kernel
theorem dX10_in_14 : decode cX10_in 14 = .ok (.iconst 0, 1) := by decide +kernel
theorem dX10_in_15 : decode cX10_in 15 = .ok (.ireturn, 1) := by decide +kernel
theorem dX10_bits_0 : decode cX10_bits 0 = .ok (.iconst 0, 1) := by decide +kernel
theorem dX10_bits_1 : decode cX10_bits 1 = .ok (.istore_n 1, 1) := by decide +kernel
theorem dX10_bits_2 : decode cX10_bits 2 = .ok (.iload_n 0, 1) := by decide +kernel
theorem dX10_bits_3 : decode cX10_bits 3 = .ok (.istore_n 2, 1) := by decide +kernel
theorem dX10_bits_4 : decode cX10_bits 4 = .ok (.iload_n 2, 1) := by decide +kernel
theorem dX10_bits_5 : decode cX10_bits 5 = .ok (.ifCond .eq 15, 3) := by decide +kernel
theorem dX10_bits_8 : decode cX10_bits 8 = .ok (.iinc 1 1, 3) := by decide +kernel
theorem dX10_bits_11 : decode cX10_bits 11 = .ok (.iload_n 2, 1) := by decide +kernel
theorem dX10_bits_12 : decode cX10_bits 12 = .ok (.iload_n 2, 1) := by decide +kernel
theorem dX10_bits_13 : decode cX10_bits 13 = .ok (.iconst 1, 1) := by decide +kernel
theorem dX10_bits_14 : decode cX10_bits 14 = .ok (.isub, 1) := by decide +kernel
theorem dX10_bits_15 : decode cX10_bits 15 = .ok (.iand, 1) := by decide +kernel
theorem dX10_bits_16 : decode cX10_bits 16 = .ok (.istore_n 2, 1) := by decide +kernel
theorem dX10_bits_17 : decode cX10_bits 17 = .ok (.goto (-13), 3) := by decide +kernel
theorem dX10_bits_20 : decode cX10_bits 20 = .ok (.iload_n 1, 1) := by decide +kernel
theorem dX10_bits_21 : decode cX10_bits 21 = .ok (.ireturn, 1) := by decide +kernel
theorem dX10_stop_0 : decode cX10_stop 0 = .ok (.aload_n 0, 1) := by decide +kernel
theorem dX10_stop_1 : decode cX10_stop 1 = .ok (.getfield 35, 3) := by decide +kernel
theorem dX10_stop_4 : decode cX10_stop 4 = .ok (.iload_n 1, 1) := by decide +kernel
theorem dX10_stop_5 : decode cX10_stop 5 = .ok (.putfield 92, 3) := by decide +kernel
theorem dX10_stop_8 : decode cX10_stop 8 = .ok (.aload_n 0, 1) := by decide +kernel
theorem dX10_stop_9 : decode cX10_stop 9 = .ok (.getfield 35, 3) := by decide +kernel
theorem dX10_stop_12 : decode cX10_stop 12 = .ok (.aload_n 0, 1) := by decide +kernel
theorem dX10_stop_13 : decode cX10_stop 13 = .ok (.getfield 95, 3) := by decide +kernel
theorem dX10_stop_16 : decode cX10_stop 16 = .ok (.putfield 98, 3) := by decide +kernel
theorem dX10_stop_19 : decode cX10_stop 19 = .ok (.aload_n 0, 1) := by decide +kernel
theorem dX10_stop_20 : decode cX10_stop 20 = .ok (.getfield 35, 3) := by decide +kernel
theorem dX10_stop_23 : decode cX10_stop 23 = .ok (.areturn, 1) := by decide +kernel
theorem dX10_byteAt_0 : decode cX10_byteAt 0 = .ok (.iload_n 1, 1) := by decide +kernel
theorem dX10_byteAt_1 : decode cX10_byteAt 1 = .ok (.aload_n 0, 1) := by decide +kernel
theorem dX10_byteAt_2 : decode cX10_byteAt 2 = .ok (.getfield 99, 3) := by decide +kernel
theorem dX10_byteAt_5 : decode cX10_byteAt 5 = .ok (.if_icmp .ge 16, 3) := by decide +kernel
theorem dX10_byteAt_8 : decode cX10_byteAt 8 = .ok (.aload_n 0, 1) := by decide +kernel
theorem dX10_byteAt_9 : decode cX10_byteAt 9 = .ok (.getfield 39, 3) := by decide +kernel
theorem dX10_byteAt_12 : decode cX10_byteAt 12 = .ok (.iload_n 1, 1) := by decide +kernel
theorem dX10_byteAt_13 : decode cX10_byteAt 13 = .ok (.baload, 1) := by decide +kernel
theorem dX10_byteAt_14 : decode cX10_byteAt 14 = .ok (.sipush 255, 3) := by decide +kernel
theorem dX10_byteAt_17 : decode cX10_byteAt 17 = .ok (.iand, 1) := by decide +kernel
theorem dX10_byteAt_18 : decode cX10_byteAt 18 = .ok (.goto 4, 3) := by decide +kernel
theorem dX10_byteAt_21 : decode cX10_byteAt 21 = .ok (.iconst (-1), 1) := by decide +kernel
theorem dX10_byteAt_22 : decode cX10_byteAt 22 = .ok (.ireturn, 1) := by decide +kernel
theorem dX10_isLetter_0 : decode cX10_isLetter 0 = .ok (.iload_n 0, 1) := by decide +kernel
theorem dX10_isLetter_1 : decode cX10_isLetter 1 = .ok (.bipush 97, 2) := by decide +kernel
theorem dX10_isLetter_3 : decode cX10_isLetter 3 = .ok (.if_icmp .lt 13, 3) := by decide +kernel
theorem dX10_isLetter_6 : decode cX10_isLetter 6 = .ok (.iload_n 0, 1) := by decide +kernel
theorem dX10_isLetter_7 : decode cX10_isLetter 7 = .ok (.bipush 122, 2) := by decide +kernel
theorem dX10_isLetter_9 : decode cX10_isLetter 9 = .ok (.if_icmp .gt 7, 3) := by decide +kernel
theorem dX10_isLetter_12 : decode cX10_isLetter 12 = .ok (.iconst 1, 1) := by decide +kernel
theorem dX10_isLetter_13 : decode cX10_isLetter 13 = .ok (.goto 4, 3) := by decide +kernel
theorem dX10_isLetter_16 : decode cX10_isLetter 16 = .ok (.iconst 0, 1) := by decide +kernel
theorem dX10_isLetter_17 : decode cX10_isLetter 17 = .ok (.ireturn, 1) := by decide +kernel
theorem dX10_isDigit_0 : decode cX10_isDigit 0 = .ok (.iload_n 0, 1) := by decide +kernel
theorem dX10_isDigit_1 : decode cX10_isDigit 1 = .ok (.bipush 48, 2) := by decide +kernel
theorem dX10_isDigit_3 : decode cX10_isDigit 3 = .ok (.if_icmp .lt 13, 3) := by decide +kernel
theorem dX10_isDigit_6 : decode cX10_isDigit 6 = .ok (.iload_n 0, 1) := by decide +kernel
theorem dX10_isDigit_7 : decode cX10_isDigit 7 = .ok (.bipush 57, 2) := by decide +kernel
theorem dX10_isDigit_9 : decode cX10_isDigit 9 = .ok (.if_icmp .gt 7, 3) := by decide +kernel
theorem dX10_isDigit_12 : decode cX10_isDigit 12 = .ok (.iconst 1, 1) := by decide +kernel
theorem dX10_isDigit_13 : decode cX10_isDigit 13 = .ok (.goto 4, 3) := by decide +kernel
theorem dX10_isDigit_16 : decode cX10_isDigit 16 = .ok (.iconst 0, 1) := by decide +kernel
theorem dX10_isDigit_17 : decode cX10_isDigit 17 = .ok (.ireturn, 1) := by decide +kernel
theorem dX10_isSign_0 : decode cX10_isSign 0 = .ok (.iload_n 0, 1) := by decide +kernel
theorem dX10_isSign_1 : decode cX10_isSign 1 = .ok (.bipush 123, 2) := by decide +kernel
theorem dX10_isSign_3 : decode cX10_isSign 3 = .ok (.if_icmp .eq 47, 3) := by decide +kernel
theorem dX10_isSign_6 : decode cX10_isSign 6 = .ok (.iload_n 0, 1) := by decide +kernel
theorem dX10_isSign_7 : decode cX10_isSign 7 = .ok (.bipush 125, 2) := by decide +kernel
theorem dX10_isSign_9 : decode cX10_isSign 9 = .ok (.if_icmp .eq 41, 3) := by decide +kernel
theorem dX10_isSign_12 : decode cX10_isSign 12 = .ok (.iload_n 0, 1) := by decide +kernel
theorem dX10_isSign_13 : decode cX10_isSign 13 = .ok (.bipush 59, 2) := by decide +kernel
theorem dX10_isSign_15 : decode cX10_isSign 15 = .ok (.if_icmp .eq 35, 3) := by decide +kernel
theorem dX10_isSign_18 : decode cX10_isSign 18 = .ok (.iload_n 0, 1) := by decide +kernel
theorem dX10_isSign_19 : decode cX10_isSign 19 = .ok (.bipush 61, 2) := by decide +kernel
theorem dX10_isSign_21 : decode cX10_isSign 21 = .ok (.if_icmp .eq 29, 3) := by decide +kernel
theorem dX10_isSign_24 : decode cX10_isSign 24 = .ok (.iload_n 0, 1) := by decide +kernel
theorem dX10_isSign_25 : decode cX10_isSign 25 = .ok (.bipush 40, 2) := by decide +kernel
theorem dX10_isSign_27 : decode cX10_isSign 27 = .ok (.if_icmp .eq 23, 3) := by decide +kernel
theorem dX10_isSign_30 : decode cX10_isSign 30 = .ok (.iload_n 0, 1) := by decide +kernel
theorem dX10_isSign_31 : decode cX10_isSign 31 = .ok (.bipush 41, 2) := by decide +kernel
theorem dX10_isSign_33 : decode cX10_isSign 33 = .ok (.if_icmp .eq 17, 3) := by decide +kernel
theorem dX10_isSign_36 : decode cX10_isSign 36 = .ok (.iload_n 0, 1) := by decide +kernel
theorem dX10_isSign_37 : decode cX10_isSign 37 = .ok (.bipush 126, 2) := by decide +kernel
theorem dX10_isSign_39 : decode cX10_isSign 39 = .ok (.if_icmp .eq 11, 3) := by decide +kernel
theorem dX10_isSign_42 : decode cX10_isSign 42 = .ok (.iload_n 0, 1) := by decide +kernel
theorem dX10_isSign_43 : decode cX10_isSign 43 = .ok (.invokestatic 102, 3) := by decide +kernel
theorem dX10_isSign_46 : decode cX10_isSign 46 = .ok (.iconst (-1), 1) := by decide +kernel
theorem dX10_isSign_47 : decode cX10_isSign 47 = .ok (.if_icmp .eq 7, 3) := by decide +kernel
theorem dX10_isSign_50 : decode cX10_isSign 50 = .ok (.iconst 1, 1) := by decide +kernel
theorem dX10_isSign_51 : decode cX10_isSign 51 = .ok (.goto 4, 3) := by decide +kernel
theorem dX10_isSign_54 : decode cX10_isSign 54 = .ok (.iconst 0, 1) := by decide +kernel
theorem dX10_isSign_55 : decode cX10_isSign 55 = .ok (.ireturn, 1) := by decide +kernel
theorem dX10_signOf_0 : decode cX10_signOf 0 = .ok (.iload_n 0, 1) := by decide +kernel
theorem dX10_signOf_1 : decode cX10_signOf 1 = .ok (.lookupswitch 82 #[(38, 73), (42, 71), (43, 67), (45, 69), (60, 79), (94, 77), (124, 75)], 67) := by decide +kernel
theorem dX10_signOf_68 : decode cX10_signOf 68 = .ok (.iconst 0, 1) := by decide +kernel
theorem dX10_signOf_69 : decode cX10_signOf 69 = .ok (.ireturn, 1) := by decide +kernel
theorem dX10_signOf_70 : decode cX10_signOf 70 = .ok (.iconst 1, 1) := by decide +kernel
theorem dX10_signOf_71 : decode cX10_signOf 71 = .ok (.ireturn, 1) := by decide +kernel
theorem dX10_signOf_72 : decode cX10_signOf 72 = .ok (.iconst 2, 1) := by decide +kernel
theorem dX10_signOf_73 : decode cX10_signOf 73 = .ok (.ireturn, 1) := by decide +kernel
theorem dX10_signOf_74 : decode cX10_signOf 74 = .ok (.iconst 3, 1) := by decide +kernel
theorem dX10_signOf_75 : decode cX10_signOf 75 = .ok (.ireturn, 1) := by decide +kernel
theorem dX10_signOf_76 : decode cX10_signOf 76 = .ok (.iconst 4, 1) := by decide +kernel
theorem dX10_signOf_77 : decode cX10_signOf 77 = .ok (.ireturn, 1) := by decide +kernel
theorem dX10_signOf_78 : decode cX10_signOf 78 = .ok (.iconst 5, 1) := by decide +kernel
theorem dX10_signOf_79 : decode cX10_signOf 79 = .ok (.ireturn, 1) := by decide +kernel
theorem dX10_signOf_80 : decode cX10_signOf 80 = .ok (.bipush 6, 2) := by decide +kernel
theorem dX10_signOf_82 : decode cX10_signOf 82 = .ok (.ireturn, 1) := by decide +kernel
theorem dX10_signOf_83 : decode cX10_signOf 83 = .ok (.iconst (-1), 1) := by decide +kernel
theorem dX10_signOf_84 : decode cX10_signOf 84 = .ok (.ireturn, 1) := by decide +kernel
theorem dX10_next_0 : decode cX10_next 0 = .ok (.aload_n 0, 1) := by decide +kernel
theorem dX10_next_1 : decode cX10_next 1 = .ok (.aload_n 0, 1) := by decide +kernel
theorem dX10_next_2 : decode cX10_next 2 = .ok (.getfield 106, 3) := by decide +kernel
theorem dX10_next_5 : decode cX10_next 5 = .ok (.invokevirtual 109, 3) := by decide +kernel
theorem dX10_next_8 : decode cX10_next 8 = .ok (.bipush 32, 2) := by decide +kernel
theorem dX10_next_10 : decode cX10_next 10 = .ok (.if_icmp .eq 16, 3) := by decide +kernel
theorem dX10_next_13 : decode cX10_next 13 = .ok (.aload_n 0, 1) := by decide +kernel
theorem dX10_next_14 : decode cX10_next 14 = .ok (.aload_n 0, 1) := by decide +kernel
theorem dX10_next_15 : decode cX10_next 15 = .ok (.getfield 106, 3) := by decide +kernel
theorem dX10_next_18 : decode cX10_next 18 = .ok (.invokevirtual 109, 3) := by decide +kernel
theorem dX10_next_21 : decode cX10_next 21 = .ok (.bipush 10, 2) := by decide +kernel
theorem dX10_next_23 : decode cX10_next 23 = .ok (.if_icmp .ne 16, 3) := by decide +kernel
theorem dX10_next_26 : decode cX10_next 26 = .ok (.aload_n 0, 1) := by decide +kernel
theorem dX10_next_27 : decode cX10_next 27 = .ok (.dup, 1) := by decide +kernel
theorem dX10_next_28 : decode cX10_next 28 = .ok (.getfield 106, 3) := by decide +kernel
theorem dX10_next_31 : decode cX10_next 31 = .ok (.iconst 1, 1) := by decide +kernel
theorem dX10_next_32 : decode cX10_next 32 = .ok (.iadd, 1) := by decide +kernel
theorem dX10_next_33 : decode cX10_next 33 = .ok (.putfield 106, 3) := by decide +kernel
theorem dX10_next_36 : decode cX10_next 36 = .ok (.goto (-36), 3) := by decide +kernel
theorem dX10_next_39 : decode cX10_next 39 = .ok (.aload_n 0, 1) := by decide +kernel
theorem dX10_next_40 : decode cX10_next 40 = .ok (.aload_n 0, 1) := by decide +kernel
theorem dX10_next_41 : decode cX10_next 41 = .ok (.getfield 106, 3) := by decide +kernel
theorem dX10_next_44 : decode cX10_next 44 = .ok (.putfield 95, 3) := by decide +kernel
theorem dX10_next_47 : decode cX10_next 47 = .ok (.aload_n 0, 1) := by decide +kernel
theorem dX10_next_48 : decode cX10_next 48 = .ok (.iconst 0, 1) := by decide +kernel
theorem dX10_next_49 : decode cX10_next 49 = .ok (.putfield 112, 3) := by decide +kernel
theorem dX10_next_52 : decode cX10_next 52 = .ok (.aload_n 0, 1) := by decide +kernel
theorem dX10_next_53 : decode cX10_next 53 = .ok (.iconst 0, 1) := by decide +kernel
theorem dX10_next_54 : decode cX10_next 54 = .ok (.putfield 115, 3) := by decide +kernel
theorem dX10_next_57 : decode cX10_next 57 = .ok (.aload_n 0, 1) := by decide +kernel
theorem dX10_next_58 : decode cX10_next 58 = .ok (.aload_n 0, 1) := by decide +kernel
theorem dX10_next_59 : decode cX10_next 59 = .ok (.getfield 106, 3) := by decide +kernel
theorem dX10_next_62 : decode cX10_next 62 = .ok (.invokevirtual 109, 3) := by decide +kernel
theorem dX10_next_65 : decode cX10_next 65 = .ok (.istore_n 1, 1) := by decide +kernel
theorem dX10_next_66 : decode cX10_next 66 = .ok (.iconst 0, 1) := by decide +kernel
theorem dX10_next_67 : decode cX10_next 67 = .ok (.istore_n 2, 1) := by decide +kernel
theorem dX10_next_68 : decode cX10_next 68 = .ok (.iload_n 1, 1) := by decide +kernel
theorem dX10_next_69 : decode cX10_next 69 = .ok (.iconst (-1), 1) := by decide +kernel
theorem dX10_next_70 : decode cX10_next 70 = .ok (.if_icmp .ne 11, 3) := by decide +kernel
theorem dX10_next_73 : decode cX10_next 73 = .ok (.aload_n 0, 1) := by decide +kernel
theorem dX10_next_74 : decode cX10_next 74 = .ok (.iconst 1, 1) := by decide +kernel
theorem dX10_next_75 : decode cX10_next 75 = .ok (.putfield 112, 3) := by decide +kernel
theorem dX10_next_78 : decode cX10_next 78 = .ok (.goto 170, 3) := by decide +kernel
theorem dX10_next_81 : decode cX10_next 81 = .ok (.iload_n 1, 1) := by decide +kernel
theorem dX10_next_82 : decode cX10_next 82 = .ok (.invokestatic 118, 3) := by decide +kernel
theorem dX10_next_85 : decode cX10_next 85 = .ok (.ifCond .eq 52, 3) := by decide +kernel
theorem dX10_next_88 : decode cX10_next 88 = .ok (.aload_n 0, 1) := by decide +kernel
theorem dX10_next_89 : decode cX10_next 89 = .ok (.aload_n 0, 1) := by decide +kernel
theorem dX10_next_90 : decode cX10_next 90 = .ok (.getfield 106, 3) := by decide +kernel
theorem dX10_next_93 : decode cX10_next 93 = .ok (.invokevirtual 109, 3) := by decide +kernel
theorem dX10_next_96 : decode cX10_next 96 = .ok (.invokestatic 118, 3) := by decide +kernel
theorem dX10_next_99 : decode cX10_next 99 = .ok (.ifCond .eq 19, 3) := by decide +kernel
theorem dX10_next_102 : decode cX10_next 102 = .ok (.iinc 2 1, 3) := by decide +kernel
theorem dX10_next_105 : decode cX10_next 105 = .ok (.aload_n 0, 1) := by decide +kernel
theorem dX10_next_106 : decode cX10_next 106 = .ok (.dup, 1) := by decide +kernel
theorem dX10_next_107 : decode cX10_next 107 = .ok (.getfield 106, 3) := by decide +kernel
theorem dX10_next_110 : decode cX10_next 110 = .ok (.iconst 1, 1) := by decide +kernel
theorem dX10_next_111 : decode cX10_next 111 = .ok (.iadd, 1) := by decide +kernel
theorem dX10_next_112 : decode cX10_next 112 = .ok (.putfield 106, 3) := by decide +kernel
theorem dX10_next_115 : decode cX10_next 115 = .ok (.goto (-27), 3) := by decide +kernel
theorem dX10_next_118 : decode cX10_next 118 = .ok (.aload_n 0, 1) := by decide +kernel
theorem dX10_next_119 : decode cX10_next 119 = .ok (.iload_n 2, 1) := by decide +kernel
theorem dX10_next_120 : decode cX10_next 120 = .ok (.putfield 122, 3) := by decide +kernel
theorem dX10_next_123 : decode cX10_next 123 = .ok (.iload_n 2, 1) := by decide +kernel
theorem dX10_next_124 : decode cX10_next 124 = .ok (.bipush 8, 2) := by decide +kernel
theorem dX10_next_126 : decode cX10_next 126 = .ok (.if_icmp .gt 122, 3) := by decide +kernel
theorem dX10_next_129 : decode cX10_next 129 = .ok (.aload_n 0, 1) := by decide +kernel
theorem dX10_next_130 : decode cX10_next 130 = .ok (.iconst 2, 1) := by decide +kernel
theorem dX10_next_131 : decode cX10_next 131 = .ok (.putfield 112, 3) := by decide +kernel
theorem dX10_next_134 : decode cX10_next 134 = .ok (.goto 114, 3) := by decide +kernel
theorem dX10_next_137 : decode cX10_next 137 = .ok (.iload_n 1, 1) := by decide +kernel
theorem dX10_next_138 : decode cX10_next 138 = .ok (.invokestatic 125, 3) := by decide +kernel
theorem dX10_next_141 : decode cX10_next 141 = .ok (.ifCond .eq 80, 3) := by decide +kernel
theorem dX10_next_144 : decode cX10_next 144 = .ok (.aload_n 0, 1) := by decide +kernel
theorem dX10_next_145 : decode cX10_next 145 = .ok (.iconst 0, 1) := by decide +kernel
theorem dX10_next_146 : decode cX10_next 146 = .ok (.putfield 128, 3) := by decide +kernel
theorem dX10_next_149 : decode cX10_next 149 = .ok (.aload_n 0, 1) := by decide +kernel
theorem dX10_next_150 : decode cX10_next 150 = .ok (.aload_n 0, 1) := by decide +kernel
theorem dX10_next_151 : decode cX10_next 151 = .ok (.getfield 106, 3) := by decide +kernel
theorem dX10_next_154 : decode cX10_next 154 = .ok (.invokevirtual 109, 3) := by decide +kernel
theorem dX10_next_157 : decode cX10_next 157 = .ok (.invokestatic 125, 3) := by decide +kernel
theorem dX10_next_160 : decode cX10_next 160 = .ok (.ifCond .eq 47, 3) := by decide +kernel
theorem dX10_next_163 : decode cX10_next 163 = .ok (.iload_n 2, 1) := by decide +kernel
theorem dX10_next_164 : decode cX10_next 164 = .ok (.iconst 5, 1) := by decide +kernel
theorem dX10_next_165 : decode cX10_next 165 = .ok (.if_icmp .ge 26, 3) := by decide +kernel
theorem dX10_next_168 : decode cX10_next 168 = .ok (.aload_n 0, 1) := by decide +kernel
theorem dX10_next_169 : decode cX10_next 169 = .ok (.bipush 10, 2) := by decide +kernel
theorem dX10_next_171 : decode cX10_next 171 = .ok (.aload_n 0, 1) := by decide +kernel
theorem dX10_next_172 : decode cX10_next 172 = .ok (.getfield 128, 3) := by decide +kernel
theorem dX10_next_175 : decode cX10_next 175 = .ok (.imul, 1) := by decide +kernel
theorem dX10_next_176 : decode cX10_next 176 = .ok (.aload_n 0, 1) := by decide +kernel
theorem dX10_next_177 : decode cX10_next 177 = .ok (.aload_n 0, 1) := by decide +kernel
theorem dX10_next_178 : decode cX10_next 178 = .ok (.getfield 106, 3) := by decide +kernel
theorem dX10_next_181 : decode cX10_next 181 = .ok (.invokevirtual 109, 3) := by decide +kernel
theorem dX10_next_184 : decode cX10_next 184 = .ok (.iadd, 1) := by decide +kernel
theorem dX10_next_185 : decode cX10_next 185 = .ok (.bipush 48, 2) := by decide +kernel
theorem dX10_next_187 : decode cX10_next 187 = .ok (.isub, 1) := by decide +kernel
theorem dX10_next_188 : decode cX10_next 188 = .ok (.putfield 128, 3) := by decide +kernel
theorem dX10_next_191 : decode cX10_next 191 = .ok (.iinc 2 1, 3) := by decide +kernel
theorem dX10_next_194 : decode cX10_next 194 = .ok (.aload_n 0, 1) := by decide +kernel
theorem dX10_next_195 : decode cX10_next 195 = .ok (.dup, 1) := by decide +kernel
theorem dX10_next_196 : decode cX10_next 196 = .ok (.getfield 106, 3) := by decide +kernel
theorem dX10_next_199 : decode cX10_next 199 = .ok (.iconst 1, 1) := by decide +kernel
theorem dX10_next_200 : decode cX10_next 200 = .ok (.iadd, 1) := by decide +kernel
theorem dX10_next_201 : decode cX10_next 201 = .ok (.putfield 106, 3) := by decide +kernel
theorem dX10_next_204 : decode cX10_next 204 = .ok (.goto (-55), 3) := by decide +kernel
theorem dX10_next_207 : decode cX10_next 207 = .ok (.iload_n 2, 1) := by decide +kernel
theorem dX10_next_208 : decode cX10_next 208 = .ok (.bipush 6, 2) := by decide +kernel
theorem dX10_next_210 : decode cX10_next 210 = .ok (.if_icmp .ge 38, 3) := by decide +kernel
theorem dX10_next_213 : decode cX10_next 213 = .ok (.aload_n 0, 1) := by decide +kernel
theorem dX10_next_214 : decode cX10_next 214 = .ok (.iconst 3, 1) := by decide +kernel
theorem dX10_next_215 : decode cX10_next 215 = .ok (.putfield 112, 3) := by decide +kernel
theorem dX10_next_218 : decode cX10_next 218 = .ok (.goto 30, 3) := by decide +kernel
theorem dX10_next_221 : decode cX10_next 221 = .ok (.iload_n 1, 1) := by decide +kernel
theorem dX10_next_222 : decode cX10_next 222 = .ok (.invokestatic 131, 3) := by decide +kernel
theorem dX10_next_225 : decode cX10_next 225 = .ok (.ifCond .eq 23, 3) := by decide +kernel
theorem dX10_next_228 : decode cX10_next 228 = .ok (.aload_n 0, 1) := by decide +kernel
theorem dX10_next_229 : decode cX10_next 229 = .ok (.iconst 4, 1) := by decide +kernel
theorem dX10_next_230 : decode cX10_next 230 = .ok (.putfield 112, 3) := by decide +kernel
theorem dX10_next_233 : decode cX10_next 233 = .ok (.aload_n 0, 1) := by decide +kernel
theorem dX10_next_234 : decode cX10_next 234 = .ok (.iload_n 1, 1) := by decide +kernel
theorem dX10_next_235 : decode cX10_next 235 = .ok (.putfield 115, 3) := by decide +kernel
theorem dX10_next_238 : decode cX10_next 238 = .ok (.aload_n 0, 1) := by decide +kernel
theorem dX10_next_239 : decode cX10_next 239 = .ok (.dup, 1) := by decide +kernel
theorem dX10_next_240 : decode cX10_next 240 = .ok (.getfield 106, 3) := by decide +kernel
theorem dX10_next_243 : decode cX10_next 243 = .ok (.iconst 1, 1) := by decide +kernel
theorem dX10_next_244 : decode cX10_next 244 = .ok (.iadd, 1) := by decide +kernel
theorem dX10_next_245 : decode cX10_next 245 = .ok (.putfield 106, 3) := by decide +kernel
theorem dX10_next_248 : decode cX10_next 248 = .ok (.return_, 1) := by decide +kernel
theorem dX10_is_0 : decode cX10_is 0 = .ok (.aload_n 0, 1) := by decide +kernel
theorem dX10_is_1 : decode cX10_is 1 = .ok (.getfield 112, 3) := by decide +kernel
theorem dX10_is_4 : decode cX10_is 4 = .ok (.iconst 4, 1) := by decide +kernel
theorem dX10_is_5 : decode cX10_is 5 = .ok (.if_icmp .ne 15, 3) := by decide +kernel
theorem dX10_is_8 : decode cX10_is 8 = .ok (.aload_n 0, 1) := by decide +kernel
theorem dX10_is_9 : decode cX10_is 9 = .ok (.getfield 115, 3) := by decide +kernel
theorem dX10_is_12 : decode cX10_is 12 = .ok (.iload_n 1, 1) := by decide +kernel
theorem dX10_is_13 : decode cX10_is 13 = .ok (.if_icmp .ne 7, 3) := by decide +kernel
theorem dX10_is_16 : decode cX10_is 16 = .ok (.iconst 1, 1) := by decide +kernel
theorem dX10_is_17 : decode cX10_is 17 = .ok (.goto 4, 3) := by decide +kernel
theorem dX10_is_20 : decode cX10_is 20 = .ok (.iconst 0, 1) := by decide +kernel
theorem dX10_is_21 : decode cX10_is 21 = .ok (.ireturn, 1) := by decide +kernel
theorem dX10_need_0 : decode cX10_need 0 = .ok (.aload_n 0, 1) := by decide +kernel
theorem dX10_need_1 : decode cX10_need 1 = .ok (.iload_n 1, 1) := by decide +kernel
theorem dX10_need_2 : decode cX10_need 2 = .ok (.invokevirtual 134, 3) := by decide +kernel
theorem dX10_need_5 : decode cX10_need 5 = .ok (.ifCond .ne 9, 3) := by decide +kernel
theorem dX10_need_8 : decode cX10_need 8 = .ok (.aload_n 0, 1) := by decide +kernel
theorem dX10_need_9 : decode cX10_need 9 = .ok (.iconst 1, 1) := by decide +kernel
theorem dX10_need_10 : decode cX10_need 10 = .ok (.invokevirtual 137, 3) := by decide +kernel
theorem dX10_need_13 : decode cX10_need 13 = .ok (.athrow, 1) := by decide +kernel
theorem dX10_need_14 : decode cX10_need 14 = .ok (.aload_n 0, 1) := by decide +kernel
theorem dX10_need_15 : decode cX10_need 15 = .ok (.invokevirtual 140, 3) := by decide +kernel
theorem dX10_need_18 : decode cX10_need 18 = .ok (.return_, 1) := by decide +kernel
theorem dX10_isIf_0 : decode cX10_isIf 0 = .ok (.aload_n 0, 1) := by decide +kernel
theorem dX10_isIf_1 : decode cX10_isIf 1 = .ok (.getfield 112, 3) := by decide +kernel
theorem dX10_isIf_4 : decode cX10_isIf 4 = .ok (.iconst 2, 1) := by decide +kernel
theorem dX10_isIf_5 : decode cX10_isIf 5 = .ok (.if_icmp .ne 45, 3) := by decide +kernel
theorem dX10_isIf_8 : decode cX10_isIf 8 = .ok (.aload_n 0, 1) := by decide +kernel
theorem dX10_isIf_9 : decode cX10_isIf 9 = .ok (.getfield 122, 3) := by decide +kernel
theorem dX10_isIf_12 : decode cX10_isIf 12 = .ok (.iconst 2, 1) := by decide +kernel
theorem dX10_isIf_13 : decode cX10_isIf 13 = .ok (.if_icmp .ne 37, 3) := by decide +kernel
theorem dX10_isIf_16 : decode cX10_isIf 16 = .ok (.aload_n 0, 1) := by decide +kernel
theorem dX10_isIf_17 : decode cX10_isIf 17 = .ok (.getfield 39, 3) := by decide +kernel
theorem dX10_isIf_20 : decode cX10_isIf 20 = .ok (.aload_n 0, 1) := by decide +kernel
theorem dX10_isIf_21 : decode cX10_isIf 21 = .ok (.getfield 95, 3) := by decide +kernel
theorem dX10_isIf_24 : decode cX10_isIf 24 = .ok (.baload, 1) := by decide +kernel
theorem dX10_isIf_25 : decode cX10_isIf 25 = .ok (.bipush 105, 2) := by decide +kernel
theorem dX10_isIf_27 : decode cX10_isIf 27 = .ok (.if_icmp .ne 23, 3) := by decide +kernel
theorem dX10_isIf_30 : decode cX10_isIf 30 = .ok (.aload_n 0, 1) := by decide +kernel
theorem dX10_isIf_31 : decode cX10_isIf 31 = .ok (.getfield 39, 3) := by decide +kernel
theorem dX10_isIf_34 : decode cX10_isIf 34 = .ok (.aload_n 0, 1) := by decide +kernel
theorem dX10_isIf_35 : decode cX10_isIf 35 = .ok (.getfield 95, 3) := by decide +kernel
theorem dX10_isIf_38 : decode cX10_isIf 38 = .ok (.iconst 1, 1) := by decide +kernel
theorem dX10_isIf_39 : decode cX10_isIf 39 = .ok (.iadd, 1) := by decide +kernel
theorem dX10_isIf_40 : decode cX10_isIf 40 = .ok (.baload, 1) := by decide +kernel
theorem dX10_isIf_41 : decode cX10_isIf 41 = .ok (.bipush 102, 2) := by decide +kernel
theorem dX10_isIf_43 : decode cX10_isIf 43 = .ok (.if_icmp .ne 7, 3) := by decide +kernel
theorem dX10_isIf_46 : decode cX10_isIf 46 = .ok (.iconst 1, 1) := by decide +kernel
theorem dX10_isIf_47 : decode cX10_isIf 47 = .ok (.goto 4, 3) := by decide +kernel
theorem dX10_isIf_50 : decode cX10_isIf 50 = .ok (.iconst 0, 1) := by decide +kernel
theorem dX10_isIf_51 : decode cX10_isIf 51 = .ok (.ireturn, 1) := by decide +kernel
theorem dX10_nameHere_0 : decode cX10_nameHere 0 = .ok (.aload_n 0, 1) := by decide +kernel
theorem dX10_nameHere_1 : decode cX10_nameHere 1 = .ok (.getfield 112, 3) := by decide +kernel
theorem dX10_nameHere_4 : decode cX10_nameHere 4 = .ok (.iconst 2, 1) := by decide +kernel
theorem dX10_nameHere_5 : decode cX10_nameHere 5 = .ok (.if_icmp .eq 9, 3) := by decide +kernel
theorem dX10_nameHere_8 : decode cX10_nameHere 8 = .ok (.aload_n 0, 1) := by decide +kernel
theorem dX10_nameHere_9 : decode cX10_nameHere 9 = .ok (.iconst 1, 1) := by decide +kernel
theorem dX10_nameHere_10 : decode cX10_nameHere 10 = .ok (.invokevirtual 137, 3) := by decide +kernel
theorem dX10_nameHere_13 : decode cX10_nameHere 13 = .ok (.athrow, 1) := by decide +kernel
theorem dX10_nameHere_14 : decode cX10_nameHere 14 = .ok (.aload_n 0, 1) := by decide +kernel
theorem dX10_nameHere_15 : decode cX10_nameHere 15 = .ok (.getfield 122, 3) := by decide +kernel
theorem dX10_nameHere_18 : decode cX10_nameHere 18 = .ok (.iconst 1, 1) := by decide +kernel
theorem dX10_nameHere_19 : decode cX10_nameHere 19 = .ok (.if_icmp .ne 17, 3) := by decide +kernel
theorem dX10_nameHere_22 : decode cX10_nameHere 22 = .ok (.aload_n 0, 1) := by decide +kernel
theorem dX10_nameHere_23 : decode cX10_nameHere 23 = .ok (.getfield 39, 3) := by decide +kernel
theorem dX10_nameHere_26 : decode cX10_nameHere 26 = .ok (.aload_n 0, 1) := by decide +kernel
theorem dX10_nameHere_27 : decode cX10_nameHere 27 = .ok (.getfield 95, 3) := by decide +kernel
theorem dX10_nameHere_30 : decode cX10_nameHere 30 = .ok (.baload, 1) := by decide +kernel
theorem dX10_nameHere_31 : decode cX10_nameHere 31 = .ok (.bipush 104, 2) := by decide +kernel
theorem dX10_nameHere_33 : decode cX10_nameHere 33 = .ok (.if_icmp .le 9, 3) := by decide +kernel
theorem dX10_nameHere_36 : decode cX10_nameHere 36 = .ok (.aload_n 0, 1) := by decide +kernel
theorem dX10_nameHere_37 : decode cX10_nameHere 37 = .ok (.iconst 2, 1) := by decide +kernel
theorem dX10_nameHere_38 : decode cX10_nameHere 38 = .ok (.invokevirtual 137, 3) := by decide +kernel
theorem dX10_nameHere_41 : decode cX10_nameHere 41 = .ok (.athrow, 1) := by decide +kernel
theorem dX10_nameHere_42 : decode cX10_nameHere 42 = .ok (.aload_n 0, 1) := by decide +kernel
theorem dX10_nameHere_43 : decode cX10_nameHere 43 = .ok (.getfield 39, 3) := by decide +kernel
theorem dX10_nameHere_46 : decode cX10_nameHere 46 = .ok (.aload_n 0, 1) := by decide +kernel
theorem dX10_nameHere_47 : decode cX10_nameHere 47 = .ok (.getfield 95, 3) := by decide +kernel
theorem dX10_nameHere_50 : decode cX10_nameHere 50 = .ok (.baload, 1) := by decide +kernel
theorem dX10_nameHere_51 : decode cX10_nameHere 51 = .ok (.bipush 97, 2) := by decide +kernel
theorem dX10_nameHere_53 : decode cX10_nameHere 53 = .ok (.isub, 1) := by decide +kernel
theorem dX10_nameHere_54 : decode cX10_nameHere 54 = .ok (.ireturn, 1) := by decide +kernel
theorem dX10_op_0 : decode cX10_op 0 = .ok (.aload_n 0, 1) := by decide +kernel
theorem dX10_op_1 : decode cX10_op 1 = .ok (.getfield 29, 3) := by decide +kernel
theorem dX10_op_4 : decode cX10_op 4 = .ok (.getfield 143, 3) := by decide +kernel
theorem dX10_op_7 : decode cX10_op 7 = .ok (.bipush 120, 2) := by decide +kernel
theorem dX10_op_9 : decode cX10_op 9 = .ok (.if_icmp .ne 9, 3) := by decide +kernel
theorem dX10_op_12 : decode cX10_op 12 = .ok (.aload_n 0, 1) := by decide +kernel
theorem dX10_op_13 : decode cX10_op 13 = .ok (.iconst 5, 1) := by decide +kernel
theorem dX10_op_14 : decode cX10_op 14 = .ok (.invokevirtual 137, 3) := by decide +kernel
theorem dX10_op_17 : decode cX10_op 17 = .ok (.athrow, 1) := by decide +kernel
theorem dX10_op_18 : decode cX10_op 18 = .ok (.aload_n 0, 1) := by decide +kernel
theorem dX10_op_19 : decode cX10_op 19 = .ok (.getfield 29, 3) := by decide +kernel
theorem dX10_op_22 : decode cX10_op 22 = .ok (.dup, 1) := by decide +kernel
theorem dX10_op_23 : decode cX10_op 23 = .ok (.getfield 143, 3) := by decide +kernel
theorem dX10_op_26 : decode cX10_op 26 = .ok (.iconst 1, 1) := by decide +kernel
theorem dX10_op_27 : decode cX10_op 27 = .ok (.iadd, 1) := by decide +kernel
theorem dX10_op_28 : decode cX10_op 28 = .ok (.putfield 143, 3) := by decide +kernel
theorem dX10_op_31 : decode cX10_op 31 = .ok (.return_, 1) := by decide +kernel
theorem dX10_reads_0 : decode cX10_reads 0 = .ok (.aload_n 0, 1) := by decide +kernel
theorem dX10_reads_1 : decode cX10_reads 1 = .ok (.getfield 29, 3) := by decide +kernel
theorem dX10_reads_4 : decode cX10_reads 4 = .ok (.iconst 0, 1) := by decide +kernel
theorem dX10_reads_5 : decode cX10_reads 5 = .ok (.putfield 146, 3) := by decide +kernel
theorem dX10_reads_8 : decode cX10_reads 8 = .ok (.aload_n 0, 1) := by decide +kernel
theorem dX10_reads_9 : decode cX10_reads 9 = .ok (.getfield 29, 3) := by decide +kernel
theorem dX10_reads_12 : decode cX10_reads 12 = .ok (.iconst 0, 1) := by decide +kernel
theorem dX10_reads_13 : decode cX10_reads 13 = .ok (.putfield 149, 3) := by decide +kernel
theorem dX10_reads_16 : decode cX10_reads 16 = .ok (.aload_n 0, 1) := by decide +kernel
theorem dX10_reads_17 : decode cX10_reads 17 = .ok (.getfield 29, 3) := by decide +kernel
theorem dX10_reads_20 : decode cX10_reads 20 = .ok (.iconst 0, 1) := by decide +kernel
theorem dX10_reads_21 : decode cX10_reads 21 = .ok (.putfield 143, 3) := by decide +kernel
theorem dX10_reads_24 : decode cX10_reads 24 = .ok (.aload_n 0, 1) := by decide +kernel
theorem dX10_reads_25 : decode cX10_reads 25 = .ok (.iconst 0, 1) := by decide +kernel
theorem dX10_reads_26 : decode cX10_reads 26 = .ok (.putfield 152, 3) := by decide +kernel
theorem dX10_reads_29 : decode cX10_reads 29 = .ok (.aload_n 0, 1) := by decide +kernel
theorem dX10_reads_30 : decode cX10_reads 30 = .ok (.invokevirtual 140, 3) := by decide +kernel
theorem dX10_reads_33 : decode cX10_reads 33 = .ok (.iconst 1, 1) := by decide +kernel
theorem dX10_reads_34 : decode cX10_reads 34 = .ok (.istore_n 1, 1) := by decide +kernel
theorem dX10_reads_35 : decode cX10_reads 35 = .ok (.iload_n 1, 1) := by decide +kernel
theorem dX10_reads_36 : decode cX10_reads 36 = .ok (.ifCond .eq 24, 3) := by decide +kernel
theorem dX10_reads_39 : decode cX10_reads 39 = .ok (.aload_n 0, 1) := by decide +kernel
theorem dX10_reads_40 : decode cX10_reads 40 = .ok (.invokevirtual 155, 3) := by decide +kernel
theorem dX10_reads_43 : decode cX10_reads 43 = .ok (.aload_n 0, 1) := by decide +kernel
theorem dX10_reads_44 : decode cX10_reads 44 = .ok (.getfield 112, 3) := by decide +kernel
theorem dX10_reads_47 : decode cX10_reads 47 = .ok (.iconst 1, 1) := by decide +kernel
theorem dX10_reads_48 : decode cX10_reads 48 = .ok (.if_icmp .eq 7, 3) := by decide +kernel
theorem dX10_reads_51 : decode cX10_reads 51 = .ok (.iconst 1, 1) := by decide +kernel
theorem dX10_reads_52 : decode cX10_reads 52 = .ok (.goto 4, 3) := by decide +kernel
theorem dX10_reads_55 : decode cX10_reads 55 = .ok (.iconst 0, 1) := by decide +kernel
theorem dX10_reads_56 : decode cX10_reads 56 = .ok (.istore_n 1, 1) := by decide +kernel
theorem dX10_reads_57 : decode cX10_reads 57 = .ok (.goto (-22), 3) := by decide +kernel
theorem dX10_reads_60 : decode cX10_reads 60 = .ok (.return_, 1) := by decide +kernel
theorem dX10_isName_0 : decode cX10_isName 0 = .ok (.aload_n 0, 1) := by decide +kernel
theorem dX10_isName_1 : decode cX10_isName 1 = .ok (.getfield 29, 3) := by decide +kernel
theorem dX10_isName_4 : decode cX10_isName 4 = .ok (.getfield 158, 3) := by decide +kernel
theorem dX10_isName_7 : decode cX10_isName 7 = .ok (.iload_n 1, 1) := by decide +kernel
theorem dX10_isName_8 : decode cX10_isName 8 = .ok (.iaload, 1) := by decide +kernel
theorem dX10_isName_9 : decode cX10_isName 9 = .ok (.aload_n 0, 1) := by decide +kernel
theorem dX10_isName_10 : decode cX10_isName 10 = .ok (.getfield 122, 3) := by decide +kernel
theorem dX10_isName_13 : decode cX10_isName 13 = .ok (.if_icmp .ne 7, 3) := by decide +kernel
theorem dX10_isName_16 : decode cX10_isName 16 = .ok (.iconst 1, 1) := by decide +kernel
theorem dX10_isName_17 : decode cX10_isName 17 = .ok (.goto 4, 3) := by decide +kernel
theorem dX10_isName_20 : decode cX10_isName 20 = .ok (.iconst 0, 1) := by decide +kernel
theorem dX10_isName_21 : decode cX10_isName 21 = .ok (.istore_n 2, 1) := by decide +kernel
theorem dX10_isName_22 : decode cX10_isName 22 = .ok (.iconst 0, 1) := by decide +kernel
theorem dX10_isName_23 : decode cX10_isName 23 = .ok (.istore_n 3, 1) := by decide +kernel
theorem dX10_isName_24 : decode cX10_isName 24 = .ok (.iload_n 3, 1) := by decide +kernel
theorem dX10_isName_25 : decode cX10_isName 25 = .ok (.aload_n 0, 1) := by decide +kernel
theorem dX10_isName_26 : decode cX10_isName 26 = .ok (.getfield 122, 3) := by decide +kernel
theorem dX10_isName_29 : decode cX10_isName 29 = .ok (.if_icmp .ge 47, 3) := by decide +kernel
theorem dX10_isName_32 : decode cX10_isName 32 = .ok (.iload_n 2, 1) := by decide +kernel
theorem dX10_isName_33 : decode cX10_isName 33 = .ok (.ifCond .eq 43, 3) := by decide +kernel
theorem dX10_isName_36 : decode cX10_isName 36 = .ok (.aload_n 0, 1) := by decide +kernel
theorem dX10_isName_37 : decode cX10_isName 37 = .ok (.getfield 29, 3) := by decide +kernel
theorem dX10_isName_40 : decode cX10_isName 40 = .ok (.getfield 161, 3) := by decide +kernel
theorem dX10_isName_43 : decode cX10_isName 43 = .ok (.bipush 8, 2) := by decide +kernel
theorem dX10_isName_45 : decode cX10_isName 45 = .ok (.iload_n 1, 1) := by decide +kernel
theorem dX10_isName_46 : decode cX10_isName 46 = .ok (.imul, 1) := by decide +kernel
theorem dX10_isName_47 : decode cX10_isName 47 = .ok (.iload_n 3, 1) := by decide +kernel
theorem dX10_isName_48 : decode cX10_isName 48 = .ok (.iadd, 1) := by decide +kernel
theorem dX10_isName_49 : decode cX10_isName 49 = .ok (.baload, 1) := by decide +kernel
theorem dX10_isName_50 : decode cX10_isName 50 = .ok (.aload_n 0, 1) := by decide +kernel
theorem dX10_isName_51 : decode cX10_isName 51 = .ok (.getfield 39, 3) := by decide +kernel
theorem dX10_isName_54 : decode cX10_isName 54 = .ok (.aload_n 0, 1) := by decide +kernel
theorem dX10_isName_55 : decode cX10_isName 55 = .ok (.getfield 95, 3) := by decide +kernel
theorem dX10_isName_58 : decode cX10_isName 58 = .ok (.iload_n 3, 1) := by decide +kernel
theorem dX10_isName_59 : decode cX10_isName 59 = .ok (.iadd, 1) := by decide +kernel
theorem dX10_isName_60 : decode cX10_isName 60 = .ok (.baload, 1) := by decide +kernel
theorem dX10_isName_61 : decode cX10_isName 61 = .ok (.if_icmp .ne 7, 3) := by decide +kernel
theorem dX10_isName_64 : decode cX10_isName 64 = .ok (.iconst 1, 1) := by decide +kernel
theorem dX10_isName_65 : decode cX10_isName 65 = .ok (.goto 4, 3) := by decide +kernel
theorem dX10_isName_68 : decode cX10_isName 68 = .ok (.iconst 0, 1) := by decide +kernel
theorem dX10_isName_69 : decode cX10_isName 69 = .ok (.istore_n 2, 1) := by decide +kernel
theorem dX10_isName_70 : decode cX10_isName 70 = .ok (.iinc 3 1, 3) := by decide +kernel
theorem dX10_isName_73 : decode cX10_isName 73 = .ok (.goto (-49), 3) := by decide +kernel
theorem dX10_isName_76 : decode cX10_isName 76 = .ok (.iload_n 2, 1) := by decide +kernel
theorem dX10_isName_77 : decode cX10_isName 77 = .ok (.ireturn, 1) := by decide +kernel
theorem dX10_readBlock_0 : decode cX10_readBlock 0 = .ok (.aload_n 0, 1) := by decide +kernel
theorem dX10_readBlock_1 : decode cX10_readBlock 1 = .ok (.getfield 112, 3) := by decide +kernel
theorem dX10_readBlock_4 : decode cX10_readBlock 4 = .ok (.iconst 2, 1) := by decide +kernel
theorem dX10_readBlock_5 : decode cX10_readBlock 5 = .ok (.if_icmp .eq 9, 3) := by decide +kernel
theorem dX10_readBlock_8 : decode cX10_readBlock 8 = .ok (.aload_n 0, 1) := by decide +kernel
theorem dX10_readBlock_9 : decode cX10_readBlock 9 = .ok (.iconst 1, 1) := by decide +kernel
theorem dX10_readBlock_10 : decode cX10_readBlock 10 = .ok (.invokevirtual 137, 3) := by decide +kernel
theorem dX10_readBlock_13 : decode cX10_readBlock 13 = .ok (.athrow, 1) := by decide +kernel
theorem dX10_readBlock_14 : decode cX10_readBlock 14 = .ok (.iconst 0, 1) := by decide +kernel
theorem dX10_readBlock_15 : decode cX10_readBlock 15 = .ok (.istore_n 1, 1) := by decide +kernel
theorem dX10_readBlock_16 : decode cX10_readBlock 16 = .ok (.iload_n 1, 1) := by decide +kernel
theorem dX10_readBlock_17 : decode cX10_readBlock 17 = .ok (.aload_n 0, 1) := by decide +kernel
theorem dX10_readBlock_18 : decode cX10_readBlock 18 = .ok (.getfield 29, 3) := by decide +kernel
theorem dX10_readBlock_21 : decode cX10_readBlock 21 = .ok (.getfield 146, 3) := by decide +kernel
theorem dX10_readBlock_24 : decode cX10_readBlock 24 = .ok (.if_icmp .ge 23, 3) := by decide +kernel
theorem dX10_readBlock_27 : decode cX10_readBlock 27 = .ok (.aload_n 0, 1) := by decide +kernel
theorem dX10_readBlock_28 : decode cX10_readBlock 28 = .ok (.iload_n 1, 1) := by decide +kernel
theorem dX10_readBlock_29 : decode cX10_readBlock 29 = .ok (.invokevirtual 164, 3) := by decide +kernel
theorem dX10_readBlock_32 : decode cX10_readBlock 32 = .ok (.ifCond .eq 9, 3) := by decide +kernel
theorem dX10_readBlock_35 : decode cX10_readBlock 35 = .ok (.aload_n 0, 1) := by decide +kernel
theorem dX10_readBlock_36 : decode cX10_readBlock 36 = .ok (.iconst 3, 1) := by decide +kernel
theorem dX10_readBlock_37 : decode cX10_readBlock 37 = .ok (.invokevirtual 137, 3) := by decide +kernel
theorem dX10_readBlock_40 : decode cX10_readBlock 40 = .ok (.athrow, 1) := by decide +kernel
theorem dX10_readBlock_41 : decode cX10_readBlock 41 = .ok (.iinc 1 1, 3) := by decide +kernel
theorem dX10_readBlock_44 : decode cX10_readBlock 44 = .ok (.goto (-28), 3) := by decide +kernel
theorem dX10_readBlock_47 : decode cX10_readBlock 47 = .ok (.aload_n 0, 1) := by decide +kernel
theorem dX10_readBlock_48 : decode cX10_readBlock 48 = .ok (.getfield 29, 3) := by decide +kernel
theorem dX10_readBlock_51 : decode cX10_readBlock 51 = .ok (.getfield 146, 3) := by decide +kernel
theorem dX10_readBlock_54 : decode cX10_readBlock 54 = .ok (.bipush 12, 2) := by decide +kernel
theorem dX10_readBlock_56 : decode cX10_readBlock 56 = .ok (.if_icmp .ne 9, 3) := by decide +kernel
theorem dX10_readBlock_59 : decode cX10_readBlock 59 = .ok (.aload_n 0, 1) := by decide +kernel
theorem dX10_readBlock_60 : decode cX10_readBlock 60 = .ok (.iconst 5, 1) := by decide +kernel
theorem dX10_readBlock_61 : decode cX10_readBlock 61 = .ok (.invokevirtual 137, 3) := by decide +kernel
theorem dX10_readBlock_64 : decode cX10_readBlock 64 = .ok (.athrow, 1) := by decide +kernel
theorem dX10_readBlock_65 : decode cX10_readBlock 65 = .ok (.aload_n 0, 1) := by decide +kernel
theorem dX10_readBlock_66 : decode cX10_readBlock 66 = .ok (.getfield 29, 3) := by decide +kernel
theorem dX10_readBlock_69 : decode cX10_readBlock 69 = .ok (.getfield 146, 3) := by decide +kernel
theorem dX10_readBlock_72 : decode cX10_readBlock 72 = .ok (.istore_n 1, 1) := by decide +kernel
theorem dX10_readBlock_73 : decode cX10_readBlock 73 = .ok (.aload_n 0, 1) := by decide +kernel
theorem dX10_readBlock_74 : decode cX10_readBlock 74 = .ok (.getfield 29, 3) := by decide +kernel
theorem dX10_readBlock_77 : decode cX10_readBlock 77 = .ok (.getfield 158, 3) := by decide +kernel
theorem dX10_readBlock_80 : decode cX10_readBlock 80 = .ok (.iload_n 1, 1) := by decide +kernel
theorem dX10_readBlock_81 : decode cX10_readBlock 81 = .ok (.aload_n 0, 1) := by decide +kernel
theorem dX10_readBlock_82 : decode cX10_readBlock 82 = .ok (.getfield 122, 3) := by decide +kernel
theorem dX10_readBlock_85 : decode cX10_readBlock 85 = .ok (.iastore, 1) := by decide +kernel
theorem dX10_readBlock_86 : decode cX10_readBlock 86 = .ok (.iconst 0, 1) := by decide +kernel
theorem dX10_readBlock_87 : decode cX10_readBlock 87 = .ok (.istore_n 2, 1) := by decide +kernel
theorem dX10_readBlock_88 : decode cX10_readBlock 88 = .ok (.iload_n 2, 1) := by decide +kernel
theorem dX10_readBlock_89 : decode cX10_readBlock 89 = .ok (.aload_n 0, 1) := by decide +kernel
theorem dX10_readBlock_90 : decode cX10_readBlock 90 = .ok (.getfield 122, 3) := by decide +kernel
theorem dX10_readBlock_93 : decode cX10_readBlock 93 = .ok (.if_icmp .ge 34, 3) := by decide +kernel
theorem dX10_readBlock_96 : decode cX10_readBlock 96 = .ok (.aload_n 0, 1) := by decide +kernel
theorem dX10_readBlock_97 : decode cX10_readBlock 97 = .ok (.getfield 29, 3) := by decide +kernel
theorem dX10_readBlock_100 : decode cX10_readBlock 100 = .ok (.getfield 161, 3) := by decide +kernel
theorem dX10_readBlock_103 : decode cX10_readBlock 103 = .ok (.bipush 8, 2) := by decide +kernel
theorem dX10_readBlock_105 : decode cX10_readBlock 105 = .ok (.iload_n 1, 1) := by decide +kernel
theorem dX10_readBlock_106 : decode cX10_readBlock 106 = .ok (.imul, 1) := by decide +kernel
theorem dX10_readBlock_107 : decode cX10_readBlock 107 = .ok (.iload_n 2, 1) := by decide +kernel
theorem dX10_readBlock_108 : decode cX10_readBlock 108 = .ok (.iadd, 1) := by decide +kernel
theorem dX10_readBlock_109 : decode cX10_readBlock 109 = .ok (.aload_n 0, 1) := by decide +kernel
theorem dX10_readBlock_110 : decode cX10_readBlock 110 = .ok (.getfield 39, 3) := by decide +kernel
theorem dX10_readBlock_113 : decode cX10_readBlock 113 = .ok (.aload_n 0, 1) := by decide +kernel
theorem dX10_readBlock_114 : decode cX10_readBlock 114 = .ok (.getfield 95, 3) := by decide +kernel
theorem dX10_readBlock_117 : decode cX10_readBlock 117 = .ok (.iload_n 2, 1) := by decide +kernel
theorem dX10_readBlock_118 : decode cX10_readBlock 118 = .ok (.iadd, 1) := by decide +kernel
theorem dX10_readBlock_119 : decode cX10_readBlock 119 = .ok (.baload, 1) := by decide +kernel
theorem dX10_readBlock_120 : decode cX10_readBlock 120 = .ok (.bastore, 1) := by decide +kernel
theorem dX10_readBlock_121 : decode cX10_readBlock 121 = .ok (.iinc 2 1, 3) := by decide +kernel
theorem dX10_readBlock_124 : decode cX10_readBlock 124 = .ok (.goto (-36), 3) := by decide +kernel
theorem dX10_readBlock_127 : decode cX10_readBlock 127 = .ok (.aload_n 0, 1) := by decide +kernel
theorem dX10_readBlock_128 : decode cX10_readBlock 128 = .ok (.invokevirtual 140, 3) := by decide +kernel
theorem dX10_readBlock_131 : decode cX10_readBlock 131 = .ok (.aload_n 0, 1) := by decide +kernel
theorem dX10_readBlock_132 : decode cX10_readBlock 132 = .ok (.getfield 112, 3) := by decide +kernel
theorem dX10_readBlock_135 : decode cX10_readBlock 135 = .ok (.iconst 3, 1) := by decide +kernel
theorem dX10_readBlock_136 : decode cX10_readBlock 136 = .ok (.if_icmp .eq 9, 3) := by decide +kernel
theorem dX10_readBlock_139 : decode cX10_readBlock 139 = .ok (.aload_n 0, 1) := by decide +kernel
theorem dX10_readBlock_140 : decode cX10_readBlock 140 = .ok (.iconst 1, 1) := by decide +kernel
theorem dX10_readBlock_141 : decode cX10_readBlock 141 = .ok (.invokevirtual 137, 3) := by decide +kernel
theorem dX10_readBlock_144 : decode cX10_readBlock 144 = .ok (.athrow, 1) := by decide +kernel
theorem dX10_readBlock_145 : decode cX10_readBlock 145 = .ok (.aload_n 0, 1) := by decide +kernel
theorem dX10_readBlock_146 : decode cX10_readBlock 146 = .ok (.getfield 128, 3) := by decide +kernel
theorem dX10_readBlock_149 : decode cX10_readBlock 149 = .ok (.iconst 1, 1) := by decide +kernel
theorem dX10_readBlock_150 : decode cX10_readBlock 150 = .ok (.bipush 50, 2) := by decide +kernel
theorem dX10_readBlock_152 : decode cX10_readBlock 152 = .ok (.invokestatic 167, 3) := by decide +kernel
theorem dX10_readBlock_155 : decode cX10_readBlock 155 = .ok (.ifCond .ne 9, 3) := by decide +kernel
theorem dX10_readBlock_158 : decode cX10_readBlock 158 = .ok (.aload_n 0, 1) := by decide +kernel
theorem dX10_readBlock_159 : decode cX10_readBlock 159 = .ok (.iconst 4, 1) := by decide +kernel
theorem dX10_readBlock_160 : decode cX10_readBlock 160 = .ok (.invokevirtual 137, 3) := by decide +kernel
theorem dX10_readBlock_163 : decode cX10_readBlock 163 = .ok (.athrow, 1) := by decide +kernel
theorem dX10_readBlock_164 : decode cX10_readBlock 164 = .ok (.aload_n 0, 1) := by decide +kernel
theorem dX10_readBlock_165 : decode cX10_readBlock 165 = .ok (.getfield 29, 3) := by decide +kernel
theorem dX10_readBlock_168 : decode cX10_readBlock 168 = .ok (.getfield 171, 3) := by decide +kernel
theorem dX10_readBlock_171 : decode cX10_readBlock 171 = .ok (.iload_n 1, 1) := by decide +kernel
theorem dX10_readBlock_172 : decode cX10_readBlock 172 = .ok (.aload_n 0, 1) := by decide +kernel
theorem dX10_readBlock_173 : decode cX10_readBlock 173 = .ok (.getfield 128, 3) := by decide +kernel
theorem dX10_readBlock_176 : decode cX10_readBlock 176 = .ok (.iastore, 1) := by decide +kernel
theorem dX10_readBlock_177 : decode cX10_readBlock 177 = .ok (.aload_n 0, 1) := by decide +kernel
theorem dX10_readBlock_178 : decode cX10_readBlock 178 = .ok (.getfield 29, 3) := by decide +kernel
theorem dX10_readBlock_181 : decode cX10_readBlock 181 = .ok (.getfield 174, 3) := by decide +kernel
theorem dX10_readBlock_184 : decode cX10_readBlock 184 = .ok (.iload_n 1, 1) := by decide +kernel
theorem dX10_readBlock_185 : decode cX10_readBlock 185 = .ok (.iconst 0, 1) := by decide +kernel
theorem dX10_readBlock_186 : decode cX10_readBlock 186 = .ok (.iastore, 1) := by decide +kernel
theorem dX10_readBlock_187 : decode cX10_readBlock 187 = .ok (.aload_n 0, 1) := by decide +kernel
theorem dX10_readBlock_188 : decode cX10_readBlock 188 = .ok (.invokevirtual 140, 3) := by decide +kernel
theorem dX10_readBlock_191 : decode cX10_readBlock 191 = .ok (.aload_n 0, 1) := by decide +kernel
theorem dX10_readBlock_192 : decode cX10_readBlock 192 = .ok (.bipush 123, 2) := by decide +kernel
theorem dX10_readBlock_194 : decode cX10_readBlock 194 = .ok (.invokevirtual 177, 3) := by decide +kernel
theorem dX10_readBlock_197 : decode cX10_readBlock 197 = .ok (.iconst 1, 1) := by decide +kernel
theorem dX10_readBlock_198 : decode cX10_readBlock 198 = .ok (.istore_n 2, 1) := by decide +kernel
theorem dX10_readBlock_199 : decode cX10_readBlock 199 = .ok (.iload_n 2, 1) := by decide +kernel
theorem dX10_readBlock_200 : decode cX10_readBlock 200 = .ok (.ifCond .eq 26, 3) := by decide +kernel
theorem dX10_readBlock_203 : decode cX10_readBlock 203 = .ok (.aload_n 0, 1) := by decide +kernel
theorem dX10_readBlock_204 : decode cX10_readBlock 204 = .ok (.iload_n 1, 1) := by decide +kernel
theorem dX10_readBlock_205 : decode cX10_readBlock 205 = .ok (.invokevirtual 181, 3) := by decide +kernel
theorem dX10_readBlock_208 : decode cX10_readBlock 208 = .ok (.aload_n 0, 1) := by decide +kernel
theorem dX10_readBlock_209 : decode cX10_readBlock 209 = .ok (.bipush 59, 2) := by decide +kernel
theorem dX10_readBlock_211 : decode cX10_readBlock 211 = .ok (.invokevirtual 134, 3) := by decide +kernel
theorem dX10_readBlock_214 : decode cX10_readBlock 214 = .ok (.istore_n 2, 1) := by decide +kernel
theorem dX10_readBlock_215 : decode cX10_readBlock 215 = .ok (.iload_n 2, 1) := by decide +kernel
theorem dX10_readBlock_216 : decode cX10_readBlock 216 = .ok (.ifCond .eq (-17), 3) := by decide +kernel
theorem dX10_readBlock_219 : decode cX10_readBlock 219 = .ok (.aload_n 0, 1) := by decide +kernel
theorem dX10_readBlock_220 : decode cX10_readBlock 220 = .ok (.invokevirtual 140, 3) := by decide +kernel
theorem dX10_readBlock_223 : decode cX10_readBlock 223 = .ok (.goto (-24), 3) := by decide +kernel
theorem dX10_readBlock_226 : decode cX10_readBlock 226 = .ok (.aload_n 0, 1) := by decide +kernel
theorem dX10_readBlock_227 : decode cX10_readBlock 227 = .ok (.bipush 125, 2) := by decide +kernel
theorem dX10_readBlock_229 : decode cX10_readBlock 229 = .ok (.invokevirtual 177, 3) := by decide +kernel
theorem dX10_readBlock_232 : decode cX10_readBlock 232 = .ok (.aload_n 0, 1) := by decide +kernel
theorem dX10_readBlock_233 : decode cX10_readBlock 233 = .ok (.getfield 29, 3) := by decide +kernel
theorem dX10_readBlock_236 : decode cX10_readBlock 236 = .ok (.dup, 1) := by decide +kernel
theorem dX10_readBlock_237 : decode cX10_readBlock 237 = .ok (.getfield 146, 3) := by decide +kernel
theorem dX10_readBlock_240 : decode cX10_readBlock 240 = .ok (.iconst 1, 1) := by decide +kernel
theorem dX10_readBlock_241 : decode cX10_readBlock 241 = .ok (.iadd, 1) := by decide +kernel
theorem dX10_readBlock_242 : decode cX10_readBlock 242 = .ok (.putfield 146, 3) := by decide +kernel
theorem dX10_readBlock_245 : decode cX10_readBlock 245 = .ok (.return_, 1) := by decide +kernel
theorem dX10_readLine_0 : decode cX10_readLine 0 = .ok (.aload_n 0, 1) := by decide +kernel
theorem dX10_readLine_1 : decode cX10_readLine 1 = .ok (.getfield 112, 3) := by decide +kernel
theorem dX10_readLine_4 : decode cX10_readLine 4 = .ok (.iconst 2, 1) := by decide +kernel
theorem dX10_readLine_5 : decode cX10_readLine 5 = .ok (.if_icmp .eq 9, 3) := by decide +kernel
theorem dX10_readLine_8 : decode cX10_readLine 8 = .ok (.aload_n 0, 1) := by decide +kernel
theorem dX10_readLine_9 : decode cX10_readLine 9 = .ok (.iconst 1, 1) := by decide +kernel
theorem dX10_readLine_10 : decode cX10_readLine 10 = .ok (.invokevirtual 137, 3) := by decide +kernel
theorem dX10_readLine_13 : decode cX10_readLine 13 = .ok (.athrow, 1) := by decide +kernel
theorem dX10_readLine_14 : decode cX10_readLine 14 = .ok (.aload_n 0, 1) := by decide +kernel
theorem dX10_readLine_15 : decode cX10_readLine 15 = .ok (.invokevirtual 184, 3) := by decide +kernel
theorem dX10_readLine_18 : decode cX10_readLine 18 = .ok (.ifCond .ne 8, 3) := by decide +kernel
theorem dX10_readLine_21 : decode cX10_readLine 21 = .ok (.aload_n 0, 1) := by decide +kernel
theorem dX10_readLine_22 : decode cX10_readLine 22 = .ok (.invokevirtual 188, 3) := by decide +kernel
theorem dX10_readLine_25 : decode cX10_readLine 25 = .ok (.istore_n 2, 1) := by decide +kernel
theorem dX10_readLine_26 : decode cX10_readLine 26 = .ok (.aload_n 0, 1) := by decide +kernel
theorem dX10_readLine_27 : decode cX10_readLine 27 = .ok (.getfield 29, 3) := by decide +kernel
theorem dX10_readLine_30 : decode cX10_readLine 30 = .ok (.getfield 174, 3) := by decide +kernel
theorem dX10_readLine_33 : decode cX10_readLine 33 = .ok (.iload_n 1, 1) := by decide +kernel
theorem dX10_readLine_34 : decode cX10_readLine 34 = .ok (.iaload, 1) := by decide +kernel
theorem dX10_readLine_35 : decode cX10_readLine 35 = .ok (.bipush 8, 2) := by decide +kernel
theorem dX10_readLine_37 : decode cX10_readLine 37 = .ok (.if_icmp .ne 9, 3) := by decide +kernel
theorem dX10_readLine_40 : decode cX10_readLine 40 = .ok (.aload_n 0, 1) := by decide +kernel
theorem dX10_readLine_41 : decode cX10_readLine 41 = .ok (.iconst 5, 1) := by decide +kernel
theorem dX10_readLine_42 : decode cX10_readLine 42 = .ok (.invokevirtual 137, 3) := by decide +kernel
theorem dX10_readLine_45 : decode cX10_readLine 45 = .ok (.athrow, 1) := by decide +kernel
theorem dX10_readLine_46 : decode cX10_readLine 46 = .ok (.bipush 8, 2) := by decide +kernel
theorem dX10_readLine_48 : decode cX10_readLine 48 = .ok (.iload_n 1, 1) := by decide +kernel
theorem dX10_readLine_49 : decode cX10_readLine 49 = .ok (.imul, 1) := by decide +kernel
theorem dX10_readLine_50 : decode cX10_readLine 50 = .ok (.aload_n 0, 1) := by decide +kernel
theorem dX10_readLine_51 : decode cX10_readLine 51 = .ok (.getfield 29, 3) := by decide +kernel
theorem dX10_readLine_54 : decode cX10_readLine 54 = .ok (.getfield 174, 3) := by decide +kernel
theorem dX10_readLine_57 : decode cX10_readLine 57 = .ok (.iload_n 1, 1) := by decide +kernel
theorem dX10_readLine_58 : decode cX10_readLine 58 = .ok (.iaload, 1) := by decide +kernel
theorem dX10_readLine_59 : decode cX10_readLine 59 = .ok (.iadd, 1) := by decide +kernel
theorem dX10_readLine_60 : decode cX10_readLine 60 = .ok (.istore_n 2, 1) := by decide +kernel
theorem dX10_readLine_61 : decode cX10_readLine 61 = .ok (.aload_n 0, 1) := by decide +kernel
theorem dX10_readLine_62 : decode cX10_readLine 62 = .ok (.getfield 29, 3) := by decide +kernel
theorem dX10_readLine_65 : decode cX10_readLine 65 = .ok (.getfield 192, 3) := by decide +kernel
theorem dX10_readLine_68 : decode cX10_readLine 68 = .ok (.iload_n 2, 1) := by decide +kernel
theorem dX10_readLine_69 : decode cX10_readLine 69 = .ok (.iconst (-1), 1) := by decide +kernel
theorem dX10_readLine_70 : decode cX10_readLine 70 = .ok (.iastore, 1) := by decide +kernel
theorem dX10_readLine_71 : decode cX10_readLine 71 = .ok (.aload_n 0, 1) := by decide +kernel
theorem dX10_readLine_72 : decode cX10_readLine 72 = .ok (.invokevirtual 184, 3) := by decide +kernel
theorem dX10_readLine_75 : decode cX10_readLine 75 = .ok (.ifCond .eq 28, 3) := by decide +kernel
theorem dX10_readLine_78 : decode cX10_readLine 78 = .ok (.aload_n 0, 1) := by decide +kernel
theorem dX10_readLine_79 : decode cX10_readLine 79 = .ok (.invokevirtual 195, 3) := by decide +kernel
theorem dX10_readLine_82 : decode cX10_readLine 82 = .ok (.aload_n 0, 1) := by decide +kernel
theorem dX10_readLine_83 : decode cX10_readLine 83 = .ok (.invokevirtual 140, 3) := by decide +kernel
theorem dX10_readLine_86 : decode cX10_readLine 86 = .ok (.aload_n 0, 1) := by decide +kernel
theorem dX10_readLine_87 : decode cX10_readLine 87 = .ok (.getfield 29, 3) := by decide +kernel
theorem dX10_readLine_90 : decode cX10_readLine 90 = .ok (.getfield 192, 3) := by decide +kernel
theorem dX10_readLine_93 : decode cX10_readLine 93 = .ok (.iload_n 2, 1) := by decide +kernel
theorem dX10_readLine_94 : decode cX10_readLine 94 = .ok (.aload_n 0, 1) := by decide +kernel
theorem dX10_readLine_95 : decode cX10_readLine 95 = .ok (.invokevirtual 188, 3) := by decide +kernel
theorem dX10_readLine_98 : decode cX10_readLine 98 = .ok (.iastore, 1) := by decide +kernel
theorem dX10_readLine_99 : decode cX10_readLine 99 = .ok (.aload_n 0, 1) := by decide +kernel
theorem dX10_readLine_100 : decode cX10_readLine 100 = .ok (.invokevirtual 140, 3) := by decide +kernel
theorem dX10_readLine_103 : decode cX10_readLine 103 = .ok (.aload_n 0, 1) := by decide +kernel
theorem dX10_readLine_104 : decode cX10_readLine 104 = .ok (.getfield 29, 3) := by decide +kernel
theorem dX10_readLine_107 : decode cX10_readLine 107 = .ok (.getfield 198, 3) := by decide +kernel
theorem dX10_readLine_110 : decode cX10_readLine 110 = .ok (.iload_n 2, 1) := by decide +kernel
theorem dX10_readLine_111 : decode cX10_readLine 111 = .ok (.aload_n 0, 1) := by decide +kernel
theorem dX10_readLine_112 : decode cX10_readLine 112 = .ok (.invokevirtual 188, 3) := by decide +kernel
theorem dX10_readLine_115 : decode cX10_readLine 115 = .ok (.iastore, 1) := by decide +kernel
theorem dX10_readLine_116 : decode cX10_readLine 116 = .ok (.aload_n 0, 1) := by decide +kernel
theorem dX10_readLine_117 : decode cX10_readLine 117 = .ok (.invokevirtual 140, 3) := by decide +kernel
theorem dX10_readLine_120 : decode cX10_readLine 120 = .ok (.aload_n 0, 1) := by decide +kernel
theorem dX10_readLine_121 : decode cX10_readLine 121 = .ok (.bipush 61, 2) := by decide +kernel
theorem dX10_readLine_123 : decode cX10_readLine 123 = .ok (.invokevirtual 177, 3) := by decide +kernel
theorem dX10_readLine_126 : decode cX10_readLine 126 = .ok (.aload_n 0, 1) := by decide +kernel
theorem dX10_readLine_127 : decode cX10_readLine 127 = .ok (.getfield 29, 3) := by decide +kernel
theorem dX10_readLine_130 : decode cX10_readLine 130 = .ok (.getfield 201, 3) := by decide +kernel
theorem dX10_readLine_133 : decode cX10_readLine 133 = .ok (.iload_n 2, 1) := by decide +kernel
theorem dX10_readLine_134 : decode cX10_readLine 134 = .ok (.aload_n 0, 1) := by decide +kernel
theorem dX10_readLine_135 : decode cX10_readLine 135 = .ok (.getfield 29, 3) := by decide +kernel
theorem dX10_readLine_138 : decode cX10_readLine 138 = .ok (.getfield 149, 3) := by decide +kernel
theorem dX10_readLine_141 : decode cX10_readLine 141 = .ok (.iastore, 1) := by decide +kernel
theorem dX10_readLine_142 : decode cX10_readLine 142 = .ok (.aload_n 0, 1) := by decide +kernel
theorem dX10_readLine_143 : decode cX10_readLine 143 = .ok (.invokevirtual 204, 3) := by decide +kernel
theorem dX10_readLine_146 : decode cX10_readLine 146 = .ok (.aload_n 0, 1) := by decide +kernel
theorem dX10_readLine_147 : decode cX10_readLine 147 = .ok (.getfield 29, 3) := by decide +kernel
theorem dX10_readLine_150 : decode cX10_readLine 150 = .ok (.getfield 207, 3) := by decide +kernel
theorem dX10_readLine_153 : decode cX10_readLine 153 = .ok (.iload_n 2, 1) := by decide +kernel
theorem dX10_readLine_154 : decode cX10_readLine 154 = .ok (.aload_n 0, 1) := by decide +kernel
theorem dX10_readLine_155 : decode cX10_readLine 155 = .ok (.getfield 29, 3) := by decide +kernel
theorem dX10_readLine_158 : decode cX10_readLine 158 = .ok (.getfield 149, 3) := by decide +kernel
theorem dX10_readLine_161 : decode cX10_readLine 161 = .ok (.iastore, 1) := by decide +kernel
theorem dX10_readLine_162 : decode cX10_readLine 162 = .ok (.aload_n 0, 1) := by decide +kernel
theorem dX10_readLine_163 : decode cX10_readLine 163 = .ok (.getfield 29, 3) := by decide +kernel
theorem dX10_readLine_166 : decode cX10_readLine 166 = .ok (.getfield 174, 3) := by decide +kernel
theorem dX10_readLine_169 : decode cX10_readLine 169 = .ok (.iload_n 1, 1) := by decide +kernel
theorem dX10_readLine_170 : decode cX10_readLine 170 = .ok (.dup2, 1) := by decide +kernel
theorem dX10_readLine_171 : decode cX10_readLine 171 = .ok (.iaload, 1) := by decide +kernel
theorem dX10_readLine_172 : decode cX10_readLine 172 = .ok (.iconst 1, 1) := by decide +kernel
theorem dX10_readLine_173 : decode cX10_readLine 173 = .ok (.iadd, 1) := by decide +kernel
theorem dX10_readLine_174 : decode cX10_readLine 174 = .ok (.iastore, 1) := by decide +kernel
theorem dX10_readLine_175 : decode cX10_readLine 175 = .ok (.return_, 1) := by decide +kernel
theorem dX10_readSum_0 : decode cX10_readSum 0 = .ok (.aload_n 0, 1) := by decide +kernel
theorem dX10_readSum_1 : decode cX10_readSum 1 = .ok (.invokevirtual 210, 3) := by decide +kernel
theorem dX10_readSum_4 : decode cX10_readSum 4 = .ok (.aload_n 0, 1) := by decide +kernel
theorem dX10_readSum_5 : decode cX10_readSum 5 = .ok (.getfield 112, 3) := by decide +kernel
theorem dX10_readSum_8 : decode cX10_readSum 8 = .ok (.iconst 4, 1) := by decide +kernel
theorem dX10_readSum_9 : decode cX10_readSum 9 = .ok (.if_icmp .ne 13, 3) := by decide +kernel
theorem dX10_readSum_12 : decode cX10_readSum 12 = .ok (.aload_n 0, 1) := by decide +kernel
theorem dX10_readSum_13 : decode cX10_readSum 13 = .ok (.getfield 115, 3) := by decide +kernel
theorem dX10_readSum_16 : decode cX10_readSum 16 = .ok (.invokestatic 102, 3) := by decide +kernel
theorem dX10_readSum_19 : decode cX10_readSum 19 = .ok (.goto 4, 3) := by decide +kernel
theorem dX10_readSum_22 : decode cX10_readSum 22 = .ok (.iconst (-1), 1) := by decide +kernel
theorem dX10_readSum_23 : decode cX10_readSum 23 = .ok (.istore_n 1, 1) := by decide +kernel
theorem dX10_readSum_24 : decode cX10_readSum 24 = .ok (.aload_n 0, 1) := by decide +kernel
theorem dX10_readSum_25 : decode cX10_readSum 25 = .ok (.getfield 112, 3) := by decide +kernel
theorem dX10_readSum_28 : decode cX10_readSum 28 = .ok (.iconst 4, 1) := by decide +kernel
theorem dX10_readSum_29 : decode cX10_readSum 29 = .ok (.if_icmp .ne 55, 3) := by decide +kernel
theorem dX10_readSum_32 : decode cX10_readSum 32 = .ok (.aload_n 0, 1) := by decide +kernel
theorem dX10_readSum_33 : decode cX10_readSum 33 = .ok (.getfield 115, 3) := by decide +kernel
theorem dX10_readSum_36 : decode cX10_readSum 36 = .ok (.invokestatic 102, 3) := by decide +kernel
theorem dX10_readSum_39 : decode cX10_readSum 39 = .ok (.iconst (-1), 1) := by decide +kernel
theorem dX10_readSum_40 : decode cX10_readSum 40 = .ok (.if_icmp .eq 44, 3) := by decide +kernel
theorem dX10_readSum_43 : decode cX10_readSum 43 = .ok (.aload_n 0, 1) := by decide +kernel
theorem dX10_readSum_44 : decode cX10_readSum 44 = .ok (.getfield 115, 3) := by decide +kernel
theorem dX10_readSum_47 : decode cX10_readSum 47 = .ok (.invokestatic 102, 3) := by decide +kernel
theorem dX10_readSum_50 : decode cX10_readSum 50 = .ok (.iload_n 1, 1) := by decide +kernel
theorem dX10_readSum_51 : decode cX10_readSum 51 = .ok (.if_icmp .eq 9, 3) := by decide +kernel
theorem dX10_readSum_54 : decode cX10_readSum 54 = .ok (.aload_n 0, 1) := by decide +kernel
theorem dX10_readSum_55 : decode cX10_readSum 55 = .ok (.iconst 1, 1) := by decide +kernel
theorem dX10_readSum_56 : decode cX10_readSum 56 = .ok (.invokevirtual 137, 3) := by decide +kernel
theorem dX10_readSum_59 : decode cX10_readSum 59 = .ok (.athrow, 1) := by decide +kernel
theorem dX10_readSum_60 : decode cX10_readSum 60 = .ok (.aload_n 0, 1) := by decide +kernel
theorem dX10_readSum_61 : decode cX10_readSum 61 = .ok (.invokevirtual 195, 3) := by decide +kernel
theorem dX10_readSum_64 : decode cX10_readSum 64 = .ok (.aload_n 0, 1) := by decide +kernel
theorem dX10_readSum_65 : decode cX10_readSum 65 = .ok (.invokevirtual 140, 3) := by decide +kernel
theorem dX10_readSum_68 : decode cX10_readSum 68 = .ok (.aload_n 0, 1) := by decide +kernel
theorem dX10_readSum_69 : decode cX10_readSum 69 = .ok (.invokevirtual 210, 3) := by decide +kernel
theorem dX10_readSum_72 : decode cX10_readSum 72 = .ok (.aload_n 0, 1) := by decide +kernel
theorem dX10_readSum_73 : decode cX10_readSum 73 = .ok (.getfield 29, 3) := by decide +kernel
theorem dX10_readSum_76 : decode cX10_readSum 76 = .ok (.iload_n 1, 1) := by decide +kernel
theorem dX10_readSum_77 : decode cX10_readSum 77 = .ok (.iconst 0, 1) := by decide +kernel
theorem dX10_readSum_78 : decode cX10_readSum 78 = .ok (.invokevirtual 213, 3) := by decide +kernel
theorem dX10_readSum_81 : decode cX10_readSum 81 = .ok (.goto (-57), 3) := by decide +kernel
theorem dX10_readSum_84 : decode cX10_readSum 84 = .ok (.return_, 1) := by decide +kernel
theorem dX10_readPart_0 : decode cX10_readPart 0 = .ok (.iconst 0, 1) := by decide +kernel
theorem dX10_readPart_1 : decode cX10_readPart 1 = .ok (.istore_n 1, 1) := by decide +kernel
theorem dX10_readPart_2 : decode cX10_readPart 2 = .ok (.aload_n 0, 1) := by decide +kernel
theorem dX10_readPart_3 : decode cX10_readPart 3 = .ok (.bipush 126, 2) := by decide +kernel
theorem dX10_readPart_5 : decode cX10_readPart 5 = .ok (.invokevirtual 134, 3) := by decide +kernel
theorem dX10_readPart_8 : decode cX10_readPart 8 = .ok (.ifCond .eq 17, 3) := by decide +kernel
theorem dX10_readPart_11 : decode cX10_readPart 11 = .ok (.aload_n 0, 1) := by decide +kernel
theorem dX10_readPart_12 : decode cX10_readPart 12 = .ok (.invokevirtual 195, 3) := by decide +kernel
theorem dX10_readPart_15 : decode cX10_readPart 15 = .ok (.iinc 1 1, 3) := by decide +kernel
theorem dX10_readPart_18 : decode cX10_readPart 18 = .ok (.aload_n 0, 1) := by decide +kernel
theorem dX10_readPart_19 : decode cX10_readPart 19 = .ok (.invokevirtual 140, 3) := by decide +kernel
theorem dX10_readPart_22 : decode cX10_readPart 22 = .ok (.goto (-20), 3) := by decide +kernel
theorem dX10_readPart_25 : decode cX10_readPart 25 = .ok (.aload_n 0, 1) := by decide +kernel
theorem dX10_readPart_26 : decode cX10_readPart 26 = .ok (.bipush 40, 2) := by decide +kernel
theorem dX10_readPart_28 : decode cX10_readPart 28 = .ok (.invokevirtual 134, 3) := by decide +kernel
theorem dX10_readPart_31 : decode cX10_readPart 31 = .ok (.ifCond .eq 55, 3) := by decide +kernel
theorem dX10_readPart_34 : decode cX10_readPart 34 = .ok (.aload_n 0, 1) := by decide +kernel
theorem dX10_readPart_35 : decode cX10_readPart 35 = .ok (.getfield 152, 3) := by decide +kernel
theorem dX10_readPart_38 : decode cX10_readPart 38 = .ok (.bipush 8, 2) := by decide +kernel
theorem dX10_readPart_40 : decode cX10_readPart 40 = .ok (.if_icmp .ne 9, 3) := by decide +kernel
theorem dX10_readPart_43 : decode cX10_readPart 43 = .ok (.aload_n 0, 1) := by decide +kernel
theorem dX10_readPart_44 : decode cX10_readPart 44 = .ok (.iconst 5, 1) := by decide +kernel
theorem dX10_readPart_45 : decode cX10_readPart 45 = .ok (.invokevirtual 137, 3) := by decide +kernel
theorem dX10_readPart_48 : decode cX10_readPart 48 = .ok (.athrow, 1) := by decide +kernel
theorem dX10_readPart_49 : decode cX10_readPart 49 = .ok (.aload_n 0, 1) := by decide +kernel
theorem dX10_readPart_50 : decode cX10_readPart 50 = .ok (.dup, 1) := by decide +kernel
theorem dX10_readPart_51 : decode cX10_readPart 51 = .ok (.getfield 152, 3) := by decide +kernel
theorem dX10_readPart_54 : decode cX10_readPart 54 = .ok (.iconst 1, 1) := by decide +kernel
theorem dX10_readPart_55 : decode cX10_readPart 55 = .ok (.iadd, 1) := by decide +kernel
theorem dX10_readPart_56 : decode cX10_readPart 56 = .ok (.putfield 152, 3) := by decide +kernel
theorem dX10_readPart_59 : decode cX10_readPart 59 = .ok (.aload_n 0, 1) := by decide +kernel
theorem dX10_readPart_60 : decode cX10_readPart 60 = .ok (.invokevirtual 140, 3) := by decide +kernel
theorem dX10_readPart_63 : decode cX10_readPart 63 = .ok (.aload_n 0, 1) := by decide +kernel
theorem dX10_readPart_64 : decode cX10_readPart 64 = .ok (.invokevirtual 204, 3) := by decide +kernel
theorem dX10_readPart_67 : decode cX10_readPart 67 = .ok (.aload_n 0, 1) := by decide +kernel
theorem dX10_readPart_68 : decode cX10_readPart 68 = .ok (.bipush 41, 2) := by decide +kernel
theorem dX10_readPart_70 : decode cX10_readPart 70 = .ok (.invokevirtual 177, 3) := by decide +kernel
theorem dX10_readPart_73 : decode cX10_readPart 73 = .ok (.aload_n 0, 1) := by decide +kernel
theorem dX10_readPart_74 : decode cX10_readPart 74 = .ok (.dup, 1) := by decide +kernel
theorem dX10_readPart_75 : decode cX10_readPart 75 = .ok (.getfield 152, 3) := by decide +kernel
theorem dX10_readPart_78 : decode cX10_readPart 78 = .ok (.iconst 1, 1) := by decide +kernel
theorem dX10_readPart_79 : decode cX10_readPart 79 = .ok (.isub, 1) := by decide +kernel
theorem dX10_readPart_80 : decode cX10_readPart 80 = .ok (.putfield 152, 3) := by decide +kernel
theorem dX10_readPart_83 : decode cX10_readPart 83 = .ok (.goto 63, 3) := by decide +kernel
theorem dX10_readPart_86 : decode cX10_readPart 86 = .ok (.aload_n 0, 1) := by decide +kernel
theorem dX10_readPart_87 : decode cX10_readPart 87 = .ok (.getfield 112, 3) := by decide +kernel
theorem dX10_readPart_90 : decode cX10_readPart 90 = .ok (.iconst 3, 1) := by decide +kernel
theorem dX10_readPart_91 : decode cX10_readPart 91 = .ok (.if_icmp .ne 38, 3) := by decide +kernel
theorem dX10_readPart_94 : decode cX10_readPart 94 = .ok (.aload_n 0, 1) := by decide +kernel
theorem dX10_readPart_95 : decode cX10_readPart 95 = .ok (.getfield 128, 3) := by decide +kernel
theorem dX10_readPart_98 : decode cX10_readPart 98 = .ok (.ldc 217, 2) := by decide +kernel
theorem dX10_readPart_100 : decode cX10_readPart 100 = .ok (.if_icmp .le 9, 3) := by decide +kernel
theorem dX10_readPart_103 : decode cX10_readPart 103 = .ok (.aload_n 0, 1) := by decide +kernel
theorem dX10_readPart_104 : decode cX10_readPart 104 = .ok (.iconst 4, 1) := by decide +kernel
theorem dX10_readPart_105 : decode cX10_readPart 105 = .ok (.invokevirtual 137, 3) := by decide +kernel
theorem dX10_readPart_108 : decode cX10_readPart 108 = .ok (.athrow, 1) := by decide +kernel
theorem dX10_readPart_109 : decode cX10_readPart 109 = .ok (.aload_n 0, 1) := by decide +kernel
theorem dX10_readPart_110 : decode cX10_readPart 110 = .ok (.getfield 29, 3) := by decide +kernel
theorem dX10_readPart_113 : decode cX10_readPart 113 = .ok (.bipush 10, 2) := by decide +kernel
theorem dX10_readPart_115 : decode cX10_readPart 115 = .ok (.aload_n 0, 1) := by decide +kernel
theorem dX10_readPart_116 : decode cX10_readPart 116 = .ok (.getfield 128, 3) := by decide +kernel
theorem dX10_readPart_119 : decode cX10_readPart 119 = .ok (.invokevirtual 213, 3) := by decide +kernel
theorem dX10_readPart_122 : decode cX10_readPart 122 = .ok (.aload_n 0, 1) := by decide +kernel
theorem dX10_readPart_123 : decode cX10_readPart 123 = .ok (.invokevirtual 140, 3) := by decide +kernel
theorem dX10_readPart_126 : decode cX10_readPart 126 = .ok (.goto 20, 3) := by decide +kernel
theorem dX10_readPart_129 : decode cX10_readPart 129 = .ok (.aload_n 0, 1) := by decide +kernel
theorem dX10_readPart_130 : decode cX10_readPart 130 = .ok (.getfield 29, 3) := by decide +kernel
theorem dX10_readPart_133 : decode cX10_readPart 133 = .ok (.bipush 9, 2) := by decide +kernel
theorem dX10_readPart_135 : decode cX10_readPart 135 = .ok (.aload_n 0, 1) := by decide +kernel
theorem dX10_readPart_136 : decode cX10_readPart 136 = .ok (.invokevirtual 188, 3) := by decide +kernel
theorem dX10_readPart_139 : decode cX10_readPart 139 = .ok (.invokevirtual 213, 3) := by decide +kernel
theorem dX10_readPart_142 : decode cX10_readPart 142 = .ok (.aload_n 0, 1) := by decide +kernel
theorem dX10_readPart_143 : decode cX10_readPart 143 = .ok (.invokevirtual 140, 3) := by decide +kernel
theorem dX10_readPart_146 : decode cX10_readPart 146 = .ok (.iconst 0, 1) := by decide +kernel
theorem dX10_readPart_147 : decode cX10_readPart 147 = .ok (.istore_n 2, 1) := by decide +kernel
theorem dX10_readPart_148 : decode cX10_readPart 148 = .ok (.iload_n 2, 1) := by decide +kernel
theorem dX10_readPart_149 : decode cX10_readPart 149 = .ok (.iload_n 1, 1) := by decide +kernel
theorem dX10_readPart_150 : decode cX10_readPart 150 = .ok (.if_icmp .ge 19, 3) := by decide +kernel
theorem dX10_readPart_153 : decode cX10_readPart 153 = .ok (.aload_n 0, 1) := by decide +kernel
theorem dX10_readPart_154 : decode cX10_readPart 154 = .ok (.getfield 29, 3) := by decide +kernel
theorem dX10_readPart_157 : decode cX10_readPart 157 = .ok (.bipush 7, 2) := by decide +kernel
theorem dX10_readPart_159 : decode cX10_readPart 159 = .ok (.iconst 0, 1) := by decide +kernel
theorem dX10_readPart_160 : decode cX10_readPart 160 = .ok (.invokevirtual 213, 3) := by decide +kernel
theorem dX10_readPart_163 : decode cX10_readPart 163 = .ok (.iinc 2 1, 3) := by decide +kernel
theorem dX10_readPart_166 : decode cX10_readPart 166 = .ok (.goto (-18), 3) := by decide +kernel
theorem dX10_readPart_169 : decode cX10_readPart 169 = .ok (.return_, 1) := by decide +kernel
theorem dX10_feed_0 : decode cX10_feed 0 = .ok (.aload_n 0, 1) := by decide +kernel
theorem dX10_feed_1 : decode cX10_feed 1 = .ok (.iconst 0, 1) := by decide +kernel
theorem dX10_feed_2 : decode cX10_feed 2 = .ok (.putfield 86, 3) := by decide +kernel
theorem dX10_feed_5 : decode cX10_feed 5 = .ok (.aload_n 0, 1) := by decide +kernel
theorem dX10_feed_6 : decode cX10_feed 6 = .ok (.getfield 218, 3) := by decide +kernel
theorem dX10_feed_9 : decode cX10_feed 9 = .ok (.bipush 20, 2) := by decide +kernel
theorem dX10_feed_11 : decode cX10_feed 11 = .ok (.iadd, 1) := by decide +kernel
theorem dX10_feed_12 : decode cX10_feed 12 = .ok (.sipush 600, 3) := by decide +kernel
theorem dX10_feed_15 : decode cX10_feed 15 = .ok (.if_icmp .le 5, 3) := by decide +kernel
theorem dX10_feed_18 : decode cX10_feed 18 = .ok (.iconst (-1), 1) := by decide +kernel
theorem dX10_feed_19 : decode cX10_feed 19 = .ok (.ireturn, 1) := by decide +kernel
theorem dX10_feed_20 : decode cX10_feed 20 = .ok (.iconst 0, 1) := by decide +kernel
theorem dX10_feed_21 : decode cX10_feed 21 = .ok (.istore 6, 2) := by decide +kernel
theorem dX10_feed_23 : decode cX10_feed 23 = .ok (.iload 6, 2) := by decide +kernel
theorem dX10_feed_25 : decode cX10_feed 25 = .ok (.bipush 20, 2) := by decide +kernel
theorem dX10_feed_27 : decode cX10_feed 27 = .ok (.if_icmp .ge 90, 3) := by decide +kernel
theorem dX10_feed_30 : decode cX10_feed 30 = .ok (.iload 6, 2) := by decide +kernel
theorem dX10_feed_32 : decode cX10_feed 32 = .ok (.iconst 4, 1) := by decide +kernel
theorem dX10_feed_33 : decode cX10_feed 33 = .ok (.if_icmp .ge 7, 3) := by decide +kernel
theorem dX10_feed_36 : decode cX10_feed 36 = .ok (.iload_n 1, 1) := by decide +kernel
theorem dX10_feed_37 : decode cX10_feed 37 = .ok (.goto 39, 3) := by decide +kernel
theorem dX10_feed_40 : decode cX10_feed 40 = .ok (.iload 6, 2) := by decide +kernel
theorem dX10_feed_42 : decode cX10_feed 42 = .ok (.bipush 8, 2) := by decide +kernel
theorem dX10_feed_44 : decode cX10_feed 44 = .ok (.if_icmp .ge 7, 3) := by decide +kernel
theorem dX10_feed_47 : decode cX10_feed 47 = .ok (.iload_n 2, 1) := by decide +kernel
theorem dX10_feed_48 : decode cX10_feed 48 = .ok (.goto 28, 3) := by decide +kernel
theorem dX10_feed_51 : decode cX10_feed 51 = .ok (.iload 6, 2) := by decide +kernel
theorem dX10_feed_53 : decode cX10_feed 53 = .ok (.bipush 12, 2) := by decide +kernel
theorem dX10_feed_55 : decode cX10_feed 55 = .ok (.if_icmp .ge 7, 3) := by decide +kernel
theorem dX10_feed_58 : decode cX10_feed 58 = .ok (.iload_n 3, 1) := by decide +kernel
theorem dX10_feed_59 : decode cX10_feed 59 = .ok (.goto 17, 3) := by decide +kernel
theorem dX10_feed_62 : decode cX10_feed 62 = .ok (.iload 6, 2) := by decide +kernel
theorem dX10_feed_64 : decode cX10_feed 64 = .ok (.bipush 16, 2) := by decide +kernel
theorem dX10_feed_66 : decode cX10_feed 66 = .ok (.if_icmp .ge 8, 3) := by decide +kernel
theorem dX10_feed_69 : decode cX10_feed 69 = .ok (.iload 4, 2) := by decide +kernel
theorem dX10_feed_71 : decode cX10_feed 71 = .ok (.goto 5, 3) := by decide +kernel
theorem dX10_feed_74 : decode cX10_feed 74 = .ok (.iload 5, 2) := by decide +kernel
theorem dX10_feed_76 : decode cX10_feed 76 = .ok (.istore 7, 2) := by decide +kernel
theorem dX10_feed_78 : decode cX10_feed 78 = .ok (.aload_n 0, 1) := by decide +kernel
theorem dX10_feed_79 : decode cX10_feed 79 = .ok (.getfield 39, 3) := by decide +kernel
theorem dX10_feed_82 : decode cX10_feed 82 = .ok (.aload_n 0, 1) := by decide +kernel
theorem dX10_feed_83 : decode cX10_feed 83 = .ok (.getfield 218, 3) := by decide +kernel
theorem dX10_feed_86 : decode cX10_feed 86 = .ok (.iload 7, 2) := by decide +kernel
theorem dX10_feed_88 : decode cX10_feed 88 = .ok (.bipush 24, 2) := by decide +kernel
theorem dX10_feed_90 : decode cX10_feed 90 = .ok (.bipush 8, 2) := by decide +kernel
theorem dX10_feed_92 : decode cX10_feed 92 = .ok (.iload 6, 2) := by decide +kernel
theorem dX10_feed_94 : decode cX10_feed 94 = .ok (.iconst 4, 1) := by decide +kernel
theorem dX10_feed_95 : decode cX10_feed 95 = .ok (.irem, 1) := by decide +kernel
theorem dX10_feed_96 : decode cX10_feed 96 = .ok (.imul, 1) := by decide +kernel
theorem dX10_feed_97 : decode cX10_feed 97 = .ok (.isub, 1) := by decide +kernel
theorem dX10_feed_98 : decode cX10_feed 98 = .ok (.ishr, 1) := by decide +kernel
theorem dX10_feed_99 : decode cX10_feed 99 = .ok (.i2b, 1) := by decide +kernel
theorem dX10_feed_100 : decode cX10_feed 100 = .ok (.bastore, 1) := by decide +kernel
theorem dX10_feed_101 : decode cX10_feed 101 = .ok (.aload_n 0, 1) := by decide +kernel
theorem dX10_feed_102 : decode cX10_feed 102 = .ok (.dup, 1) := by decide +kernel
theorem dX10_feed_103 : decode cX10_feed 103 = .ok (.getfield 218, 3) := by decide +kernel
theorem dX10_feed_106 : decode cX10_feed 106 = .ok (.iconst 1, 1) := by decide +kernel
theorem dX10_feed_107 : decode cX10_feed 107 = .ok (.iadd, 1) := by decide +kernel
theorem dX10_feed_108 : decode cX10_feed 108 = .ok (.putfield 218, 3) := by decide +kernel
theorem dX10_feed_111 : decode cX10_feed 111 = .ok (.iinc 6 1, 3) := by decide +kernel
theorem dX10_feed_114 : decode cX10_feed 114 = .ok (.goto (-91), 3) := by decide +kernel
theorem dX10_feed_117 : decode cX10_feed 117 = .ok (.aload_n 0, 1) := by decide +kernel
theorem dX10_feed_118 : decode cX10_feed 118 = .ok (.getfield 218, 3) := by decide +kernel
theorem dX10_feed_121 : decode cX10_feed 121 = .ok (.ireturn, 1) := by decide +kernel
theorem dX10_program_0 : decode cX10_program 0 = .ok (.aload_n 0, 1) := by decide +kernel
theorem dX10_program_1 : decode cX10_program 1 = .ok (.iconst 0, 1) := by decide +kernel
theorem dX10_program_2 : decode cX10_program 2 = .ok (.putfield 86, 3) := by decide +kernel
theorem dX10_program_5 : decode cX10_program 5 = .ok (.iload_n 1, 1) := by decide +kernel
theorem dX10_program_6 : decode cX10_program 6 = .ok (.ifCond .lt 11, 3) := by decide +kernel
theorem dX10_program_9 : decode cX10_program 9 = .ok (.iload_n 1, 1) := by decide +kernel
theorem dX10_program_10 : decode cX10_program 10 = .ok (.aload_n 0, 1) := by decide +kernel
theorem dX10_program_11 : decode cX10_program 11 = .ok (.getfield 218, 3) := by decide +kernel
theorem dX10_program_14 : decode cX10_program 14 = .ok (.if_icmp .le 9, 3) := by decide +kernel
theorem dX10_program_17 : decode cX10_program 17 = .ok (.aload_n 0, 1) := by decide +kernel
theorem dX10_program_18 : decode cX10_program 18 = .ok (.iconst 2, 1) := by decide +kernel
theorem dX10_program_19 : decode cX10_program 19 = .ok (.invokevirtual 221, 3) := by decide +kernel
theorem dX10_program_22 : decode cX10_program 22 = .ok (.ireturn, 1) := by decide +kernel
theorem dX10_program_23 : decode cX10_program 23 = .ok (.aload_n 0, 1) := by decide +kernel
theorem dX10_program_24 : decode cX10_program 24 = .ok (.iload_n 1, 1) := by decide +kernel
theorem dX10_program_25 : decode cX10_program 25 = .ok (.putfield 99, 3) := by decide +kernel
theorem dX10_program_28 : decode cX10_program 28 = .ok (.aload_n 0, 1) := by decide +kernel
theorem dX10_program_29 : decode cX10_program 29 = .ok (.iconst 0, 1) := by decide +kernel
theorem dX10_program_30 : decode cX10_program 30 = .ok (.putfield 218, 3) := by decide +kernel
theorem dX10_program_33 : decode cX10_program 33 = .ok (.aload_n 0, 1) := by decide +kernel
theorem dX10_program_34 : decode cX10_program 34 = .ok (.iconst 0, 1) := by decide +kernel
theorem dX10_program_35 : decode cX10_program 35 = .ok (.putfield 106, 3) := by decide +kernel
theorem dX10_program_38 : decode cX10_program 38 = .ok (.aload_n 0, 1) := by decide +kernel
theorem dX10_program_39 : decode cX10_program 39 = .ok (.iconst 0, 1) := by decide +kernel
theorem dX10_program_40 : decode cX10_program 40 = .ok (.putfield 224, 3) := by decide +kernel
theorem dX10_program_43 : decode cX10_program 43 = .ok (.aload_n 0, 1) := by decide +kernel
theorem dX10_program_44 : decode cX10_program 44 = .ok (.invokevirtual 227, 3) := by decide +kernel
theorem dX10_program_47 : decode cX10_program 47 = .ok (.goto 27, 3) := by decide +kernel
theorem dX10_program_50 : decode cX10_program 50 = .ok (.astore_n 2, 1) := by decide +kernel
theorem dX10_program_51 : decode cX10_program 51 = .ok (.aload_n 0, 1) := by decide +kernel
theorem dX10_program_52 : decode cX10_program 52 = .ok (.aload_n 2, 1) := by decide +kernel
theorem dX10_program_53 : decode cX10_program 53 = .ok (.getfield 92, 3) := by decide +kernel
theorem dX10_program_56 : decode cX10_program 56 = .ok (.putfield 224, 3) := by decide +kernel
theorem dX10_program_59 : decode cX10_program 59 = .ok (.aload_n 0, 1) := by decide +kernel
theorem dX10_program_60 : decode cX10_program 60 = .ok (.iconst 3, 1) := by decide +kernel
theorem dX10_program_61 : decode cX10_program 61 = .ok (.putfield 89, 3) := by decide +kernel
theorem dX10_program_64 : decode cX10_program 64 = .ok (.aload_n 0, 1) := by decide +kernel
theorem dX10_program_65 : decode cX10_program 65 = .ok (.aload_n 2, 1) := by decide +kernel
theorem dX10_program_66 : decode cX10_program 66 = .ok (.getfield 98, 3) := by decide +kernel
theorem dX10_program_69 : decode cX10_program 69 = .ok (.putfield 9, 3) := by decide +kernel
theorem dX10_program_72 : decode cX10_program 72 = .ok (.iconst (-1), 1) := by decide +kernel
theorem dX10_program_73 : decode cX10_program 73 = .ok (.ireturn, 1) := by decide +kernel
theorem dX10_program_74 : decode cX10_program 74 = .ok (.aload_n 0, 1) := by decide +kernel
theorem dX10_program_75 : decode cX10_program 75 = .ok (.getfield 25, 3) := by decide +kernel
theorem dX10_program_78 : decode cX10_program 78 = .ok (.astore_n 2, 1) := by decide +kernel
theorem dX10_program_79 : decode cX10_program 79 = .ok (.aload_n 0, 1) := by decide +kernel
theorem dX10_program_80 : decode cX10_program 80 = .ok (.aload_n 0, 1) := by decide +kernel
theorem dX10_program_81 : decode cX10_program 81 = .ok (.getfield 29, 3) := by decide +kernel
theorem dX10_program_84 : decode cX10_program 84 = .ok (.putfield 25, 3) := by decide +kernel
theorem dX10_program_87 : decode cX10_program 87 = .ok (.aload_n 0, 1) := by decide +kernel
theorem dX10_program_88 : decode cX10_program 88 = .ok (.aload_n 2, 1) := by decide +kernel
theorem dX10_program_89 : decode cX10_program 89 = .ok (.putfield 29, 3) := by decide +kernel
theorem dX10_program_92 : decode cX10_program 92 = .ok (.aload_n 0, 1) := by decide +kernel
theorem dX10_program_93 : decode cX10_program 93 = .ok (.iconst 1, 1) := by decide +kernel
theorem dX10_program_94 : decode cX10_program 94 = .ok (.putfield 230, 3) := by decide +kernel
theorem dX10_program_97 : decode cX10_program 97 = .ok (.aload_n 0, 1) := by decide +kernel
theorem dX10_program_98 : decode cX10_program 98 = .ok (.aload_n 0, 1) := by decide +kernel
theorem dX10_program_99 : decode cX10_program 99 = .ok (.getfield 25, 3) := by decide +kernel
theorem dX10_program_102 : decode cX10_program 102 = .ok (.getfield 146, 3) := by decide +kernel
theorem dX10_program_105 : decode cX10_program 105 = .ok (.invokevirtual 233, 3) := by decide +kernel
theorem dX10_program_108 : decode cX10_program 108 = .ok (.ireturn, 1) := by decide +kernel
theorem dX10_fault_0 : decode cX10_fault 0 = .ok (.aload_n 0, 1) := by decide +kernel
theorem dX10_fault_1 : decode cX10_fault 1 = .ok (.iconst 0, 1) := by decide +kernel
theorem dX10_fault_2 : decode cX10_fault 2 = .ok (.putfield 86, 3) := by decide +kernel
theorem dX10_fault_5 : decode cX10_fault 5 = .ok (.aload_n 0, 1) := by decide +kernel
theorem dX10_fault_6 : decode cX10_fault 6 = .ok (.getfield 224, 3) := by decide +kernel
theorem dX10_fault_9 : decode cX10_fault 9 = .ok (.ireturn, 1) := by decide +kernel
theorem dX10_where_0 : decode cX10_where 0 = .ok (.aload_n 0, 1) := by decide +kernel
theorem dX10_where_1 : decode cX10_where 1 = .ok (.iconst 0, 1) := by decide +kernel
theorem dX10_where_2 : decode cX10_where 2 = .ok (.putfield 86, 3) := by decide +kernel
theorem dX10_where_5 : decode cX10_where 5 = .ok (.aload_n 0, 1) := by decide +kernel
theorem dX10_where_6 : decode cX10_where 6 = .ok (.getfield 9, 3) := by decide +kernel
theorem dX10_where_9 : decode cX10_where 9 = .ok (.ireturn, 1) := by decide +kernel
theorem dX10_low_0 : decode cX10_low 0 = .ok (.iload_n 1, 1) := by decide +kernel
theorem dX10_low_1 : decode cX10_low 1 = .ok (.iconst 1, 1) := by decide +kernel
theorem dX10_low_2 : decode cX10_low 2 = .ok (.aload_n 0, 1) := by decide +kernel
theorem dX10_low_3 : decode cX10_low 3 = .ok (.getfield 13, 3) := by decide +kernel
theorem dX10_low_6 : decode cX10_low 6 = .ok (.ishl, 1) := by decide +kernel
theorem dX10_low_7 : decode cX10_low 7 = .ok (.iconst 1, 1) := by decide +kernel
theorem dX10_low_8 : decode cX10_low 8 = .ok (.isub, 1) := by decide +kernel
theorem dX10_low_9 : decode cX10_low 9 = .ok (.iand, 1) := by decide +kernel
theorem dX10_low_10 : decode cX10_low 10 = .ok (.ireturn, 1) := by decide +kernel
theorem dX10_set_0 : decode cX10_set 0 = .ok (.aload_n 0, 1) := by decide +kernel
theorem dX10_set_1 : decode cX10_set 1 = .ok (.iconst 0, 1) := by decide +kernel
theorem dX10_set_2 : decode cX10_set 2 = .ok (.putfield 86, 3) := by decide +kernel
theorem dX10_set_5 : decode cX10_set 5 = .ok (.iload_n 1, 1) := by decide +kernel
theorem dX10_set_6 : decode cX10_set 6 = .ok (.iconst 4, 1) := by decide +kernel
theorem dX10_set_7 : decode cX10_set 7 = .ok (.bipush 16, 2) := by decide +kernel
theorem dX10_set_9 : decode cX10_set 9 = .ok (.invokestatic 167, 3) := by decide +kernel
theorem dX10_set_12 : decode cX10_set 12 = .ok (.ifCond .eq 24, 3) := by decide +kernel
theorem dX10_set_15 : decode cX10_set 15 = .ok (.iload_n 2, 1) := by decide +kernel
theorem dX10_set_16 : decode cX10_set 16 = .ok (.iconst 1, 1) := by decide +kernel
theorem dX10_set_17 : decode cX10_set 17 = .ok (.sipush 1000, 3) := by decide +kernel
theorem dX10_set_20 : decode cX10_set 20 = .ok (.invokestatic 167, 3) := by decide +kernel
theorem dX10_set_23 : decode cX10_set 23 = .ok (.ifCond .eq 13, 3) := by decide +kernel
theorem dX10_set_26 : decode cX10_set 26 = .ok (.iload_n 3, 1) := by decide +kernel
theorem dX10_set_27 : decode cX10_set 27 = .ok (.iconst 0, 1) := by decide +kernel
theorem dX10_set_28 : decode cX10_set 28 = .ok (.bipush 100, 2) := by decide +kernel
theorem dX10_set_30 : decode cX10_set 30 = .ok (.invokestatic 167, 3) := by decide +kernel
theorem dX10_set_33 : decode cX10_set 33 = .ok (.ifCond .ne 9, 3) := by decide +kernel
theorem dX10_set_36 : decode cX10_set 36 = .ok (.aload_n 0, 1) := by decide +kernel
theorem dX10_set_37 : decode cX10_set 37 = .ok (.iconst 2, 1) := by decide +kernel
theorem dX10_set_38 : decode cX10_set 38 = .ok (.invokevirtual 236, 3) := by decide +kernel
theorem dX10_set_41 : decode cX10_set 41 = .ok (.ireturn, 1) := by decide +kernel
theorem dX10_set_42 : decode cX10_set 42 = .ok (.aload_n 0, 1) := by decide +kernel
theorem dX10_set_43 : decode cX10_set 43 = .ok (.iload_n 1, 1) := by decide +kernel
theorem dX10_set_44 : decode cX10_set 44 = .ok (.putfield 13, 3) := by decide +kernel
theorem dX10_set_47 : decode cX10_set 47 = .ok (.aload_n 0, 1) := by decide +kernel
theorem dX10_set_48 : decode cX10_set 48 = .ok (.iload_n 2, 1) := by decide +kernel
theorem dX10_set_49 : decode cX10_set 49 = .ok (.putfield 16, 3) := by decide +kernel
theorem dX10_set_52 : decode cX10_set 52 = .ok (.aload_n 0, 1) := by decide +kernel
theorem dX10_set_53 : decode cX10_set 53 = .ok (.iload_n 3, 1) := by decide +kernel
theorem dX10_set_54 : decode cX10_set 54 = .ok (.putfield 19, 3) := by decide +kernel
theorem dX10_set_57 : decode cX10_set 57 = .ok (.iconst 0, 1) := by decide +kernel
theorem dX10_set_58 : decode cX10_set 58 = .ok (.istore 4, 2) := by decide +kernel
theorem dX10_set_60 : decode cX10_set 60 = .ok (.iload 4, 2) := by decide +kernel
theorem dX10_set_62 : decode cX10_set 62 = .ok (.bipush 8, 2) := by decide +kernel
theorem dX10_set_64 : decode cX10_set 64 = .ok (.if_icmp .ge 27, 3) := by decide +kernel
theorem dX10_set_67 : decode cX10_set 67 = .ok (.aload_n 0, 1) := by decide +kernel
theorem dX10_set_68 : decode cX10_set 68 = .ok (.getfield 43, 3) := by decide +kernel
theorem dX10_set_71 : decode cX10_set 71 = .ok (.iload 4, 2) := by decide +kernel
theorem dX10_set_73 : decode cX10_set 73 = .ok (.aload_n 0, 1) := by decide +kernel
theorem dX10_set_74 : decode cX10_set 74 = .ok (.aload_n 0, 1) := by decide +kernel
theorem dX10_set_75 : decode cX10_set 75 = .ok (.getfield 43, 3) := by decide +kernel
theorem dX10_set_78 : decode cX10_set 78 = .ok (.iload 4, 2) := by decide +kernel
theorem dX10_set_80 : decode cX10_set 80 = .ok (.iaload, 1) := by decide +kernel
theorem dX10_set_81 : decode cX10_set 81 = .ok (.invokevirtual 239, 3) := by decide +kernel
theorem dX10_set_84 : decode cX10_set 84 = .ok (.iastore, 1) := by decide +kernel
theorem dX10_set_85 : decode cX10_set 85 = .ok (.iinc 4 1, 3) := by decide +kernel
theorem dX10_set_88 : decode cX10_set 88 = .ok (.goto (-28), 3) := by decide +kernel
theorem dX10_set_91 : decode cX10_set 91 = .ok (.aload_n 0, 1) := by decide +kernel
theorem dX10_set_92 : decode cX10_set 92 = .ok (.invokevirtual 242, 3) := by decide +kernel
theorem dX10_set_95 : decode cX10_set 95 = .ok (.ireturn, 1) := by decide +kernel
theorem dX10_put_0 : decode cX10_put 0 = .ok (.aload_n 0, 1) := by decide +kernel
theorem dX10_put_1 : decode cX10_put 1 = .ok (.iconst 0, 1) := by decide +kernel
theorem dX10_put_2 : decode cX10_put 2 = .ok (.putfield 86, 3) := by decide +kernel
theorem dX10_put_5 : decode cX10_put 5 = .ok (.iload_n 1, 1) := by decide +kernel
theorem dX10_put_6 : decode cX10_put 6 = .ok (.iconst 0, 1) := by decide +kernel
theorem dX10_put_7 : decode cX10_put 7 = .ok (.bipush 7, 2) := by decide +kernel
theorem dX10_put_9 : decode cX10_put 9 = .ok (.invokestatic 167, 3) := by decide +kernel
theorem dX10_put_12 : decode cX10_put 12 = .ok (.ifCond .ne 9, 3) := by decide +kernel
theorem dX10_put_15 : decode cX10_put 15 = .ok (.aload_n 0, 1) := by decide +kernel
theorem dX10_put_16 : decode cX10_put 16 = .ok (.iconst 1, 1) := by decide +kernel
theorem dX10_put_17 : decode cX10_put 17 = .ok (.invokevirtual 236, 3) := by decide +kernel
theorem dX10_put_20 : decode cX10_put 20 = .ok (.ireturn, 1) := by decide +kernel
theorem dX10_put_21 : decode cX10_put 21 = .ok (.aload_n 0, 1) := by decide +kernel
theorem dX10_put_22 : decode cX10_put 22 = .ok (.getfield 43, 3) := by decide +kernel
theorem dX10_put_25 : decode cX10_put 25 = .ok (.iload_n 1, 1) := by decide +kernel
theorem dX10_put_26 : decode cX10_put 26 = .ok (.aload_n 0, 1) := by decide +kernel
theorem dX10_put_27 : decode cX10_put 27 = .ok (.iload_n 2, 1) := by decide +kernel
theorem dX10_put_28 : decode cX10_put 28 = .ok (.invokevirtual 239, 3) := by decide +kernel
theorem dX10_put_31 : decode cX10_put 31 = .ok (.iastore, 1) := by decide +kernel
theorem dX10_put_32 : decode cX10_put 32 = .ok (.aload_n 0, 1) := by decide +kernel
theorem dX10_put_33 : decode cX10_put 33 = .ok (.invokevirtual 242, 3) := by decide +kernel
theorem dX10_put_36 : decode cX10_put 36 = .ok (.ireturn, 1) := by decide +kernel
theorem dX10_get_0 : decode cX10_get 0 = .ok (.aload_n 0, 1) := by decide +kernel
theorem dX10_get_1 : decode cX10_get 1 = .ok (.iconst 0, 1) := by decide +kernel
theorem dX10_get_2 : decode cX10_get 2 = .ok (.putfield 86, 3) := by decide +kernel
theorem dX10_get_5 : decode cX10_get 5 = .ok (.iload_n 1, 1) := by decide +kernel
theorem dX10_get_6 : decode cX10_get 6 = .ok (.iconst 0, 1) := by decide +kernel
theorem dX10_get_7 : decode cX10_get 7 = .ok (.bipush 7, 2) := by decide +kernel
theorem dX10_get_9 : decode cX10_get 9 = .ok (.invokestatic 167, 3) := by decide +kernel
theorem dX10_get_12 : decode cX10_get 12 = .ok (.ifCond .eq 12, 3) := by decide +kernel
theorem dX10_get_15 : decode cX10_get 15 = .ok (.aload_n 0, 1) := by decide +kernel
theorem dX10_get_16 : decode cX10_get 16 = .ok (.getfield 43, 3) := by decide +kernel
theorem dX10_get_19 : decode cX10_get 19 = .ok (.iload_n 1, 1) := by decide +kernel
theorem dX10_get_20 : decode cX10_get 20 = .ok (.iaload, 1) := by decide +kernel
theorem dX10_get_21 : decode cX10_get 21 = .ok (.goto 4, 3) := by decide +kernel
theorem dX10_get_24 : decode cX10_get 24 = .ok (.iconst (-1), 1) := by decide +kernel
theorem dX10_get_25 : decode cX10_get 25 = .ok (.ireturn, 1) := by decide +kernel
theorem dX10_gatesOf_0 : decode cX10_gatesOf 0 = .ok (.iload_n 1, 1) := by decide +kernel
theorem dX10_gatesOf_1 : decode cX10_gatesOf 1 = .ok (.tableswitch 86 0 8 #[51, 58, 66, 86, 86, 86, 58, 86, 79], 51) := by decide +kernel
theorem dX10_gatesOf_52 : decode cX10_gatesOf 52 = .ok (.iconst 5, 1) := by decide +kernel
theorem dX10_gatesOf_53 : decode cX10_gatesOf 53 = .ok (.aload_n 0, 1) := by decide +kernel
theorem dX10_gatesOf_54 : decode cX10_gatesOf 54 = .ok (.getfield 13, 3) := by decide +kernel
theorem dX10_gatesOf_57 : decode cX10_gatesOf 57 = .ok (.imul, 1) := by decide +kernel
theorem dX10_gatesOf_58 : decode cX10_gatesOf 58 = .ok (.ireturn, 1) := by decide +kernel
theorem dX10_gatesOf_59 : decode cX10_gatesOf 59 = .ok (.bipush 6, 2) := by decide +kernel
theorem dX10_gatesOf_61 : decode cX10_gatesOf 61 = .ok (.aload_n 0, 1) := by decide +kernel
theorem dX10_gatesOf_62 : decode cX10_gatesOf 62 = .ok (.getfield 13, 3) := by decide +kernel
theorem dX10_gatesOf_65 : decode cX10_gatesOf 65 = .ok (.imul, 1) := by decide +kernel
theorem dX10_gatesOf_66 : decode cX10_gatesOf 66 = .ok (.ireturn, 1) := by decide +kernel
theorem dX10_gatesOf_67 : decode cX10_gatesOf 67 = .ok (.bipush 6, 2) := by decide +kernel
theorem dX10_gatesOf_69 : decode cX10_gatesOf 69 = .ok (.aload_n 0, 1) := by decide +kernel
theorem dX10_gatesOf_70 : decode cX10_gatesOf 70 = .ok (.getfield 13, 3) := by decide +kernel
theorem dX10_gatesOf_73 : decode cX10_gatesOf 73 = .ok (.imul, 1) := by decide +kernel
theorem dX10_gatesOf_74 : decode cX10_gatesOf 74 = .ok (.aload_n 0, 1) := by decide +kernel
theorem dX10_gatesOf_75 : decode cX10_gatesOf 75 = .ok (.getfield 13, 3) := by decide +kernel
theorem dX10_gatesOf_78 : decode cX10_gatesOf 78 = .ok (.imul, 1) := by decide +kernel
theorem dX10_gatesOf_79 : decode cX10_gatesOf 79 = .ok (.ireturn, 1) := by decide +kernel
theorem dX10_gatesOf_80 : decode cX10_gatesOf 80 = .ok (.iconst 4, 1) := by decide +kernel
theorem dX10_gatesOf_81 : decode cX10_gatesOf 81 = .ok (.aload_n 0, 1) := by decide +kernel
theorem dX10_gatesOf_82 : decode cX10_gatesOf 82 = .ok (.getfield 13, 3) := by decide +kernel
theorem dX10_gatesOf_85 : decode cX10_gatesOf 85 = .ok (.imul, 1) := by decide +kernel
theorem dX10_gatesOf_86 : decode cX10_gatesOf 86 = .ok (.ireturn, 1) := by decide +kernel
theorem dX10_gatesOf_87 : decode cX10_gatesOf 87 = .ok (.aload_n 0, 1) := by decide +kernel
theorem dX10_gatesOf_88 : decode cX10_gatesOf 88 = .ok (.getfield 13, 3) := by decide +kernel
theorem dX10_gatesOf_91 : decode cX10_gatesOf 91 = .ok (.ireturn, 1) := by decide +kernel
theorem dX10_depthOf_0 : decode cX10_depthOf 0 = .ok (.iload_n 1, 1) := by decide +kernel
theorem dX10_depthOf_1 : decode cX10_depthOf 1 = .ok (.tableswitch 85 0 8 #[51, 58, 67, 85, 85, 85, 74, 85, 83], 51) := by decide +kernel
theorem dX10_depthOf_52 : decode cX10_depthOf 52 = .ok (.iconst 2, 1) := by decide +kernel
theorem dX10_depthOf_53 : decode cX10_depthOf 53 = .ok (.aload_n 0, 1) := by decide +kernel
theorem dX10_depthOf_54 : decode cX10_depthOf 54 = .ok (.getfield 13, 3) := by decide +kernel
theorem dX10_depthOf_57 : decode cX10_depthOf 57 = .ok (.imul, 1) := by decide +kernel
theorem dX10_depthOf_58 : decode cX10_depthOf 58 = .ok (.ireturn, 1) := by decide +kernel
theorem dX10_depthOf_59 : decode cX10_depthOf 59 = .ok (.iconst 2, 1) := by decide +kernel
theorem dX10_depthOf_60 : decode cX10_depthOf 60 = .ok (.aload_n 0, 1) := by decide +kernel
theorem dX10_depthOf_61 : decode cX10_depthOf 61 = .ok (.getfield 13, 3) := by decide +kernel
theorem dX10_depthOf_64 : decode cX10_depthOf 64 = .ok (.imul, 1) := by decide +kernel
theorem dX10_depthOf_65 : decode cX10_depthOf 65 = .ok (.iconst 1, 1) := by decide +kernel
theorem dX10_depthOf_66 : decode cX10_depthOf 66 = .ok (.iadd, 1) := by decide +kernel
theorem dX10_depthOf_67 : decode cX10_depthOf 67 = .ok (.ireturn, 1) := by decide +kernel
theorem dX10_depthOf_68 : decode cX10_depthOf 68 = .ok (.iconst 4, 1) := by decide +kernel
theorem dX10_depthOf_69 : decode cX10_depthOf 69 = .ok (.aload_n 0, 1) := by decide +kernel
theorem dX10_depthOf_70 : decode cX10_depthOf 70 = .ok (.getfield 13, 3) := by decide +kernel
theorem dX10_depthOf_73 : decode cX10_depthOf 73 = .ok (.imul, 1) := by decide +kernel
theorem dX10_depthOf_74 : decode cX10_depthOf 74 = .ok (.ireturn, 1) := by decide +kernel
theorem dX10_depthOf_75 : decode cX10_depthOf 75 = .ok (.iconst 2, 1) := by decide +kernel
theorem dX10_depthOf_76 : decode cX10_depthOf 76 = .ok (.aload_n 0, 1) := by decide +kernel
theorem dX10_depthOf_77 : decode cX10_depthOf 77 = .ok (.getfield 13, 3) := by decide +kernel
theorem dX10_depthOf_80 : decode cX10_depthOf 80 = .ok (.imul, 1) := by decide +kernel
theorem dX10_depthOf_81 : decode cX10_depthOf 81 = .ok (.iconst 2, 1) := by decide +kernel
theorem dX10_depthOf_82 : decode cX10_depthOf 82 = .ok (.iadd, 1) := by decide +kernel
theorem dX10_depthOf_83 : decode cX10_depthOf 83 = .ok (.ireturn, 1) := by decide +kernel
theorem dX10_depthOf_84 : decode cX10_depthOf 84 = .ok (.iconst 5, 1) := by decide +kernel
theorem dX10_depthOf_85 : decode cX10_depthOf 85 = .ok (.ireturn, 1) := by decide +kernel
theorem dX10_depthOf_86 : decode cX10_depthOf 86 = .ok (.iconst 1, 1) := by decide +kernel
theorem dX10_depthOf_87 : decode cX10_depthOf 87 = .ok (.ireturn, 1) := by decide +kernel
theorem dX10_isBlock_0 : decode cX10_isBlock 0 = .ok (.aload_n 0, 1) := by decide +kernel
theorem dX10_isBlock_1 : decode cX10_isBlock 1 = .ok (.getfield 230, 3) := by decide +kernel
theorem dX10_isBlock_4 : decode cX10_isBlock 4 = .ok (.ifCond .eq 22, 3) := by decide +kernel
theorem dX10_isBlock_7 : decode cX10_isBlock 7 = .ok (.iload_n 1, 1) := by decide +kernel
theorem dX10_isBlock_8 : decode cX10_isBlock 8 = .ok (.ifCond .lt 18, 3) := by decide +kernel
theorem dX10_isBlock_11 : decode cX10_isBlock 11 = .ok (.iload_n 1, 1) := by decide +kernel
theorem dX10_isBlock_12 : decode cX10_isBlock 12 = .ok (.aload_n 0, 1) := by decide +kernel
theorem dX10_isBlock_13 : decode cX10_isBlock 13 = .ok (.getfield 25, 3) := by decide +kernel
theorem dX10_isBlock_16 : decode cX10_isBlock 16 = .ok (.getfield 146, 3) := by decide +kernel
theorem dX10_isBlock_19 : decode cX10_isBlock 19 = .ok (.if_icmp .ge 7, 3) := by decide +kernel
theorem dX10_isBlock_22 : decode cX10_isBlock 22 = .ok (.iconst 1, 1) := by decide +kernel
theorem dX10_isBlock_23 : decode cX10_isBlock 23 = .ok (.goto 4, 3) := by decide +kernel
theorem dX10_isBlock_26 : decode cX10_isBlock 26 = .ok (.iconst 0, 1) := by decide +kernel
theorem dX10_isBlock_27 : decode cX10_isBlock 27 = .ok (.ireturn, 1) := by decide +kernel
theorem dX10_opsOf_0 : decode cX10_opsOf 0 = .ok (.iconst 0, 1) := by decide +kernel
theorem dX10_opsOf_1 : decode cX10_opsOf 1 = .ok (.istore_n 2, 1) := by decide +kernel
theorem dX10_opsOf_2 : decode cX10_opsOf 2 = .ok (.bipush 8, 2) := by decide +kernel
theorem dX10_opsOf_4 : decode cX10_opsOf 4 = .ok (.iload_n 1, 1) := by decide +kernel
theorem dX10_opsOf_5 : decode cX10_opsOf 5 = .ok (.imul, 1) := by decide +kernel
theorem dX10_opsOf_6 : decode cX10_opsOf 6 = .ok (.istore_n 3, 1) := by decide +kernel
theorem dX10_opsOf_7 : decode cX10_opsOf 7 = .ok (.iload_n 3, 1) := by decide +kernel
theorem dX10_opsOf_8 : decode cX10_opsOf 8 = .ok (.bipush 8, 2) := by decide +kernel
theorem dX10_opsOf_10 : decode cX10_opsOf 10 = .ok (.iload_n 1, 1) := by decide +kernel
theorem dX10_opsOf_11 : decode cX10_opsOf 11 = .ok (.imul, 1) := by decide +kernel
theorem dX10_opsOf_12 : decode cX10_opsOf 12 = .ok (.aload_n 0, 1) := by decide +kernel
theorem dX10_opsOf_13 : decode cX10_opsOf 13 = .ok (.getfield 25, 3) := by decide +kernel
theorem dX10_opsOf_16 : decode cX10_opsOf 16 = .ok (.getfield 174, 3) := by decide +kernel
theorem dX10_opsOf_19 : decode cX10_opsOf 19 = .ok (.iload_n 1, 1) := by decide +kernel
theorem dX10_opsOf_20 : decode cX10_opsOf 20 = .ok (.iaload, 1) := by decide +kernel
theorem dX10_opsOf_21 : decode cX10_opsOf 21 = .ok (.iadd, 1) := by decide +kernel
theorem dX10_opsOf_22 : decode cX10_opsOf 22 = .ok (.if_icmp .ge 84, 3) := by decide +kernel
theorem dX10_opsOf_25 : decode cX10_opsOf 25 = .ok (.iload_n 2, 1) := by decide +kernel
theorem dX10_opsOf_26 : decode cX10_opsOf 26 = .ok (.aload_n 0, 1) := by decide +kernel
theorem dX10_opsOf_27 : decode cX10_opsOf 27 = .ok (.getfield 25, 3) := by decide +kernel
theorem dX10_opsOf_30 : decode cX10_opsOf 30 = .ok (.getfield 192, 3) := by decide +kernel
theorem dX10_opsOf_33 : decode cX10_opsOf 33 = .ok (.iload_n 3, 1) := by decide +kernel
theorem dX10_opsOf_34 : decode cX10_opsOf 34 = .ok (.iaload, 1) := by decide +kernel
theorem dX10_opsOf_35 : decode cX10_opsOf 35 = .ok (.iconst (-1), 1) := by decide +kernel
theorem dX10_opsOf_36 : decode cX10_opsOf 36 = .ok (.if_icmp .ne 7, 3) := by decide +kernel
theorem dX10_opsOf_39 : decode cX10_opsOf 39 = .ok (.iconst 0, 1) := by decide +kernel
theorem dX10_opsOf_40 : decode cX10_opsOf 40 = .ok (.goto 4, 3) := by decide +kernel
theorem dX10_opsOf_43 : decode cX10_opsOf 43 = .ok (.iconst 1, 1) := by decide +kernel
theorem dX10_opsOf_44 : decode cX10_opsOf 44 = .ok (.iadd, 1) := by decide +kernel
theorem dX10_opsOf_45 : decode cX10_opsOf 45 = .ok (.istore_n 2, 1) := by decide +kernel
theorem dX10_opsOf_46 : decode cX10_opsOf 46 = .ok (.aload_n 0, 1) := by decide +kernel
theorem dX10_opsOf_47 : decode cX10_opsOf 47 = .ok (.getfield 25, 3) := by decide +kernel
theorem dX10_opsOf_50 : decode cX10_opsOf 50 = .ok (.getfield 201, 3) := by decide +kernel
theorem dX10_opsOf_53 : decode cX10_opsOf 53 = .ok (.iload_n 3, 1) := by decide +kernel
theorem dX10_opsOf_54 : decode cX10_opsOf 54 = .ok (.iaload, 1) := by decide +kernel
theorem dX10_opsOf_55 : decode cX10_opsOf 55 = .ok (.istore 4, 2) := by decide +kernel
theorem dX10_opsOf_57 : decode cX10_opsOf 57 = .ok (.iload 4, 2) := by decide +kernel
theorem dX10_opsOf_59 : decode cX10_opsOf 59 = .ok (.aload_n 0, 1) := by decide +kernel
theorem dX10_opsOf_60 : decode cX10_opsOf 60 = .ok (.getfield 25, 3) := by decide +kernel
theorem dX10_opsOf_63 : decode cX10_opsOf 63 = .ok (.getfield 207, 3) := by decide +kernel
theorem dX10_opsOf_66 : decode cX10_opsOf 66 = .ok (.iload_n 3, 1) := by decide +kernel
theorem dX10_opsOf_67 : decode cX10_opsOf 67 = .ok (.iaload, 1) := by decide +kernel
theorem dX10_opsOf_68 : decode cX10_opsOf 68 = .ok (.if_icmp .ge 32, 3) := by decide +kernel
theorem dX10_opsOf_71 : decode cX10_opsOf 71 = .ok (.iload_n 2, 1) := by decide +kernel
theorem dX10_opsOf_72 : decode cX10_opsOf 72 = .ok (.aload_n 0, 1) := by decide +kernel
theorem dX10_opsOf_73 : decode cX10_opsOf 73 = .ok (.getfield 25, 3) := by decide +kernel
theorem dX10_opsOf_76 : decode cX10_opsOf 76 = .ok (.getfield 245, 3) := by decide +kernel
theorem dX10_opsOf_79 : decode cX10_opsOf 79 = .ok (.iload 4, 2) := by decide +kernel
theorem dX10_opsOf_81 : decode cX10_opsOf 81 = .ok (.iaload, 1) := by decide +kernel
theorem dX10_opsOf_82 : decode cX10_opsOf 82 = .ok (.bipush 9, 2) := by decide +kernel
theorem dX10_opsOf_84 : decode cX10_opsOf 84 = .ok (.if_icmp .ge 7, 3) := by decide +kernel
theorem dX10_opsOf_87 : decode cX10_opsOf 87 = .ok (.iconst 1, 1) := by decide +kernel
theorem dX10_opsOf_88 : decode cX10_opsOf 88 = .ok (.goto 4, 3) := by decide +kernel
theorem dX10_opsOf_91 : decode cX10_opsOf 91 = .ok (.iconst 0, 1) := by decide +kernel
theorem dX10_opsOf_92 : decode cX10_opsOf 92 = .ok (.iadd, 1) := by decide +kernel
theorem dX10_opsOf_93 : decode cX10_opsOf 93 = .ok (.istore_n 2, 1) := by decide +kernel
theorem dX10_opsOf_94 : decode cX10_opsOf 94 = .ok (.iinc 4 1, 3) := by decide +kernel
theorem dX10_opsOf_97 : decode cX10_opsOf 97 = .ok (.goto (-40), 3) := by decide +kernel
theorem dX10_opsOf_100 : decode cX10_opsOf 100 = .ok (.iinc 3 1, 3) := by decide +kernel
theorem dX10_opsOf_103 : decode cX10_opsOf 103 = .ok (.goto (-96), 3) := by decide +kernel
theorem dX10_opsOf_106 : decode cX10_opsOf 106 = .ok (.iload_n 2, 1) := by decide +kernel
theorem dX10_opsOf_107 : decode cX10_opsOf 107 = .ok (.ireturn, 1) := by decide +kernel
theorem dX10_codeTicks_0 : decode cX10_codeTicks 0 = .ok (.iconst 0, 1) := by decide +kernel
theorem dX10_codeTicks_1 : decode cX10_codeTicks 1 = .ok (.istore_n 2, 1) := by decide +kernel
theorem dX10_codeTicks_2 : decode cX10_codeTicks 2 = .ok (.bipush 8, 2) := by decide +kernel
theorem dX10_codeTicks_4 : decode cX10_codeTicks 4 = .ok (.iload_n 1, 1) := by decide +kernel
theorem dX10_codeTicks_5 : decode cX10_codeTicks 5 = .ok (.imul, 1) := by decide +kernel
theorem dX10_codeTicks_6 : decode cX10_codeTicks 6 = .ok (.istore_n 3, 1) := by decide +kernel
theorem dX10_codeTicks_7 : decode cX10_codeTicks 7 = .ok (.iload_n 3, 1) := by decide +kernel
theorem dX10_codeTicks_8 : decode cX10_codeTicks 8 = .ok (.bipush 8, 2) := by decide +kernel
theorem dX10_codeTicks_10 : decode cX10_codeTicks 10 = .ok (.iload_n 1, 1) := by decide +kernel
theorem dX10_codeTicks_11 : decode cX10_codeTicks 11 = .ok (.imul, 1) := by decide +kernel
theorem dX10_codeTicks_12 : decode cX10_codeTicks 12 = .ok (.aload_n 0, 1) := by decide +kernel
theorem dX10_codeTicks_13 : decode cX10_codeTicks 13 = .ok (.getfield 25, 3) := by decide +kernel
theorem dX10_codeTicks_16 : decode cX10_codeTicks 16 = .ok (.getfield 174, 3) := by decide +kernel
theorem dX10_codeTicks_19 : decode cX10_codeTicks 19 = .ok (.iload_n 1, 1) := by decide +kernel
theorem dX10_codeTicks_20 : decode cX10_codeTicks 20 = .ok (.iaload, 1) := by decide +kernel
theorem dX10_codeTicks_21 : decode cX10_codeTicks 21 = .ok (.iadd, 1) := by decide +kernel
theorem dX10_codeTicks_22 : decode cX10_codeTicks 22 = .ok (.if_icmp .ge 105, 3) := by decide +kernel
theorem dX10_codeTicks_25 : decode cX10_codeTicks 25 = .ok (.iload_n 2, 1) := by decide +kernel
theorem dX10_codeTicks_26 : decode cX10_codeTicks 26 = .ok (.aload_n 0, 1) := by decide +kernel
theorem dX10_codeTicks_27 : decode cX10_codeTicks 27 = .ok (.getfield 25, 3) := by decide +kernel
theorem dX10_codeTicks_30 : decode cX10_codeTicks 30 = .ok (.getfield 192, 3) := by decide +kernel
theorem dX10_codeTicks_33 : decode cX10_codeTicks 33 = .ok (.iload_n 3, 1) := by decide +kernel
theorem dX10_codeTicks_34 : decode cX10_codeTicks 34 = .ok (.iaload, 1) := by decide +kernel
theorem dX10_codeTicks_35 : decode cX10_codeTicks 35 = .ok (.iconst (-1), 1) := by decide +kernel
theorem dX10_codeTicks_36 : decode cX10_codeTicks 36 = .ok (.if_icmp .ne 7, 3) := by decide +kernel
theorem dX10_codeTicks_39 : decode cX10_codeTicks 39 = .ok (.iconst 1, 1) := by decide +kernel
theorem dX10_codeTicks_40 : decode cX10_codeTicks 40 = .ok (.goto 4, 3) := by decide +kernel
theorem dX10_codeTicks_43 : decode cX10_codeTicks 43 = .ok (.iconst 2, 1) := by decide +kernel
theorem dX10_codeTicks_44 : decode cX10_codeTicks 44 = .ok (.iadd, 1) := by decide +kernel
theorem dX10_codeTicks_45 : decode cX10_codeTicks 45 = .ok (.istore_n 2, 1) := by decide +kernel
theorem dX10_codeTicks_46 : decode cX10_codeTicks 46 = .ok (.aload_n 0, 1) := by decide +kernel
theorem dX10_codeTicks_47 : decode cX10_codeTicks 47 = .ok (.getfield 25, 3) := by decide +kernel
theorem dX10_codeTicks_50 : decode cX10_codeTicks 50 = .ok (.getfield 201, 3) := by decide +kernel
theorem dX10_codeTicks_53 : decode cX10_codeTicks 53 = .ok (.iload_n 3, 1) := by decide +kernel
theorem dX10_codeTicks_54 : decode cX10_codeTicks 54 = .ok (.iaload, 1) := by decide +kernel
theorem dX10_codeTicks_55 : decode cX10_codeTicks 55 = .ok (.istore 4, 2) := by decide +kernel
theorem dX10_codeTicks_57 : decode cX10_codeTicks 57 = .ok (.iload 4, 2) := by decide +kernel
theorem dX10_codeTicks_59 : decode cX10_codeTicks 59 = .ok (.aload_n 0, 1) := by decide +kernel
theorem dX10_codeTicks_60 : decode cX10_codeTicks 60 = .ok (.getfield 25, 3) := by decide +kernel
theorem dX10_codeTicks_63 : decode cX10_codeTicks 63 = .ok (.getfield 207, 3) := by decide +kernel
theorem dX10_codeTicks_66 : decode cX10_codeTicks 66 = .ok (.iload_n 3, 1) := by decide +kernel
theorem dX10_codeTicks_67 : decode cX10_codeTicks 67 = .ok (.iaload, 1) := by decide +kernel
theorem dX10_codeTicks_68 : decode cX10_codeTicks 68 = .ok (.if_icmp .ge 53, 3) := by decide +kernel
theorem dX10_codeTicks_71 : decode cX10_codeTicks 71 = .ok (.iload_n 2, 1) := by decide +kernel
theorem dX10_codeTicks_72 : decode cX10_codeTicks 72 = .ok (.aload_n 0, 1) := by decide +kernel
theorem dX10_codeTicks_73 : decode cX10_codeTicks 73 = .ok (.getfield 25, 3) := by decide +kernel
theorem dX10_codeTicks_76 : decode cX10_codeTicks 76 = .ok (.getfield 245, 3) := by decide +kernel
theorem dX10_codeTicks_79 : decode cX10_codeTicks 79 = .ok (.iload 4, 2) := by decide +kernel
theorem dX10_codeTicks_81 : decode cX10_codeTicks 81 = .ok (.iaload, 1) := by decide +kernel
theorem dX10_codeTicks_82 : decode cX10_codeTicks 82 = .ok (.iconst 2, 1) := by decide +kernel
theorem dX10_codeTicks_83 : decode cX10_codeTicks 83 = .ok (.if_icmp .ne 10, 3) := by decide +kernel
theorem dX10_codeTicks_86 : decode cX10_codeTicks 86 = .ok (.aload_n 0, 1) := by decide +kernel
theorem dX10_codeTicks_87 : decode cX10_codeTicks 87 = .ok (.getfield 13, 3) := by decide +kernel
theorem dX10_codeTicks_90 : decode cX10_codeTicks 90 = .ok (.goto 23, 3) := by decide +kernel
theorem dX10_codeTicks_93 : decode cX10_codeTicks 93 = .ok (.aload_n 0, 1) := by decide +kernel
theorem dX10_codeTicks_94 : decode cX10_codeTicks 94 = .ok (.getfield 25, 3) := by decide +kernel
theorem dX10_codeTicks_97 : decode cX10_codeTicks 97 = .ok (.getfield 245, 3) := by decide +kernel
theorem dX10_codeTicks_100 : decode cX10_codeTicks 100 = .ok (.iload 4, 2) := by decide +kernel
theorem dX10_codeTicks_102 : decode cX10_codeTicks 102 = .ok (.iaload, 1) := by decide +kernel
theorem dX10_codeTicks_103 : decode cX10_codeTicks 103 = .ok (.bipush 9, 2) := by decide +kernel
theorem dX10_codeTicks_105 : decode cX10_codeTicks 105 = .ok (.if_icmp .ge 7, 3) := by decide +kernel
theorem dX10_codeTicks_108 : decode cX10_codeTicks 108 = .ok (.iconst 1, 1) := by decide +kernel
theorem dX10_codeTicks_109 : decode cX10_codeTicks 109 = .ok (.goto 4, 3) := by decide +kernel
theorem dX10_codeTicks_112 : decode cX10_codeTicks 112 = .ok (.iconst 0, 1) := by decide +kernel
theorem dX10_codeTicks_113 : decode cX10_codeTicks 113 = .ok (.iadd, 1) := by decide +kernel
theorem dX10_codeTicks_114 : decode cX10_codeTicks 114 = .ok (.istore_n 2, 1) := by decide +kernel
theorem dX10_codeTicks_115 : decode cX10_codeTicks 115 = .ok (.iinc 4 1, 3) := by decide +kernel
theorem dX10_codeTicks_118 : decode cX10_codeTicks 118 = .ok (.goto (-61), 3) := by decide +kernel
theorem dX10_codeTicks_121 : decode cX10_codeTicks 121 = .ok (.iinc 3 1, 3) := by decide +kernel
theorem dX10_codeTicks_124 : decode cX10_codeTicks 124 = .ok (.goto (-117), 3) := by decide +kernel
theorem dX10_codeTicks_127 : decode cX10_codeTicks 127 = .ok (.iload_n 2, 1) := by decide +kernel
theorem dX10_codeTicks_128 : decode cX10_codeTicks 128 = .ok (.aload_n 0, 1) := by decide +kernel
theorem dX10_codeTicks_129 : decode cX10_codeTicks 129 = .ok (.getfield 25, 3) := by decide +kernel
theorem dX10_codeTicks_132 : decode cX10_codeTicks 132 = .ok (.getfield 171, 3) := by decide +kernel
theorem dX10_codeTicks_135 : decode cX10_codeTicks 135 = .ok (.iload_n 1, 1) := by decide +kernel
theorem dX10_codeTicks_136 : decode cX10_codeTicks 136 = .ok (.iaload, 1) := by decide +kernel
theorem dX10_codeTicks_137 : decode cX10_codeTicks 137 = .ok (.imul, 1) := by decide +kernel
theorem dX10_codeTicks_138 : decode cX10_codeTicks 138 = .ok (.ireturn, 1) := by decide +kernel
theorem dX10_gatesFor_0 : decode cX10_gatesFor 0 = .ok (.iconst 0, 1) := by decide +kernel
theorem dX10_gatesFor_1 : decode cX10_gatesFor 1 = .ok (.istore_n 2, 1) := by decide +kernel
theorem dX10_gatesFor_2 : decode cX10_gatesFor 2 = .ok (.bipush 8, 2) := by decide +kernel
theorem dX10_gatesFor_4 : decode cX10_gatesFor 4 = .ok (.iload_n 1, 1) := by decide +kernel
theorem dX10_gatesFor_5 : decode cX10_gatesFor 5 = .ok (.imul, 1) := by decide +kernel
theorem dX10_gatesFor_6 : decode cX10_gatesFor 6 = .ok (.istore_n 3, 1) := by decide +kernel
theorem dX10_gatesFor_7 : decode cX10_gatesFor 7 = .ok (.iload_n 3, 1) := by decide +kernel
theorem dX10_gatesFor_8 : decode cX10_gatesFor 8 = .ok (.bipush 8, 2) := by decide +kernel
theorem dX10_gatesFor_10 : decode cX10_gatesFor 10 = .ok (.iload_n 1, 1) := by decide +kernel
theorem dX10_gatesFor_11 : decode cX10_gatesFor 11 = .ok (.imul, 1) := by decide +kernel
theorem dX10_gatesFor_12 : decode cX10_gatesFor 12 = .ok (.aload_n 0, 1) := by decide +kernel
theorem dX10_gatesFor_13 : decode cX10_gatesFor 13 = .ok (.getfield 25, 3) := by decide +kernel
theorem dX10_gatesFor_16 : decode cX10_gatesFor 16 = .ok (.getfield 174, 3) := by decide +kernel
theorem dX10_gatesFor_19 : decode cX10_gatesFor 19 = .ok (.iload_n 1, 1) := by decide +kernel
theorem dX10_gatesFor_20 : decode cX10_gatesFor 20 = .ok (.iaload, 1) := by decide +kernel
theorem dX10_gatesFor_21 : decode cX10_gatesFor 21 = .ok (.iadd, 1) := by decide +kernel
theorem dX10_gatesFor_22 : decode cX10_gatesFor 22 = .ok (.if_icmp .ge 102, 3) := by decide +kernel
theorem dX10_gatesFor_25 : decode cX10_gatesFor 25 = .ok (.iload_n 2, 1) := by decide +kernel
theorem dX10_gatesFor_26 : decode cX10_gatesFor 26 = .ok (.aload_n 0, 1) := by decide +kernel
theorem dX10_gatesFor_27 : decode cX10_gatesFor 27 = .ok (.getfield 25, 3) := by decide +kernel
theorem dX10_gatesFor_30 : decode cX10_gatesFor 30 = .ok (.getfield 192, 3) := by decide +kernel
theorem dX10_gatesFor_33 : decode cX10_gatesFor 33 = .ok (.iload_n 3, 1) := by decide +kernel
theorem dX10_gatesFor_34 : decode cX10_gatesFor 34 = .ok (.iaload, 1) := by decide +kernel
theorem dX10_gatesFor_35 : decode cX10_gatesFor 35 = .ok (.iconst (-1), 1) := by decide +kernel
theorem dX10_gatesFor_36 : decode cX10_gatesFor 36 = .ok (.if_icmp .ne 7, 3) := by decide +kernel
theorem dX10_gatesFor_39 : decode cX10_gatesFor 39 = .ok (.iconst 0, 1) := by decide +kernel
theorem dX10_gatesFor_40 : decode cX10_gatesFor 40 = .ok (.goto 9, 3) := by decide +kernel
theorem dX10_gatesFor_43 : decode cX10_gatesFor 43 = .ok (.aload_n 0, 1) := by decide +kernel
theorem dX10_gatesFor_44 : decode cX10_gatesFor 44 = .ok (.bipush 8, 2) := by decide +kernel
theorem dX10_gatesFor_46 : decode cX10_gatesFor 46 = .ok (.invokevirtual 248, 3) := by decide +kernel
theorem dX10_gatesFor_49 : decode cX10_gatesFor 49 = .ok (.iadd, 1) := by decide +kernel
theorem dX10_gatesFor_50 : decode cX10_gatesFor 50 = .ok (.istore_n 2, 1) := by decide +kernel
theorem dX10_gatesFor_51 : decode cX10_gatesFor 51 = .ok (.aload_n 0, 1) := by decide +kernel
theorem dX10_gatesFor_52 : decode cX10_gatesFor 52 = .ok (.getfield 25, 3) := by decide +kernel
theorem dX10_gatesFor_55 : decode cX10_gatesFor 55 = .ok (.getfield 201, 3) := by decide +kernel
theorem dX10_gatesFor_58 : decode cX10_gatesFor 58 = .ok (.iload_n 3, 1) := by decide +kernel
theorem dX10_gatesFor_59 : decode cX10_gatesFor 59 = .ok (.iaload, 1) := by decide +kernel
theorem dX10_gatesFor_60 : decode cX10_gatesFor 60 = .ok (.istore 4, 2) := by decide +kernel
theorem dX10_gatesFor_62 : decode cX10_gatesFor 62 = .ok (.iload 4, 2) := by decide +kernel
theorem dX10_gatesFor_64 : decode cX10_gatesFor 64 = .ok (.aload_n 0, 1) := by decide +kernel
theorem dX10_gatesFor_65 : decode cX10_gatesFor 65 = .ok (.getfield 25, 3) := by decide +kernel
theorem dX10_gatesFor_68 : decode cX10_gatesFor 68 = .ok (.getfield 207, 3) := by decide +kernel
theorem dX10_gatesFor_71 : decode cX10_gatesFor 71 = .ok (.iload_n 3, 1) := by decide +kernel
theorem dX10_gatesFor_72 : decode cX10_gatesFor 72 = .ok (.iaload, 1) := by decide +kernel
theorem dX10_gatesFor_73 : decode cX10_gatesFor 73 = .ok (.if_icmp .ge 45, 3) := by decide +kernel
theorem dX10_gatesFor_76 : decode cX10_gatesFor 76 = .ok (.iload_n 2, 1) := by decide +kernel
theorem dX10_gatesFor_77 : decode cX10_gatesFor 77 = .ok (.aload_n 0, 1) := by decide +kernel
theorem dX10_gatesFor_78 : decode cX10_gatesFor 78 = .ok (.getfield 25, 3) := by decide +kernel
theorem dX10_gatesFor_81 : decode cX10_gatesFor 81 = .ok (.getfield 245, 3) := by decide +kernel
theorem dX10_gatesFor_84 : decode cX10_gatesFor 84 = .ok (.iload 4, 2) := by decide +kernel
theorem dX10_gatesFor_86 : decode cX10_gatesFor 86 = .ok (.iaload, 1) := by decide +kernel
theorem dX10_gatesFor_87 : decode cX10_gatesFor 87 = .ok (.bipush 9, 2) := by decide +kernel
theorem dX10_gatesFor_89 : decode cX10_gatesFor 89 = .ok (.if_icmp .ge 20, 3) := by decide +kernel
theorem dX10_gatesFor_92 : decode cX10_gatesFor 92 = .ok (.aload_n 0, 1) := by decide +kernel
theorem dX10_gatesFor_93 : decode cX10_gatesFor 93 = .ok (.aload_n 0, 1) := by decide +kernel
theorem dX10_gatesFor_94 : decode cX10_gatesFor 94 = .ok (.getfield 25, 3) := by decide +kernel
theorem dX10_gatesFor_97 : decode cX10_gatesFor 97 = .ok (.getfield 245, 3) := by decide +kernel
theorem dX10_gatesFor_100 : decode cX10_gatesFor 100 = .ok (.iload 4, 2) := by decide +kernel
theorem dX10_gatesFor_102 : decode cX10_gatesFor 102 = .ok (.iaload, 1) := by decide +kernel
theorem dX10_gatesFor_103 : decode cX10_gatesFor 103 = .ok (.invokevirtual 248, 3) := by decide +kernel
theorem dX10_gatesFor_106 : decode cX10_gatesFor 106 = .ok (.goto 4, 3) := by decide +kernel
theorem dX10_gatesFor_109 : decode cX10_gatesFor 109 = .ok (.iconst 0, 1) := by decide +kernel
theorem dX10_gatesFor_110 : decode cX10_gatesFor 110 = .ok (.iadd, 1) := by decide +kernel
theorem dX10_gatesFor_111 : decode cX10_gatesFor 111 = .ok (.istore_n 2, 1) := by decide +kernel
theorem dX10_gatesFor_112 : decode cX10_gatesFor 112 = .ok (.iinc 4 1, 3) := by decide +kernel
theorem dX10_gatesFor_115 : decode cX10_gatesFor 115 = .ok (.goto (-53), 3) := by decide +kernel
theorem dX10_gatesFor_118 : decode cX10_gatesFor 118 = .ok (.iinc 3 1, 3) := by decide +kernel
theorem dX10_gatesFor_121 : decode cX10_gatesFor 121 = .ok (.goto (-114), 3) := by decide +kernel
theorem dX10_gatesFor_124 : decode cX10_gatesFor 124 = .ok (.iload_n 2, 1) := by decide +kernel
theorem dX10_gatesFor_125 : decode cX10_gatesFor 125 = .ok (.ireturn, 1) := by decide +kernel
theorem dX10_sumDepth_0 : decode cX10_sumDepth 0 = .ok (.iconst 0, 1) := by decide +kernel
theorem dX10_sumDepth_1 : decode cX10_sumDepth 1 = .ok (.istore_n 2, 1) := by decide +kernel
theorem dX10_sumDepth_2 : decode cX10_sumDepth 2 = .ok (.aload_n 0, 1) := by decide +kernel
theorem dX10_sumDepth_3 : decode cX10_sumDepth 3 = .ok (.getfield 25, 3) := by decide +kernel
theorem dX10_sumDepth_6 : decode cX10_sumDepth 6 = .ok (.getfield 201, 3) := by decide +kernel
theorem dX10_sumDepth_9 : decode cX10_sumDepth 9 = .ok (.iload_n 1, 1) := by decide +kernel
theorem dX10_sumDepth_10 : decode cX10_sumDepth 10 = .ok (.iaload, 1) := by decide +kernel
theorem dX10_sumDepth_11 : decode cX10_sumDepth 11 = .ok (.istore_n 3, 1) := by decide +kernel
theorem dX10_sumDepth_12 : decode cX10_sumDepth 12 = .ok (.iload_n 3, 1) := by decide +kernel
theorem dX10_sumDepth_13 : decode cX10_sumDepth 13 = .ok (.aload_n 0, 1) := by decide +kernel
theorem dX10_sumDepth_14 : decode cX10_sumDepth 14 = .ok (.getfield 25, 3) := by decide +kernel
theorem dX10_sumDepth_17 : decode cX10_sumDepth 17 = .ok (.getfield 207, 3) := by decide +kernel
theorem dX10_sumDepth_20 : decode cX10_sumDepth 20 = .ok (.iload_n 1, 1) := by decide +kernel
theorem dX10_sumDepth_21 : decode cX10_sumDepth 21 = .ok (.iaload, 1) := by decide +kernel
theorem dX10_sumDepth_22 : decode cX10_sumDepth 22 = .ok (.if_icmp .ge 133, 3) := by decide +kernel
theorem dX10_sumDepth_25 : decode cX10_sumDepth 25 = .ok (.aload_n 0, 1) := by decide +kernel
theorem dX10_sumDepth_26 : decode cX10_sumDepth 26 = .ok (.getfield 25, 3) := by decide +kernel
theorem dX10_sumDepth_29 : decode cX10_sumDepth 29 = .ok (.getfield 245, 3) := by decide +kernel
theorem dX10_sumDepth_32 : decode cX10_sumDepth 32 = .ok (.iload_n 3, 1) := by decide +kernel
theorem dX10_sumDepth_33 : decode cX10_sumDepth 33 = .ok (.iaload, 1) := by decide +kernel
theorem dX10_sumDepth_34 : decode cX10_sumDepth 34 = .ok (.istore 4, 2) := by decide +kernel
theorem dX10_sumDepth_36 : decode cX10_sumDepth 36 = .ok (.iload 4, 2) := by decide +kernel
theorem dX10_sumDepth_38 : decode cX10_sumDepth 38 = .ok (.bipush 9, 2) := by decide +kernel
theorem dX10_sumDepth_40 : decode cX10_sumDepth 40 = .ok (.if_icmp .eq 10, 3) := by decide +kernel
theorem dX10_sumDepth_43 : decode cX10_sumDepth 43 = .ok (.iload 4, 2) := by decide +kernel
theorem dX10_sumDepth_45 : decode cX10_sumDepth 45 = .ok (.bipush 10, 2) := by decide +kernel
theorem dX10_sumDepth_47 : decode cX10_sumDepth 47 = .ok (.if_icmp .ne 40, 3) := by decide +kernel
theorem dX10_sumDepth_50 : decode cX10_sumDepth 50 = .ok (.aload_n 0, 1) := by decide +kernel
theorem dX10_sumDepth_51 : decode cX10_sumDepth 51 = .ok (.getfield 50, 3) := by decide +kernel
theorem dX10_sumDepth_54 : decode cX10_sumDepth 54 = .ok (.iload_n 2, 1) := by decide +kernel
theorem dX10_sumDepth_55 : decode cX10_sumDepth 55 = .ok (.iload 4, 2) := by decide +kernel
theorem dX10_sumDepth_57 : decode cX10_sumDepth 57 = .ok (.bipush 9, 2) := by decide +kernel
theorem dX10_sumDepth_59 : decode cX10_sumDepth 59 = .ok (.if_icmp .ne 20, 3) := by decide +kernel
theorem dX10_sumDepth_62 : decode cX10_sumDepth 62 = .ok (.aload_n 0, 1) := by decide +kernel
theorem dX10_sumDepth_63 : decode cX10_sumDepth 63 = .ok (.getfield 53, 3) := by decide +kernel
theorem dX10_sumDepth_66 : decode cX10_sumDepth 66 = .ok (.aload_n 0, 1) := by decide +kernel
theorem dX10_sumDepth_67 : decode cX10_sumDepth 67 = .ok (.getfield 25, 3) := by decide +kernel
theorem dX10_sumDepth_70 : decode cX10_sumDepth 70 = .ok (.getfield 251, 3) := by decide +kernel
theorem dX10_sumDepth_73 : decode cX10_sumDepth 73 = .ok (.iload_n 3, 1) := by decide +kernel
theorem dX10_sumDepth_74 : decode cX10_sumDepth 74 = .ok (.iaload, 1) := by decide +kernel
theorem dX10_sumDepth_75 : decode cX10_sumDepth 75 = .ok (.iaload, 1) := by decide +kernel
theorem dX10_sumDepth_76 : decode cX10_sumDepth 76 = .ok (.goto 4, 3) := by decide +kernel
theorem dX10_sumDepth_79 : decode cX10_sumDepth 79 = .ok (.iconst 0, 1) := by decide +kernel
theorem dX10_sumDepth_80 : decode cX10_sumDepth 80 = .ok (.iastore, 1) := by decide +kernel
theorem dX10_sumDepth_81 : decode cX10_sumDepth 81 = .ok (.iinc 2 1, 3) := by decide +kernel
theorem dX10_sumDepth_84 : decode cX10_sumDepth 84 = .ok (.goto 65, 3) := by decide +kernel
theorem dX10_sumDepth_87 : decode cX10_sumDepth 87 = .ok (.iload 4, 2) := by decide +kernel
theorem dX10_sumDepth_89 : decode cX10_sumDepth 89 = .ok (.bipush 7, 2) := by decide +kernel
theorem dX10_sumDepth_91 : decode cX10_sumDepth 91 = .ok (.if_icmp .ne 23, 3) := by decide +kernel
theorem dX10_sumDepth_94 : decode cX10_sumDepth 94 = .ok (.aload_n 0, 1) := by decide +kernel
theorem dX10_sumDepth_95 : decode cX10_sumDepth 95 = .ok (.getfield 50, 3) := by decide +kernel
theorem dX10_sumDepth_98 : decode cX10_sumDepth 98 = .ok (.iload_n 2, 1) := by decide +kernel
theorem dX10_sumDepth_99 : decode cX10_sumDepth 99 = .ok (.iconst 1, 1) := by decide +kernel
theorem dX10_sumDepth_100 : decode cX10_sumDepth 100 = .ok (.isub, 1) := by decide +kernel
theorem dX10_sumDepth_101 : decode cX10_sumDepth 101 = .ok (.dup2, 1) := by decide +kernel
