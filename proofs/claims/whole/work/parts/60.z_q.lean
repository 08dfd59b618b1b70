/-! own part (pure): words again, not by rfl -/
theorem lr_0 : (0 : Int32) = nI 0 := id rfl
theorem lr_1 : (1 : Int32) = nI 1 := id rfl
theorem lr_2 : (2 : Int32) = nI 2 := id rfl
theorem lr_3 : (3 : Int32) = nI 3 := id rfl
theorem lr_4 : (4 : Int32) = nI 4 := id rfl
theorem lr_5 : (5 : Int32) = nI 5 := id rfl
theorem lr_6 : (6 : Int32) = nI 6 := id rfl
theorem lr_7 : (7 : Int32) = nI 7 := id rfl
theorem lr_8 : (8 : Int32) = nI 8 := id rfl
theorem lr_9 : (9 : Int32) = nI 9 := id rfl
theorem lr_10 : (10 : Int32) = nI 10 := id rfl
theorem lr_12 : (12 : Int32) = nI 12 := id rfl
theorem lr_16 : (16 : Int32) = nI 16 := id rfl
theorem lr_20 : (20 : Int32) = nI 20 := id rfl
theorem lr_24 : (24 : Int32) = nI 24 := id rfl
theorem lr_31 : (31 : Int32) = nI 31 := id rfl
theorem lr_32 : (32 : Int32) = nI 32 := id rfl
theorem lr_40 : (40 : Int32) = nI 40 := id rfl
theorem lr_41 : (41 : Int32) = nI 41 := id rfl
theorem lr_42 : (42 : Int32) = nI 42 := id rfl
theorem lr_43 : (43 : Int32) = nI 43 := id rfl
theorem lr_45 : (45 : Int32) = nI 45 := id rfl
theorem lr_38 : (38 : Int32) = nI 38 := id rfl
theorem lr_48 : (48 : Int32) = nI 48 := id rfl
theorem lr_50 : (50 : Int32) = nI 50 := id rfl
theorem lr_57 : (57 : Int32) = nI 57 := id rfl
theorem lr_59 : (59 : Int32) = nI 59 := id rfl
theorem lr_60 : (60 : Int32) = nI 60 := id rfl
theorem lr_61 : (61 : Int32) = nI 61 := id rfl
theorem lr_63 : (63 : Int32) = nI 63 := id rfl
theorem lr_94 : (94 : Int32) = nI 94 := id rfl
theorem lr_96 : (96 : Int32) = nI 96 := id rfl
theorem lr_97 : (97 : Int32) = nI 97 := id rfl
theorem lr_100 : (100 : Int32) = nI 100 := id rfl
theorem lr_102 : (102 : Int32) = nI 102 := id rfl
theorem lr_104 : (104 : Int32) = nI 104 := id rfl
theorem lr_105 : (105 : Int32) = nI 105 := id rfl
theorem lr_120 : (120 : Int32) = nI 120 := id rfl
theorem lr_122 : (122 : Int32) = nI 122 := id rfl
theorem lr_123 : (123 : Int32) = nI 123 := id rfl
theorem lr_124 : (124 : Int32) = nI 124 := id rfl
theorem lr_125 : (125 : Int32) = nI 125 := id rfl
theorem lr_126 : (126 : Int32) = nI 126 := id rfl
theorem lr_255 : (255 : Int32) = nI 255 := id rfl
theorem lr_257 : (257 : Int32) = nI 257 := id rfl
theorem lr_600 : (600 : Int32) = nI 600 := id rfl
theorem lr_1000 : (1000 : Int32) = nI 1000 := id rfl
theorem lr_4096 : (4096 : Int32) = nI 4096 := id rfl
theorem lr_65535 : (65535 : Int32) = nI 65535 := id rfl
theorem lr_1000000 : (1000000 : Int32) = nI 1000000 := id rfl
theorem lr_m1 : (-1 : Int32) = nM 1 := id rfl
theorem lr_m2 : (-2 : Int32) = nM 2 := id rfl
theorem lr_m8 : (-8 : Int32) = nM 8 := id rfl
theorem lr_mm : (-2147483648 : Int32) = nM 2147483648 := id rfl
theorem zLet_q {α β : Type} (x : α) (k : α → Option β) : zLet x k = k x := id rfl
theorem zJn_q {α β : Type} (j : α) (k : α → Option β) : zJn j k = k j := id rfl
theorem zB1_q {α1 β : Type} (a1 : α1) (k : α1 → Option β) : zB1 (some (a1)) k = k a1 := id rfl
theorem zB2_q {α1 α2 β : Type} (a1 : α1) (a2 : α2) (k : α1 → α2 → Option β) : zB2 (some (a1, a2)) k = k a1 a2 := id rfl
theorem zB3_q {α1 α2 α3 β : Type} (a1 : α1) (a2 : α2) (a3 : α3) (k : α1 → α2 → α3 → Option β) : zB3 (some (a1, a2, a3)) k = k a1 a2 a3 := id rfl
theorem zB4_q {α1 α2 α3 α4 β : Type} (a1 : α1) (a2 : α2) (a3 : α3) (a4 : α4) (k : α1 → α2 → α3 → α4 → Option β) : zB4 (some (a1, a2, a3, a4)) k = k a1 a2 a3 a4 := id rfl
theorem zB5_q {α1 α2 α3 α4 α5 β : Type} (a1 : α1) (a2 : α2) (a3 : α3) (a4 : α4) (a5 : α5) (k : α1 → α2 → α3 → α4 → α5 → Option β) : zB5 (some (a1, a2, a3, a4, a5)) k = k a1 a2 a3 a4 a5 := id rfl
theorem zB6_q {α1 α2 α3 α4 α5 α6 β : Type} (a1 : α1) (a2 : α2) (a3 : α3) (a4 : α4) (a5 : α5) (a6 : α6) (k : α1 → α2 → α3 → α4 → α5 → α6 → Option β) : zB6 (some (a1, a2, a3, a4, a5, a6)) k = k a1 a2 a3 a4 a5 a6 := id rfl
theorem zB7_q {α1 α2 α3 α4 α5 α6 α7 β : Type} (a1 : α1) (a2 : α2) (a3 : α3) (a4 : α4) (a5 : α5) (a6 : α6) (a7 : α7) (k : α1 → α2 → α3 → α4 → α5 → α6 → α7 → Option β) : zB7 (some (a1, a2, a3, a4, a5, a6, a7)) k = k a1 a2 a3 a4 a5 a6 a7 := id rfl
theorem zB8_q {α1 α2 α3 α4 α5 α6 α7 α8 β : Type} (a1 : α1) (a2 : α2) (a3 : α3) (a4 : α4) (a5 : α5) (a6 : α6) (a7 : α7) (a8 : α8) (k : α1 → α2 → α3 → α4 → α5 → α6 → α7 → α8 → Option β) : zB8 (some (a1, a2, a3, a4, a5, a6, a7, a8)) k = k a1 a2 a3 a4 a5 a6 a7 a8 := id rfl
theorem zB9_q {α1 α2 α3 α4 α5 α6 α7 α8 α9 β : Type} (a1 : α1) (a2 : α2) (a3 : α3) (a4 : α4) (a5 : α5) (a6 : α6) (a7 : α7) (a8 : α8) (a9 : α9) (k : α1 → α2 → α3 → α4 → α5 → α6 → α7 → α8 → α9 → Option β) : zB9 (some (a1, a2, a3, a4, a5, a6, a7, a8, a9)) k = k a1 a2 a3 a4 a5 a6 a7 a8 a9 := id rfl
theorem zB10_q {α1 α2 α3 α4 α5 α6 α7 α8 α9 α10 β : Type} (a1 : α1) (a2 : α2) (a3 : α3) (a4 : α4) (a5 : α5) (a6 : α6) (a7 : α7) (a8 : α8) (a9 : α9) (a10 : α10) (k : α1 → α2 → α3 → α4 → α5 → α6 → α7 → α8 → α9 → α10 → Option β) : zB10 (some (a1, a2, a3, a4, a5, a6, a7, a8, a9, a10)) k = k a1 a2 a3 a4 a5 a6 a7 a8 a9 a10 := id rfl
