/-! own part (pure): what stands behind the ~ of a PART -/
theorem T10_20 {B : Nat → Nat} {e s nx k : Nat} {mL : Rc} (h : T10 B e s nx k mL) (v : Ar) : T10 B e s nx k (rs mL 20 v) := h
theorem meet_bad0 {NN k : Nat} {oR oT oS : Rc} (t4 : oT 4 0 = nI k) (h4 : oR 4 0 = nI 7) (hk : k < 256) (k3 : k ≠ 3) (k40 : k ≠ 40) (k126 : k ≠ 126) (k2 : k ≠ 2) : fX5_meet NN oR oT oS = some (nI 1, oR, oS) := by
  unfold fX5_meet fX5_meetPart fX5_meetAskedName fX5_faultOfName
  simp (disch := omega) only [zLet_e, zJn_e, zB1_s, zB2_s, zB3_s, zB4_s, zB5_s, zB6_s, zB7_s, zGd_in, zGd_b0, zGd_b1, rs_s, rs_n, upd_s, upd_n, ite_t, ite_f, if_true, if_false, ne_eq, not_true, not_false_iff, nI_1, nI_add, nI_mul, nI_sub, nIc, nI_leI, nI_ltI, nI_eq, nI_m1, nI_m1', nI_lt0, nI_m2, ↓lq_m1, ↓lq_m2, ↓lq_m8, ↓lq_mm, lq_0, lq_1, lq_2, lq_3, lq_4, lq_5, lq_6, lq_7, lq_8, lq_9, lq_10, lq_12, lq_16, lq_20, lq_24, lq_31, lq_32, lq_40, lq_41, lq_42, lq_43, lq_45, lq_38, lq_48, lq_50, lq_57, lq_59, lq_60, lq_61, lq_63, lq_94, lq_96, lq_97, lq_100, lq_102, lq_104, lq_105, lq_120, lq_122, lq_123, lq_124, lq_125, lq_126, lq_255, lq_257, lq_600, lq_1000, lq_4096, lq_65535, lq_1000000, h4, t4]
theorem meet_word {NN : Nat} {oR oT oS : Rc} (t4 : oT 4 0 = nI 2) (h4 : oR 4 0 = nI 7) (t8 : oT 8 0 = nM 1) : fX5_meet NN oR oT oS = some (nI 2, oR, oS) := by
  unfold fX5_meet fX5_meetPart fX5_meetAskedName fX5_faultOfName
  simp (disch := omega) only [zLet_e, zJn_e, zB1_s, zB2_s, zB3_s, zB4_s, zB5_s, zB6_s, zB7_s, zGd_in, zGd_b0, zGd_b1, rs_s, rs_n, upd_s, upd_n, ite_t, ite_f, if_true, if_false, ne_eq, not_true, not_false_iff, nI_1, nI_add, nI_mul, nI_sub, nIc, nI_leI, nI_ltI, nI_eq, nI_m1, nI_m1', nI_lt0, nI_m2, ↓lq_m1, ↓lq_m2, ↓lq_m8, ↓lq_mm, lq_0, lq_1, lq_2, lq_3, lq_4, lq_5, lq_6, lq_7, lq_8, lq_9, lq_10, lq_12, lq_16, lq_20, lq_24, lq_31, lq_32, lq_40, lq_41, lq_42, lq_43, lq_45, lq_38, lq_48, lq_50, lq_57, lq_59, lq_60, lq_61, lq_63, lq_94, lq_96, lq_97, lq_100, lq_102, lq_104, lq_105, lq_120, lq_122, lq_123, lq_124, lq_125, lq_126, lq_255, lq_257, lq_600, lq_1000, lq_4096, lq_65535, lq_1000000, h4, t4, t8]
theorem meet_o8 {NN : Nat} {oR oT oS : Rc} (t4 : oT 4 0 = nI 40) (h4 : oR 4 0 = nI 7) (h7 : oR 7 0 = nI 8) : fX5_meet NN oR oT oS = some (nI 5, oR, oS) := by
  unfold fX5_meet fX5_meetPart fX5_meetOpening
  simp (disch := omega) only [zLet_e, zJn_e, zB1_s, zB2_s, zB3_s, zB4_s, zB5_s, zB6_s, zB7_s, zGd_in, zGd_b0, zGd_b1, rs_s, rs_n, upd_s, upd_n, ite_t, ite_f, if_true, if_false, ne_eq, not_true, not_false_iff, nI_1, nI_add, nI_mul, nI_sub, nIc, nI_leI, nI_ltI, nI_eq, nI_m1, nI_m1', nI_lt0, nI_m2, ↓lq_m1, ↓lq_m2, ↓lq_m8, ↓lq_mm, lq_0, lq_1, lq_2, lq_3, lq_4, lq_5, lq_6, lq_7, lq_8, lq_9, lq_10, lq_12, lq_16, lq_20, lq_24, lq_31, lq_32, lq_40, lq_41, lq_42, lq_43, lq_45, lq_38, lq_48, lq_50, lq_57, lq_59, lq_60, lq_61, lq_63, lq_94, lq_96, lq_97, lq_100, lq_102, lq_104, lq_105, lq_120, lq_122, lq_123, lq_124, lq_125, lq_126, lq_255, lq_257, lq_600, lq_1000, lq_4096, lq_65535, lq_1000000, h4, t4, h7]
theorem meet_o {NN D : Nat} {oR oT oS : Rc} (t4 : oT 4 0 = nI 40) (h4 : oR 4 0 = nI 7) (h7 : oR 7 0 = nI D) (hD : D < 8) : fX5_meet NN oR oT oS = some (nI 0, rs (rs (rs oR 7 (fun _ => nI (D + 1))) 8 (upd (oR 8) (D + 1) (nI 0))) 9 (upd (oR 9) (D + 1) (nI 0)), oS) := by
  unfold fX5_meet fX5_meetPart fX5_meetOpening fX5_beginSum
  simp (disch := omega) only [zLet_e, zJn_e, zB1_s, zB2_s, zB3_s, zB4_s, zB5_s, zB6_s, zB7_s, zGd_in, zGd_b0, zGd_b1, rs_s, rs_n, upd_s, upd_n, ite_t, ite_f, if_true, if_false, ne_eq, not_true, not_false_iff, nI_1, nI_add, nI_mul, nI_sub, nIc, nI_leI, nI_ltI, nI_eq, nI_m1, nI_m1', nI_lt0, nI_m2, ↓lq_m1, ↓lq_m2, ↓lq_m8, ↓lq_mm, lq_0, lq_1, lq_2, lq_3, lq_4, lq_5, lq_6, lq_7, lq_8, lq_9, lq_10, lq_12, lq_16, lq_20, lq_24, lq_31, lq_32, lq_40, lq_41, lq_42, lq_43, lq_45, lq_38, lq_48, lq_50, lq_57, lq_59, lq_60, lq_61, lq_63, lq_94, lq_96, lq_97, lq_100, lq_102, lq_104, lq_105, lq_120, lq_122, lq_123, lq_124, lq_125, lq_126, lq_255, lq_257, lq_600, lq_1000, lq_4096, lq_65535, lq_1000000, h4, t4, h7]
theorem meet_c {NN D : Nat} {oR oT oS : Rc} (t4 : oT 4 0 = nI 41) (h4 : oR 4 0 = nI 8) (h7 : oR 7 0 = nI (D + 1)) (hD : D < 8) : fX5_meet NN oR oT oS = zB2 (fX5_endPart NN (rs oR 7 (fun _ => nI D)) oS) fun a b => some (nI 0, a, b) := by
  have hsg : fX6_isSignByte (nI 41) = some (nI 0) := by decide +kernel
  unfold fX5_meet fX5_meetBehindPart fX6_isSign fX5_meetClosing
  simp (disch := omega) only [zLet_e, zJn_e, zB1_s, zB2_s, zB3_s, zB4_s, zB5_s, zB6_s, zB7_s, zGd_in, zGd_b0, zGd_b1, rs_s, rs_n, upd_s, upd_n, ite_t, ite_f, if_true, if_false, ne_eq, not_true, not_false_iff, nI_1, nI_add, nI_mul, nI_sub, nIc, nI_leI, nI_ltI, nI_eq, nI_m1, nI_m1', nI_lt0, nI_m2, ↓lq_m1, ↓lq_m2, ↓lq_m8, ↓lq_mm, lq_0, lq_1, lq_2, lq_3, lq_4, lq_5, lq_6, lq_7, lq_8, lq_9, lq_10, lq_12, lq_16, lq_20, lq_24, lq_31, lq_32, lq_40, lq_41, lq_42, lq_43, lq_45, lq_38, lq_48, lq_50, lq_57, lq_59, lq_60, lq_61, lq_63, lq_94, lq_96, lq_97, lq_100, lq_102, lq_104, lq_105, lq_120, lq_122, lq_123, lq_124, lq_125, lq_126, lq_255, lq_257, lq_600, lq_1000, lq_4096, lq_65535, lq_1000000, h4, t4, hsg, h7, zB3_id, Nat.add_sub_cancel]
theorem meet_cb {NN D k : Nat} {oR oT oS : Rc} (t4 : oT 4 0 = nI k) (hk : k < 256) (hsg : isSg k = false) (k41 : k ≠ 41) (h4 : oR 4 0 = nI 8) (h7 : oR 7 0 = nI (D + 1)) (hD : D < 8) : fX5_meet NN oR oT oS = some (nI 1, oR, oS) := by
  have hsg' := isSignByte6 hk
  rw [hsg] at hsg'
  unfold fX5_meet fX5_meetBehindPart fX6_isSign fX5_meetClosing
  simp (disch := omega) only [zLet_e, zJn_e, zB1_s, zB2_s, zB3_s, zB4_s, zB5_s, zB6_s, zB7_s, zGd_in, zGd_b0, zGd_b1, rs_s, rs_n, upd_s, upd_n, ite_t, ite_f, if_true, if_false, ne_eq, not_true, not_false_iff, nI_1, nI_add, nI_mul, nI_sub, nIc, nI_leI, nI_ltI, nI_eq, nI_m1, nI_m1', nI_lt0, nI_m2, ↓lq_m1, ↓lq_m2, ↓lq_m8, ↓lq_mm, lq_0, lq_1, lq_2, lq_3, lq_4, lq_5, lq_6, lq_7, lq_8, lq_9, lq_10, lq_12, lq_16, lq_20, lq_24, lq_31, lq_32, lq_40, lq_41, lq_42, lq_43, lq_45, lq_38, lq_48, lq_50, lq_57, lq_59, lq_60, lq_61, lq_63, lq_94, lq_96, lq_97, lq_100, lq_102, lq_104, lq_105, lq_120, lq_122, lq_123, lq_124, lq_125, lq_126, lq_255, lq_257, lq_600, lq_1000, lq_4096, lq_65535, lq_1000000, h4, t4, hsg', bI_f, h7]
theorem meet_w {NN v : Nat} {oR oT oS oS1 : Rc} (t4 : oT 4 0 = nI 3) (h4 : oR 4 0 = nI 7) (t7 : oT 7 0 = nI v) (hv : v ≤ 65535) (p1 : fX4_addStep oS (nI 3) (nI v) = some oS1) : fX5_meet NN oR oT oS = zB2 (fX5_endPart NN oR oS1) fun a b => some (nI 0, a, b) := by
  unfold fX5_meet fX5_meetPart fX5_meetWhole
  simp (disch := omega) only [zLet_e, zJn_e, zB1_s, zB2_s, zB3_s, zB4_s, zB5_s, zB6_s, zB7_s, zGd_in, zGd_b0, zGd_b1, rs_s, rs_n, upd_s, upd_n, ite_t, ite_f, if_true, if_false, ne_eq, not_true, not_false_iff, nI_1, nI_add, nI_mul, nI_sub, nIc, nI_leI, nI_ltI, nI_eq, nI_m1, nI_m1', nI_lt0, nI_m2, ↓lq_m1, ↓lq_m2, ↓lq_m8, ↓lq_mm, lq_0, lq_1, lq_2, lq_3, lq_4, lq_5, lq_6, lq_7, lq_8, lq_9, lq_10, lq_12, lq_16, lq_20, lq_24, lq_31, lq_32, lq_40, lq_41, lq_42, lq_43, lq_45, lq_38, lq_48, lq_50, lq_57, lq_59, lq_60, lq_61, lq_63, lq_94, lq_96, lq_97, lq_100, lq_102, lq_104, lq_105, lq_120, lq_122, lq_123, lq_124, lq_125, lq_126, lq_255, lq_257, lq_600, lq_1000, lq_4096, lq_65535, lq_1000000, h4, t4, t7, p1, zB3_id]
theorem meet_wb {NN v : Nat} {oR oT oS : Rc} (t4 : oT 4 0 = nI 3) (h4 : oR 4 0 = nI 7) (t7 : oT 7 0 = nI v) (hv : ¬ v ≤ 65535) (hv' : v < 100000) : fX5_meet NN oR oT oS = some (nI 4, oR, oS) := by
  unfold fX5_meet fX5_meetPart fX5_meetWhole
  simp (disch := omega) only [zLet_e, zJn_e, zB1_s, zB2_s, zB3_s, zB4_s, zB5_s, zB6_s, zB7_s, zGd_in, zGd_b0, zGd_b1, rs_s, rs_n, upd_s, upd_n, ite_t, ite_f, if_true, if_false, ne_eq, not_true, not_false_iff, nI_1, nI_add, nI_mul, nI_sub, nIc, nI_leI, nI_ltI, nI_eq, nI_m1, nI_m1', nI_lt0, nI_m2, ↓lq_m1, ↓lq_m2, ↓lq_m8, ↓lq_mm, lq_0, lq_1, lq_2, lq_3, lq_4, lq_5, lq_6, lq_7, lq_8, lq_9, lq_10, lq_12, lq_16, lq_20, lq_24, lq_31, lq_32, lq_40, lq_41, lq_42, lq_43, lq_45, lq_38, lq_48, lq_50, lq_57, lq_59, lq_60, lq_61, lq_63, lq_94, lq_96, lq_97, lq_100, lq_102, lq_104, lq_105, lq_120, lq_122, lq_123, lq_124, lq_125, lq_126, lq_255, lq_257, lq_600, lq_1000, lq_4096, lq_65535, lq_1000000, h4, t4, t7]
theorem meet_n {NN v : Nat} {oR oT oS oS1 : Rc} (t4 : oT 4 0 = nI 2) (h4 : oR 4 0 = nI 7) (t8 : oT 8 0 = nI v) (hv : v < 8) (p1 : fX4_addStep oS (nI 4) (nI v) = some oS1) : fX5_meet NN oR oT oS = zB2 (fX5_endPart NN oR oS1) fun a b => some (nI 0, a, b) := by
  unfold fX5_meet fX5_meetPart fX5_meetAskedName fX5_faultOfName
  simp (disch := omega) only [zLet_e, zJn_e, zB1_s, zB2_s, zB3_s, zB4_s, zB5_s, zB6_s, zB7_s, zGd_in, zGd_b0, zGd_b1, rs_s, rs_n, upd_s, upd_n, ite_t, ite_f, if_true, if_false, ne_eq, not_true, not_false_iff, nI_1, nI_add, nI_mul, nI_sub, nIc, nI_leI, nI_ltI, nI_eq, nI_m1, nI_m1', nI_lt0, nI_m2, ↓lq_m1, ↓lq_m2, ↓lq_m8, ↓lq_mm, lq_0, lq_1, lq_2, lq_3, lq_4, lq_5, lq_6, lq_7, lq_8, lq_9, lq_10, lq_12, lq_16, lq_20, lq_24, lq_31, lq_32, lq_40, lq_41, lq_42, lq_43, lq_45, lq_38, lq_48, lq_50, lq_57, lq_59, lq_60, lq_61, lq_63, lq_94, lq_96, lq_97, lq_100, lq_102, lq_104, lq_105, lq_120, lq_122, lq_123, lq_124, lq_125, lq_126, lq_255, lq_257, lq_600, lq_1000, lq_4096, lq_65535, lq_1000000, h4, t4, t8, p1, zB3_id]
def pC (NN : Nat) (mB : Rc) (x1 : Int32) (mL_29 mS_30 mW_31 : Rc) : Option (Int32 × Rc × Rc × Rc) :=
            zB3 (fX10_need NN mB mL_29 mW_31 (41 : Int32)) fun fl32 mL_33 mW_34 =>
            if fl32 = 1 then (
              some ((1 : Int32), mL_33, mS_30, mW_34)
            ) else (
              zLet (rs mL_33 20 (fun _ => ((mL_33 20 0) - (1 : Int32)))) fun mL_35 =>
              fX10_readPart_L148 x1 (fun (mS_11 : Rc) => some ((0 : Int32), mL_35, mS_11, mW_34)) NN (0 : Int32) mS_30
            )
theorem pT_o8 {NN : Nat} {sum : Rc → Rc → Rc → Rc → Option (Int32 × Rc × Rc × Rc)} {mB mL mS mW : Rc} {x : Int32} (his : fX10_is mL (nI 40) = some (nI 1)) (h20 : mL 20 0 = nI 8) : pT NN sum mB x mL mS mW = some (nI 1, mL, mS, rs (rs mW 6 (fun _ => nI 5)) 7 (fun _ => mL 16 0)) := by
  unfold pT
  simp (disch := omega) only [zLet_e, zJn_e, zB1_s, zB2_s, zB3_s, zB4_s, zB5_s, zB6_s, zB7_s, zGd_in, zGd_b0, zGd_b1, rs_s, rs_n, upd_s, upd_n, ite_t, ite_f, if_true, if_false, ne_eq, not_true, not_false_iff, nI_1, nI_add, nI_mul, nI_sub, nIc, nI_leI, nI_ltI, nI_eq, nI_m1, nI_m1', nI_lt0, nI_m2, ↓lq_m1, ↓lq_m2, ↓lq_m8, ↓lq_mm, lq_0, lq_1, lq_2, lq_3, lq_4, lq_5, lq_6, lq_7, lq_8, lq_9, lq_10, lq_12, lq_16, lq_20, lq_24, lq_31, lq_32, lq_40, lq_41, lq_42, lq_43, lq_45, lq_38, lq_48, lq_50, lq_57, lq_59, lq_60, lq_61, lq_63, lq_94, lq_96, lq_97, lq_100, lq_102, lq_104, lq_105, lq_120, lq_122, lq_123, lq_124, lq_125, lq_126, lq_255, lq_257, lq_600, lq_1000, lq_4096, lq_65535, lq_1000000, his, h20, stop_e]
theorem pT_o {NN D : Nat} {sum : Rc → Rc → Rc → Rc → Option (Int32 × Rc × Rc × Rc)} {mB mL mS mW mL1 : Rc} {x : Int32} (his : fX10_is mL (nI 40) = some (nI 1)) (h20 : mL 20 0 = nI D) (hD : D < 8) (n1 : fX10_next NN mB (rs mL 20 (fun _ => nI (D + 1))) = some mL1) : pT NN sum mB x mL mS mW = zB4 (sum mB mL1 mS mW) (fun fl a b c => if fl = 1 then some ((1 : Int32), a, b, c) else pC NN mB x a b c) := by
  unfold pT pC
  simp (disch := omega) only [zLet_e, zJn_e, zB1_s, zB2_s, zB3_s, zB4_s, zB5_s, zB6_s, zB7_s, zGd_in, zGd_b0, zGd_b1, rs_s, rs_n, upd_s, upd_n, ite_t, ite_f, if_true, if_false, ne_eq, not_true, not_false_iff, nI_1, nI_add, nI_mul, nI_sub, nIc, nI_leI, nI_ltI, nI_eq, nI_m1, nI_m1', nI_lt0, nI_m2, ↓lq_m1, ↓lq_m2, ↓lq_m8, ↓lq_mm, lq_0, lq_1, lq_2, lq_3, lq_4, lq_5, lq_6, lq_7, lq_8, lq_9, lq_10, lq_12, lq_16, lq_20, lq_24, lq_31, lq_32, lq_40, lq_41, lq_42, lq_43, lq_45, lq_38, lq_48, lq_50, lq_57, lq_59, lq_60, lq_61, lq_63, lq_94, lq_96, lq_97, lq_100, lq_102, lq_104, lq_105, lq_120, lq_122, lq_123, lq_124, lq_125, lq_126, lq_255, lq_257, lq_600, lq_1000, lq_4096, lq_65535, lq_1000000, his, h20, n1]
theorem pC_ok {NN D : Nat} {mB mL mS mW mL1 : Rc} {x : Int32} (his : fX10_is mL (nI 41) = some (nI 1)) (n1 : fX10_next NN mB mL = some mL1) (h20 : mL1 20 0 = nI (D + 1)) : pC NN mB x mL mS mW = fX10_readPart_L148 x (fun (mS_11 : Rc) => some (nI 0, rs mL1 20 (fun _ => nI D), mS_11, mW)) NN (nI 0) mS := by
  unfold pC fX10_need
  simp (disch := omega) only [zLet_e, zJn_e, zB1_s, zB2_s, zB3_s, zB4_s, zB5_s, zB6_s, zB7_s, zGd_in, zGd_b0, zGd_b1, rs_s, rs_n, upd_s, upd_n, ite_t, ite_f, if_true, if_false, ne_eq, not_true, not_false_iff, nI_1, nI_add, nI_mul, nI_sub, nIc, nI_leI, nI_ltI, nI_eq, nI_m1, nI_m1', nI_lt0, nI_m2, ↓lq_m1, ↓lq_m2, ↓lq_m8, ↓lq_mm, lq_0, lq_1, lq_2, lq_3, lq_4, lq_5, lq_6, lq_7, lq_8, lq_9, lq_10, lq_12, lq_16, lq_20, lq_24, lq_31, lq_32, lq_40, lq_41, lq_42, lq_43, lq_45, lq_38, lq_48, lq_50, lq_57, lq_59, lq_60, lq_61, lq_63, lq_94, lq_96, lq_97, lq_100, lq_102, lq_104, lq_105, lq_120, lq_122, lq_123, lq_124, lq_125, lq_126, lq_255, lq_257, lq_600, lq_1000, lq_4096, lq_65535, lq_1000000, his, n1, h20, Nat.add_sub_cancel]
theorem pC_no {NN : Nat} {mB mL mS mW : Rc} {x : Int32} (his : fX10_is mL (nI 41) = some (nI 0)) : pC NN mB x mL mS mW = some (nI 1, mL, mS, rs (rs mW 6 (fun _ => nI 1)) 7 (fun _ => mL 16 0)) := by
  unfold pC fX10_need
  simp (disch := omega) only [zLet_e, zJn_e, zB1_s, zB2_s, zB3_s, zB4_s, zB5_s, zB6_s, zB7_s, zGd_in, zGd_b0, zGd_b1, rs_s, rs_n, upd_s, upd_n, ite_t, ite_f, if_true, if_false, ne_eq, not_true, not_false_iff, nI_1, nI_add, nI_mul, nI_sub, nIc, nI_leI, nI_ltI, nI_eq, nI_m1, nI_m1', nI_lt0, nI_m2, ↓lq_m1, ↓lq_m2, ↓lq_m8, ↓lq_mm, lq_0, lq_1, lq_2, lq_3, lq_4, lq_5, lq_6, lq_7, lq_8, lq_9, lq_10, lq_12, lq_16, lq_20, lq_24, lq_31, lq_32, lq_40, lq_41, lq_42, lq_43, lq_45, lq_38, lq_48, lq_50, lq_57, lq_59, lq_60, lq_61, lq_63, lq_94, lq_96, lq_97, lq_100, lq_102, lq_104, lq_105, lq_120, lq_122, lq_123, lq_124, lq_125, lq_126, lq_255, lq_257, lq_600, lq_1000, lq_4096, lq_65535, lq_1000000, his, stop_e]
theorem pT_w {NN v : Nat} {sum : Rc → Rc → Rc → Rc → Option (Int32 × Rc × Rc × Rc)} {mB mL mS mW mL1 mS1 : Rc} {x : Int32} (his : fX10_is mL (nI 40) = some (nI 0)) (l15 : mL 15 0 = nI 3) (l18 : mL 18 0 = nI v) (hv : v ≤ 65535) (p2 : fX8_put mS (nI 10) (nI v) = some mS1) (n1 : fX10_next NN mB mL = some mL1) : pT NN sum mB x mL mS mW = fX10_readPart_L148 x (fun (mS_11 : Rc) => some (nI 0, mL1, mS_11, mW)) NN (nI 0) mS1 := by
  unfold pT
  simp (disch := omega) only [zLet_e, zJn_e, zB1_s, zB2_s, zB3_s, zB4_s, zB5_s, zB6_s, zB7_s, zGd_in, zGd_b0, zGd_b1, rs_s, rs_n, upd_s, upd_n, ite_t, ite_f, if_true, if_false, ne_eq, not_true, not_false_iff, nI_1, nI_add, nI_mul, nI_sub, nIc, nI_leI, nI_ltI, nI_eq, nI_m1, nI_m1', nI_lt0, nI_m2, ↓lq_m1, ↓lq_m2, ↓lq_m8, ↓lq_mm, lq_0, lq_1, lq_2, lq_3, lq_4, lq_5, lq_6, lq_7, lq_8, lq_9, lq_10, lq_12, lq_16, lq_20, lq_24, lq_31, lq_32, lq_40, lq_41, lq_42, lq_43, lq_45, lq_38, lq_48, lq_50, lq_57, lq_59, lq_60, lq_61, lq_63, lq_94, lq_96, lq_97, lq_100, lq_102, lq_104, lq_105, lq_120, lq_122, lq_123, lq_124, lq_125, lq_126, lq_255, lq_257, lq_600, lq_1000, lq_4096, lq_65535, lq_1000000, his, l15, l18, p2, n1]
theorem pT_wb {NN v : Nat} {sum : Rc → Rc → Rc → Rc → Option (Int32 × Rc × Rc × Rc)} {mB mL mS mW : Rc} {x : Int32} (his : fX10_is mL (nI 40) = some (nI 0)) (l15 : mL 15 0 = nI 3) (l18 : mL 18 0 = nI v) (hv : ¬ v ≤ 65535) (hv' : v < 100000) : pT NN sum mB x mL mS mW = some (nI 1, mL, mS, rs (rs mW 6 (fun _ => nI 4)) 7 (fun _ => mL 16 0)) := by
  unfold pT
  simp (disch := omega) only [zLet_e, zJn_e, zB1_s, zB2_s, zB3_s, zB4_s, zB5_s, zB6_s, zB7_s, zGd_in, zGd_b0, zGd_b1, rs_s, rs_n, upd_s, upd_n, ite_t, ite_f, if_true, if_false, ne_eq, not_true, not_false_iff, nI_1, nI_add, nI_mul, nI_sub, nIc, nI_leI, nI_ltI, nI_eq, nI_m1, nI_m1', nI_lt0, nI_m2, ↓lq_m1, ↓lq_m2, ↓lq_m8, ↓lq_mm, lq_0, lq_1, lq_2, lq_3, lq_4, lq_5, lq_6, lq_7, lq_8, lq_9, lq_10, lq_12, lq_16, lq_20, lq_24, lq_31, lq_32, lq_40, lq_41, lq_42, lq_43, lq_45, lq_38, lq_48, lq_50, lq_57, lq_59, lq_60, lq_61, lq_63, lq_94, lq_96, lq_97, lq_100, lq_102, lq_104, lq_105, lq_120, lq_122, lq_123, lq_124, lq_125, lq_126, lq_255, lq_257, lq_600, lq_1000, lq_4096, lq_65535, lq_1000000, his, l15, l18, stop_e]
theorem pT_n {NN v : Nat} {sum : Rc → Rc → Rc → Rc → Option (Int32 × Rc × Rc × Rc)} {mB mL mS mW mL1 mS1 : Rc} {x : Int32} (his : fX10_is mL (nI 40) = some (nI 0)) (l15 : ¬ mL 15 0 = nI 3) (hn : fX10_nameHere mB mL mW = some (nI 0, nI v, mW)) (p2 : fX8_put mS (nI 9) (nI v) = some mS1) (n1 : fX10_next NN mB mL = some mL1) : pT NN sum mB x mL mS mW = fX10_readPart_L148 x (fun (mS_11 : Rc) => some (nI 0, mL1, mS_11, mW)) NN (nI 0) mS1 := by
  unfold pT
  simp only [lq_3, if_neg l15]
  simp (disch := omega) only [zLet_e, zJn_e, zB1_s, zB2_s, zB3_s, zB4_s, zB5_s, zB6_s, zB7_s, zGd_in, zGd_b0, zGd_b1, rs_s, rs_n, upd_s, upd_n, ite_t, ite_f, if_true, if_false, ne_eq, not_true, not_false_iff, nI_1, nI_add, nI_mul, nI_sub, nIc, nI_leI, nI_ltI, nI_eq, nI_m1, nI_m1', nI_lt0, nI_m2, ↓lq_m1, ↓lq_m2, ↓lq_m8, ↓lq_mm, lq_0, lq_1, lq_2, lq_3, lq_4, lq_5, lq_6, lq_7, lq_8, lq_9, lq_10, lq_12, lq_16, lq_20, lq_24, lq_31, lq_32, lq_40, lq_41, lq_42, lq_43, lq_45, lq_38, lq_48, lq_50, lq_57, lq_59, lq_60, lq_61, lq_63, lq_94, lq_96, lq_97, lq_100, lq_102, lq_104, lq_105, lq_120, lq_122, lq_123, lq_124, lq_125, lq_126, lq_255, lq_257, lq_600, lq_1000, lq_4096, lq_65535, lq_1000000, his, hn, p2, n1]
theorem pT_nb {NN : Nat} {sum : Rc → Rc → Rc → Rc → Option (Int32 × Rc × Rc × Rc)} {mB mL mS mW mW1 : Rc} {x : Int32} (his : fX10_is mL (nI 40) = some (nI 0)) (l15 : ¬ mL 15 0 = nI 3) (hn : fX10_nameHere mB mL mW = some (nI 1, nI 0, mW1)) : pT NN sum mB x mL mS mW = some (nI 1, mL, mS, mW1) := by
  unfold pT
  simp only [lq_3, if_neg l15]
  simp (disch := omega) only [zLet_e, zJn_e, zB1_s, zB2_s, zB3_s, zB4_s, zB5_s, zB6_s, zB7_s, zGd_in, zGd_b0, zGd_b1, rs_s, rs_n, upd_s, upd_n, ite_t, ite_f, if_true, if_false, ne_eq, not_true, not_false_iff, nI_1, nI_add, nI_mul, nI_sub, nIc, nI_leI, nI_ltI, nI_eq, nI_m1, nI_m1', nI_lt0, nI_m2, ↓lq_m1, ↓lq_m2, ↓lq_m8, ↓lq_mm, lq_0, lq_1, lq_2, lq_3, lq_4, lq_5, lq_6, lq_7, lq_8, lq_9, lq_10, lq_12, lq_16, lq_20, lq_24, lq_31, lq_32, lq_40, lq_41, lq_42, lq_43, lq_45, lq_38, lq_48, lq_50, lq_57, lq_59, lq_60, lq_61, lq_63, lq_94, lq_96, lq_97, lq_100, lq_102, lq_104, lq_105, lq_120, lq_122, lq_123, lq_124, lq_125, lq_126, lq_255, lq_257, lq_600, lq_1000, lq_4096, lq_65535, lq_1000000, his, hn]
set_option maxHeartbeats 8000000 in
theorem partTail {B : Nat → Nat} {e NN D : Nat} {mB : Rc} {sum : Rc → Rc → Rc → Rc → Option (Int32 × Rc × Rc × Rc)} (hN : 1000 ≤ NN) (he : e ≤ 600) (hB : ∀ i, B i < 256) (hM : ∀ i, i < 600 → mB 11 i = sx (B i)) (hD : D ≤ 8) (hsum : D < 8 → SumS B e NN mB sum (D + 1)) (i s nx k : Nat) (oR oT oS mL mS mW oR0 oS0 mS0 : Rc) (f ns ns0 h op q c t s0 : Nat) (R : Option (Int32 × Rc × Rc × Rc)) (hR : R = CL NN i oR oT oS) (hc : CB B e i s nx k oR oT oS) (ht : Tk B e s nx k) (hl : T10 B e s nx k mL) (h20 : mL 20 0 = nI D) (h4 : oR 4 0 = nI 7) (h7 : oR 7 0 = nI D) (h9 : oR 9 D = nI t) (h8 : oR 8 D = nI c) (hcc : c = 0 ∨ (isSg c = true ∧ 1 ≤ q ∧ 1 ≤ h)) (hfr : ∀ j, j < D → oR 8 j = oR0 8 j ∧ oR 9 j = oR0 9 j) (h5 : oR 5 = oR0 5) (h6 : oR 6 = oR0 6) (hs : SS oS mS f ns h op) (hfo : FO oS0 oS ns0) (hfm : FM mS0 mS ns0) (hns : ns0 ≤ ns) (hh : h ≤ D + 1) (hq : ns + t + q ≤ s) (hs0 : s0 ≤ s) (k126 : k ≠ 126) (h10 : oS0 10 0 = nI 0) : Sm B R (pT NN sum mB (nI t) mL mS mW) (fun mL' mS' _ => PPost B e NN D s0 f ns0 h q c R oR0 oS0 mS0 mL' mS') := by
  have hc' := hc
  obtain ⟨b0, ⟨t2, t3, t4, t5, t6, t7, t8, t9⟩, hr, hi, o10⟩ := hc
  have hl' := hl
  obtain ⟨l13, l16, l14, l15, l19, l18, l17⟩ := hl
  have hk := ht.2.2.2.1
  have his := is10 (c := 40) hl' hk (by omega) (by omega)
  have hnx := ht.2.1
  have hss := ht.1
  by_cases k40 : k = 40
  · subst k40
    rw [if_pos rfl] at his
    by_cases d8 : D = 8
    · subst d8
      rw [pT_o8 his h20]
      refine Sm_st l16 ?_
      rw [hR]
      exact cl_bad hN he hc' ht (by omega) (v := 5) (meet_o8 t4 h4 h7) (by omega) (by omega) o10
    · have hm := meet_o (NN := NN) (oS := oS) t4 h4 h7 (by omega)
      obtain ⟨oT1, q1, q2, q3, q4⟩ := cl_ok hN he hB hc' ht (by omega) hm o10
      obtain ⟨mL1, n1, n2, n3⟩ := adv10 (mB := mB) (mL := rs mL 20 (fun _ => nI (D + 1))) (NN := NN) he hB hM (by omega) (T10_20 hl' _) (by omega) ht
      rw [pT_o his h20 (by omega) n1]
      have hsn := ht.2.2.1 (by omega)
      have S := hsum (by omega) _ _ _ _ _ oT1 oS mL1 mS mW f ns h op (t + q) q2 q3 n2 (by rw [n3]; simp (disch := omega) only [zLet_e, zJn_e, zB1_s, zB2_s, zB3_s, zB4_s, zB5_s, zB6_s, zB7_s, zGd_in, zGd_b0, zGd_b1, rs_s, rs_n, upd_s, upd_n, ite_t, ite_f, if_true, if_false, ne_eq, not_true, not_false_iff, nI_1, nI_add, nI_mul, nI_sub, nIc, nI_leI, nI_ltI, nI_eq, nI_m1, nI_m1', nI_lt0, nI_m2, ↓lq_m1, ↓lq_m2, ↓lq_m8, ↓lq_mm, lq_0, lq_1, lq_2, lq_3, lq_4, lq_5, lq_6, lq_7, lq_8, lq_9, lq_10, lq_12, lq_16, lq_20, lq_24, lq_31, lq_32, lq_40, lq_41, lq_42, lq_43, lq_45, lq_38, lq_48, lq_50, lq_57, lq_59, lq_60, lq_61, lq_63, lq_94, lq_96, lq_97, lq_100, lq_102, lq_104, lq_105, lq_120, lq_122, lq_123, lq_124, lq_125, lq_126, lq_255, lq_257, lq_600, lq_1000, lq_4096, lq_65535, lq_1000000]) (by simp (disch := omega) only [zLet_e, zJn_e, zB1_s, zB2_s, zB3_s, zB4_s, zB5_s, zB6_s, zB7_s, zGd_in, zGd_b0, zGd_b1, rs_s, rs_n, upd_s, upd_n, ite_t, ite_f, if_true, if_false, ne_eq, not_true, not_false_iff, nI_1, nI_add, nI_mul, nI_sub, nIc, nI_leI, nI_ltI, nI_eq, nI_m1, nI_m1', nI_lt0, nI_m2, ↓lq_m1, ↓lq_m2, ↓lq_m8, ↓lq_mm, lq_0, lq_1, lq_2, lq_3, lq_4, lq_5, lq_6, lq_7, lq_8, lq_9, lq_10, lq_12, lq_16, lq_20, lq_24, lq_31, lq_32, lq_40, lq_41, lq_42, lq_43, lq_45, lq_38, lq_48, lq_50, lq_57, lq_59, lq_60, lq_61, lq_63, lq_94, lq_96, lq_97, lq_100, lq_102, lq_104, lq_105, lq_120, lq_122, lq_123, lq_124, lq_125, lq_126, lq_255, lq_257, lq_600, lq_1000, lq_4096, lq_65535, lq_1000000, h4]) (by simp (disch := omega) only [zLet_e, zJn_e, zB1_s, zB2_s, zB3_s, zB4_s, zB5_s, zB6_s, zB7_s, zGd_in, zGd_b0, zGd_b1, rs_s, rs_n, upd_s, upd_n, ite_t, ite_f, if_true, if_false, ne_eq, not_true, not_false_iff, nI_1, nI_add, nI_mul, nI_sub, nIc, nI_leI, nI_ltI, nI_eq, nI_m1, nI_m1', nI_lt0, nI_m2, ↓lq_m1, ↓lq_m2, ↓lq_m8, ↓lq_mm, lq_0, lq_1, lq_2, lq_3, lq_4, lq_5, lq_6, lq_7, lq_8, lq_9, lq_10, lq_12, lq_16, lq_20, lq_24, lq_31, lq_32, lq_40, lq_41, lq_42, lq_43, lq_45, lq_38, lq_48, lq_50, lq_57, lq_59, lq_60, lq_61, lq_63, lq_94, lq_96, lq_97, lq_100, lq_102, lq_104, lq_105, lq_120, lq_122, lq_123, lq_124, lq_125, lq_126, lq_255, lq_257, lq_600, lq_1000, lq_4096, lq_65535, lq_1000000]) (by simp (disch := omega) only [zLet_e, zJn_e, zB1_s, zB2_s, zB3_s, zB4_s, zB5_s, zB6_s, zB7_s, zGd_in, zGd_b0, zGd_b1, rs_s, rs_n, upd_s, upd_n, ite_t, ite_f, if_true, if_false, ne_eq, not_true, not_false_iff, nI_1, nI_add, nI_mul, nI_sub, nIc, nI_leI, nI_ltI, nI_eq, nI_m1, nI_m1', nI_lt0, nI_m2, ↓lq_m1, ↓lq_m2, ↓lq_m8, ↓lq_mm, lq_0, lq_1, lq_2, lq_3, lq_4, lq_5, lq_6, lq_7, lq_8, lq_9, lq_10, lq_12, lq_16, lq_20, lq_24, lq_31, lq_32, lq_40, lq_41, lq_42, lq_43, lq_45, lq_38, lq_48, lq_50, lq_57, lq_59, lq_60, lq_61, lq_63, lq_94, lq_96, lq_97, lq_100, lq_102, lq_104, lq_105, lq_120, lq_122, lq_123, lq_124, lq_125, lq_126, lq_255, lq_257, lq_600, lq_1000, lq_4096, lq_65535, lq_1000000]) (by simp (disch := omega) only [zLet_e, zJn_e, zB1_s, zB2_s, zB3_s, zB4_s, zB5_s, zB6_s, zB7_s, zGd_in, zGd_b0, zGd_b1, rs_s, rs_n, upd_s, upd_n, ite_t, ite_f, if_true, if_false, ne_eq, not_true, not_false_iff, nI_1, nI_add, nI_mul, nI_sub, nIc, nI_leI, nI_ltI, nI_eq, nI_m1, nI_m1', nI_lt0, nI_m2, ↓lq_m1, ↓lq_m2, ↓lq_m8, ↓lq_mm, lq_0, lq_1, lq_2, lq_3, lq_4, lq_5, lq_6, lq_7, lq_8, lq_9, lq_10, lq_12, lq_16, lq_20, lq_24, lq_31, lq_32, lq_40, lq_41, lq_42, lq_43, lq_45, lq_38, lq_48, lq_50, lq_57, lq_59, lq_60, lq_61, lq_63, lq_94, lq_96, lq_97, lq_100, lq_102, lq_104, lq_105, lq_120, lq_122, lq_123, lq_124, lq_125, lq_126, lq_255, lq_257, lq_600, lq_1000, lq_4096, lq_65535, lq_1000000]) hs (by omega) (by omega)
      rw [← q1, ← hR] at S
      refine Sm_b4 S ?_ ?_
      · intro mL2 mS2 mW2 ⟨i', s', nx', k', oR', oT', oS', ns', op', e1, e2, e3, e4, e5, e6, e7, e8, e9, e10, e11, e12, e13, e14, e15, e16, e17⟩
        have e2' := e2
        obtain ⟨b0', ⟨t2', t3', t4', t5', t6', t7', t8', t9'⟩, hr', hi', o10'⟩ := e2
        have hk' := e3.2.2.2.1
        have his' := is10 (c := 41) e4 hk' (by omega) (by omega)
        show Sm B R (pC NN mB (nI t) mL2 mS2 mW2) _
        by_cases k41 : k' = 41
        · subst k41
          rw [if_pos rfl] at his'
          obtain ⟨mL3, m1, m2, m3⟩ := adv10 (mB := mB) (NN := NN) he hB hM (by omega) e4 (by omega) e3
          have hm' := meet_c (NN := NN) (oS := oS') t4' e7 e8 (by omega)
          have m20 : mL3 20 0 = nI (D + 1) := by rw [m3]; exact e5
          rw [pC_ok his' m1 m20]
          have hsn' := e3.2.2.1 (by omega)
          have fr8 : oR' 8 D = nI c := by rw [(e9 D (by omega)).1]; simp (disch := omega) only [zLet_e, zJn_e, zB1_s, zB2_s, zB3_s, zB4_s, zB5_s, zB6_s, zB7_s, zGd_in, zGd_b0, zGd_b1, rs_s, rs_n, upd_s, upd_n, ite_t, ite_f, if_true, if_false, ne_eq, not_true, not_false_iff, nI_1, nI_add, nI_mul, nI_sub, nIc, nI_leI, nI_ltI, nI_eq, nI_m1, nI_m1', nI_lt0, nI_m2, ↓lq_m1, ↓lq_m2, ↓lq_m8, ↓lq_mm, lq_0, lq_1, lq_2, lq_3, lq_4, lq_5, lq_6, lq_7, lq_8, lq_9, lq_10, lq_12, lq_16, lq_20, lq_24, lq_31, lq_32, lq_40, lq_41, lq_42, lq_43, lq_45, lq_38, lq_48, lq_50, lq_57, lq_59, lq_60, lq_61, lq_63, lq_94, lq_96, lq_97, lq_100, lq_102, lq_104, lq_105, lq_120, lq_122, lq_123, lq_124, lq_125, lq_126, lq_255, lq_257, lq_600, lq_1000, lq_4096, lq_65535, lq_1000000, h8]
          have fr9 : oR' 9 D = nI t := by rw [(e9 D (by omega)).2]; simp (disch := omega) only [zLet_e, zJn_e, zB1_s, zB2_s, zB3_s, zB4_s, zB5_s, zB6_s, zB7_s, zGd_in, zGd_b0, zGd_b1, rs_s, rs_n, upd_s, upd_n, ite_t, ite_f, if_true, if_false, ne_eq, not_true, not_false_iff, nI_1, nI_add, nI_mul, nI_sub, nIc, nI_leI, nI_ltI, nI_eq, nI_m1, nI_m1', nI_lt0, nI_m2, ↓lq_m1, ↓lq_m2, ↓lq_m8, ↓lq_mm, lq_0, lq_1, lq_2, lq_3, lq_4, lq_5, lq_6, lq_7, lq_8, lq_9, lq_10, lq_12, lq_16, lq_20, lq_24, lq_31, lq_32, lq_40, lq_41, lq_42, lq_43, lq_45, lq_38, lq_48, lq_50, lq_57, lq_59, lq_60, lq_61, lq_63, lq_94, lq_96, lq_97, lq_100, lq_102, lq_104, lq_105, lq_120, lq_122, lq_123, lq_124, lq_125, lq_126, lq_255, lq_257, lq_600, lq_1000, lq_4096, lq_65535, lq_1000000, h9]
          obtain ⟨mS3, x1, x2⟩ := part_fin (mL' := rs mL3 20 (fun _ => nI D)) (h := h) (q := q) (t := t) (s0 := s0) hN he hB e1 e2' e3 (by omega) hm' (by simp (disch := omega) only [zLet_e, zJn_e, zB1_s, zB2_s, zB3_s, zB4_s, zB5_s, zB6_s, zB7_s, zGd_in, zGd_b0, zGd_b1, rs_s, rs_n, upd_s, upd_n, ite_t, ite_f, if_true, if_false, ne_eq, not_true, not_false_iff, nI_1, nI_add, nI_mul, nI_sub, nIc, nI_leI, nI_ltI, nI_eq, nI_m1, nI_m1', nI_lt0, nI_m2, ↓lq_m1, ↓lq_m2, ↓lq_m8, ↓lq_mm, lq_0, lq_1, lq_2, lq_3, lq_4, lq_5, lq_6, lq_7, lq_8, lq_9, lq_10, lq_12, lq_16, lq_20, lq_24, lq_31, lq_32, lq_40, lq_41, lq_42, lq_43, lq_45, lq_38, lq_48, lq_50, lq_57, lq_59, lq_60, lq_61, lq_63, lq_94, lq_96, lq_97, lq_100, lq_102, lq_104, lq_105, lq_120, lq_122, lq_123, lq_124, lq_125, lq_126, lq_255, lq_257, lq_600, lq_1000, lq_4096, lq_65535, lq_1000000]) hD (by simp (disch := omega) only [zLet_e, zJn_e, zB1_s, zB2_s, zB3_s, zB4_s, zB5_s, zB6_s, zB7_s, zGd_in, zGd_b0, zGd_b1, rs_s, rs_n, upd_s, upd_n, ite_t, ite_f, if_true, if_false, ne_eq, not_true, not_false_iff, nI_1, nI_add, nI_mul, nI_sub, nIc, nI_leI, nI_ltI, nI_eq, nI_m1, nI_m1', nI_lt0, nI_m2, ↓lq_m1, ↓lq_m2, ↓lq_m8, ↓lq_mm, lq_0, lq_1, lq_2, lq_3, lq_4, lq_5, lq_6, lq_7, lq_8, lq_9, lq_10, lq_12, lq_16, lq_20, lq_24, lq_31, lq_32, lq_40, lq_41, lq_42, lq_43, lq_45, lq_38, lq_48, lq_50, lq_57, lq_59, lq_60, lq_61, lq_63, lq_94, lq_96, lq_97, lq_100, lq_102, lq_104, lq_105, lq_120, lq_122, lq_123, lq_124, lq_125, lq_126, lq_255, lq_257, lq_600, lq_1000, lq_4096, lq_65535, lq_1000000, fr9]) (by simp (disch := omega) only [zLet_e, zJn_e, zB1_s, zB2_s, zB3_s, zB4_s, zB5_s, zB6_s, zB7_s, zGd_in, zGd_b0, zGd_b1, rs_s, rs_n, upd_s, upd_n, ite_t, ite_f, if_true, if_false, ne_eq, not_true, not_false_iff, nI_1, nI_add, nI_mul, nI_sub, nIc, nI_leI, nI_ltI, nI_eq, nI_m1, nI_m1', nI_lt0, nI_m2, ↓lq_m1, ↓lq_m2, ↓lq_m8, ↓lq_mm, lq_0, lq_1, lq_2, lq_3, lq_4, lq_5, lq_6, lq_7, lq_8, lq_9, lq_10, lq_12, lq_16, lq_20, lq_24, lq_31, lq_32, lq_40, lq_41, lq_42, lq_43, lq_45, lq_38, lq_48, lq_50, lq_57, lq_59, lq_60, lq_61, lq_63, lq_94, lq_96, lq_97, lq_100, lq_102, lq_104, lq_105, lq_120, lq_122, lq_123, lq_124, lq_125, lq_126, lq_255, lq_257, lq_600, lq_1000, lq_4096, lq_65535, lq_1000000, fr8]) hcc (by omega) (fun j hj => by
              have a1 := e9 j (by omega)
              have a2 := hfr j hj
              simp (disch := omega) only [zLet_e, zJn_e, zB1_s, zB2_s, zB3_s, zB4_s, zB5_s, zB6_s, zB7_s, zGd_in, zGd_b0, zGd_b1, rs_s, rs_n, upd_s, upd_n, ite_t, ite_f, if_true, if_false, ne_eq, not_true, not_false_iff, nI_1, nI_add, nI_mul, nI_sub, nIc, nI_leI, nI_ltI, nI_eq, nI_m1, nI_m1', nI_lt0, nI_m2, ↓lq_m1, ↓lq_m2, ↓lq_m8, ↓lq_mm, lq_0, lq_1, lq_2, lq_3, lq_4, lq_5, lq_6, lq_7, lq_8, lq_9, lq_10, lq_12, lq_16, lq_20, lq_24, lq_31, lq_32, lq_40, lq_41, lq_42, lq_43, lq_45, lq_38, lq_48, lq_50, lq_57, lq_59, lq_60, lq_61, lq_63, lq_94, lq_96, lq_97, lq_100, lq_102, lq_104, lq_105, lq_120, lq_122, lq_123, lq_124, lq_125, lq_126, lq_255, lq_257, lq_600, lq_1000, lq_4096, lq_65535, lq_1000000, a1]
              exact a2) (by rw [rs_n _ _ (by omega), e10]; simp (disch := omega) only [zLet_e, zJn_e, zB1_s, zB2_s, zB3_s, zB4_s, zB5_s, zB6_s, zB7_s, zGd_in, zGd_b0, zGd_b1, rs_s, rs_n, upd_s, upd_n, ite_t, ite_f, if_true, if_false, ne_eq, not_true, not_false_iff, nI_1, nI_add, nI_mul, nI_sub, nIc, nI_leI, nI_ltI, nI_eq, nI_m1, nI_m1', nI_lt0, nI_m2, ↓lq_m1, ↓lq_m2, ↓lq_m8, ↓lq_mm, lq_0, lq_1, lq_2, lq_3, lq_4, lq_5, lq_6, lq_7, lq_8, lq_9, lq_10, lq_12, lq_16, lq_20, lq_24, lq_31, lq_32, lq_40, lq_41, lq_42, lq_43, lq_45, lq_38, lq_48, lq_50, lq_57, lq_59, lq_60, lq_61, lq_63, lq_94, lq_96, lq_97, lq_100, lq_102, lq_104, lq_105, lq_120, lq_122, lq_123, lq_124, lq_125, lq_126, lq_255, lq_257, lq_600, lq_1000, lq_4096, lq_65535, lq_1000000, h5]) (by rw [rs_n _ _ (by omega), e11]; simp (disch := omega) only [zLet_e, zJn_e, zB1_s, zB2_s, zB3_s, zB4_s, zB5_s, zB6_s, zB7_s, zGd_in, zGd_b0, zGd_b1, rs_s, rs_n, upd_s, upd_n, ite_t, ite_f, if_true, if_false, ne_eq, not_true, not_false_iff, nI_1, nI_add, nI_mul, nI_sub, nIc, nI_leI, nI_ltI, nI_eq, nI_m1, nI_m1', nI_lt0, nI_m2, ↓lq_m1, ↓lq_m2, ↓lq_m8, ↓lq_mm, lq_0, lq_1, lq_2, lq_3, lq_4, lq_5, lq_6, lq_7, lq_8, lq_9, lq_10, lq_12, lq_16, lq_20, lq_24, lq_31, lq_32, lq_40, lq_41, lq_42, lq_43, lq_45, lq_38, lq_48, lq_50, lq_57, lq_59, lq_60, lq_61, lq_63, lq_94, lq_96, lq_97, lq_100, lq_102, lq_104, lq_105, lq_120, lq_122, lq_123, lq_124, lq_125, lq_126, lq_255, lq_257, lq_600, lq_1000, lq_4096, lq_65535, lq_1000000, h6]) e12 (FO_t hfo e13 hns) (FM_t hfm e14 hns) (by omega) (by omega) h10 (by omega) (T10_20 m2 _) (by simp (disch := omega) only [zLet_e, zJn_e, zB1_s, zB2_s, zB3_s, zB4_s, zB5_s, zB6_s, zB7_s, zGd_in, zGd_b0, zGd_b1, rs_s, rs_n, upd_s, upd_n, ite_t, ite_f, if_true, if_false, ne_eq, not_true, not_false_iff, nI_1, nI_add, nI_mul, nI_sub, nIc, nI_leI, nI_ltI, nI_eq, nI_m1, nI_m1', nI_lt0, nI_m2, ↓lq_m1, ↓lq_m2, ↓lq_m8, ↓lq_mm, lq_0, lq_1, lq_2, lq_3, lq_4, lq_5, lq_6, lq_7, lq_8, lq_9, lq_10, lq_12, lq_16, lq_20, lq_24, lq_31, lq_32, lq_40, lq_41, lq_42, lq_43, lq_45, lq_38, lq_48, lq_50, lq_57, lq_59, lq_60, lq_61, lq_63, lq_94, lq_96, lq_97, lq_100, lq_102, lq_104, lq_105, lq_120, lq_122, lq_123, lq_124, lq_125, lq_126, lq_255, lq_257, lq_600, lq_1000, lq_4096, lq_65535, lq_1000000])
          rw [x1]
          exact Sm_ok x2
        · rw [if_neg k41] at his'
          rw [pC_no his']
          refine Sm_st e4.2.1 ?_
          rw [e1]
          by_cases k0 : k' = 0
          · subst k0
            exact cl_end hN he e2' e3 (by omega) e7 (Or.inl (by omega))
          · exact cl_bad hN he e2' e3 k0 (v := 1) (meet_cb t4' hk' e6 k41 e7 e8 (by omega)) (by omega) (by omega) o10'
      · intro a b d; exact if_pos rfl
  · rw [if_neg k40] at his
    by_cases k3 : k = 3
    · subst k3
      have l15' : mL 15 0 = nI 3 := l15
      have hv := ht.2.2.2.2.2.2 rfl
      have l18' := l18 rfl
      have t7' := t7 rfl
      have hsn := ht.2.2.1 (by omega)
      generalize dval B s (nx - s) = dv at *
      by_cases hd : dv ≤ 65535
      · obtain ⟨oS1, mS1, p1, p2, p3, p4, p5⟩ := addPut (a := nI 3) (b := nI 10) (v := nI dv) (h' := h + 1) hs (by omega) (Or.inr (Or.inl ⟨rfl, rfl⟩)) (fun h => by rw [nI_eq (by omega) (by omega)] at h; omega) (Or.inl ⟨Or.inr rfl, rfl⟩) (by omega)
        obtain ⟨mL1, n1, n2, n3⟩ := adv10 (mB := mB) (NN := NN) he hB hM (by omega) hl' (by omega) ht
        have hm := meet_w (NN := NN) t4 h4 t7' hd p1
        rw [pT_w his l15' l18' hd p2 n1]
        obtain ⟨mS3, x1, x2⟩ := part_fin (mL' := mL1) (h := h) (q := q) (t := t) (s0 := s0) hN he hB hR hc' ht (by omega) hm h7 hD h9 h8 hcc (by omega) hfr h5 h6 p3 (FO_t hfo p4 hns) (FM_t hfm p5 hns) (by omega) (by omega) h10 (by omega) n2 (by rw [n3]; exact h20)
        rw [x1]
        exact Sm_ok x2
      · rw [pT_wb his l15' l18' hd hv]
        refine Sm_st l16 ?_
        rw [hR]
        exact cl_bad hN he hc' ht (by omega) (v := 4) (meet_wb t4 h4 t7' hd hv) (by omega) (by omega) o10
    · have l15' : ¬ mL 15 0 = nI 3 := by rw [l15]; exact fun h => k3 (srt3.mp h)
      have hname := nameHere10 (mW := mW) hM he hl' ht
      by_cases hok : k = 2 ∧ nx = s + 1 ∧ B s < 105
      · rw [if_pos hok] at hname
        have t8' : oT 8 0 = nI (B s - 97) := by rw [t8]; unfold nmI; rw [if_pos hok]
        obtain ⟨ok1, ok2, ok3⟩ := hok
        subst ok1
        have hbs := isLt_b ((ht.2.2.2.2.2.1 rfl).2 s (by omega) (by omega))
        obtain ⟨oS1, mS1, p1, p2, p3, p4, p5⟩ := addPut (a := nI 4) (b := nI 9) (v := nI (B s - 97)) (h' := h + 1) hs (by omega) (Or.inl ⟨rfl, rfl⟩) (fun _ => ⟨B s - 97, by omega, rfl⟩) (Or.inl ⟨Or.inl rfl, rfl⟩) (by omega)
        obtain ⟨mL1, n1, n2, n3⟩ := adv10 (mB := mB) (NN := NN) he hB hM (by omega) hl' (by omega) ht
        have hm := meet_n (NN := NN) t4 h4 t8' (by omega) p1
        rw [pT_n his l15' hname p2 n1]
        obtain ⟨mS3, x1, x2⟩ := part_fin (mL' := mL1) (h := h) (q := q) (t := t) (s0 := s0) hN he hB hR hc' ht (by omega) hm h7 hD h9 h8 hcc (by omega) hfr h5 h6 p3 (FO_t hfo p4 hns) (FM_t hfm p5 hns) (by omega) (by omega) h10 (by omega) n2 (by rw [n3]; exact h20)
        rw [x1]
        exact Sm_ok x2
      · rw [if_neg hok] at hname
        rw [pT_nb his l15' hname]
        have t8' : oT 8 0 = nM 1 := by rw [t8]; unfold nmI; rw [if_neg hok]
        by_cases k2 : k = 2
        · subst k2
          refine Sm_st (v := 2) l16 ?_
          rw [hR]
          exact cl_bad hN he hc' ht (by omega) (meet_word t4 h4 t8') (by omega) (by omega) o10
        · rw [if_neg k2]
          refine Sm_st (v := 1) l16 ?_
          rw [hR]
          by_cases k0 : k = 0
          · subst k0
            exact cl_end hN he hc' ht (by omega) h4 (Or.inl (by omega))
          · exact cl_bad hN he hc' ht k0 (meet_bad0 t4 h4 hk k3 k40 k126 k2) (by omega) (by omega) o10
