/-! own part (pure): a LINE, whole -/
theorem rl_no {NN : Nat} {mB mL mS mW : Rc} {p : Int32} (l15 : ¬ mL 15 0 = nI 2) : fX10_readLine NN mB mL mS mW p = some (nI 1, mL, mS, rs (rs mW 6 (fun _ => nI 1)) 7 (fun _ => mL 16 0)) := by
  rw [readLine_e]
  rw [if_neg (show ¬ mL 15 0 = (2 : Int32) from l15)]
  simp (disch := omega) only [zLet_e, zJn_e, zB1_s, zB2_s, zB3_s, zB4_s, zB5_s, zB6_s, zB7_s, zGd_in, zGd_b0, zGd_b1, rs_s, rs_n, upd_s, upd_n, ite_t, ite_f, if_true, if_false, ne_eq, not_true, not_false_iff, nI_1, nI_add, nI_mul, nI_sub, nIc, nI_leI, nI_ltI, nI_eq, nI_m1, nI_m1', nI_lt0, nI_m2, ↓lq_m1, ↓lq_m2, ↓lq_m8, ↓lq_mm, lq_0, lq_1, lq_2, lq_3, lq_4, lq_5, lq_6, lq_7, lq_8, lq_9, lq_10, lq_12, lq_16, lq_20, lq_24, lq_31, lq_32, lq_40, lq_41, lq_42, lq_43, lq_45, lq_38, lq_48, lq_50, lq_57, lq_59, lq_60, lq_61, lq_63, lq_94, lq_96, lq_97, lq_100, lq_102, lq_104, lq_105, lq_120, lq_122, lq_123, lq_124, lq_125, lq_126, lq_255, lq_257, lq_600, lq_1000, lq_4096, lq_65535, lq_1000000, stop_e]
theorem rl_nn {NN : Nat} {mB mL mS mW mW1 : Rc} {p v : Int32} (l15 : mL 15 0 = nI 2) (hi : fX10_isIf mB mL = some (nI 0)) (hn : fX10_nameHere mB mL mW = some (nI 1, v, mW1)) : fX10_readLine NN mB mL mS mW p = some (nI 1, mL, mS, mW1) := by
  rw [readLine_e]
  simp (disch := omega) only [zLet_e, zJn_e, zB1_s, zB2_s, zB3_s, zB4_s, zB5_s, zB6_s, zB7_s, zGd_in, zGd_b0, zGd_b1, rs_s, rs_n, upd_s, upd_n, ite_t, ite_f, if_true, if_false, ne_eq, not_true, not_false_iff, nI_1, nI_add, nI_mul, nI_sub, nIc, nI_leI, nI_ltI, nI_eq, nI_m1, nI_m1', nI_lt0, nI_m2, ↓lq_m1, ↓lq_m2, ↓lq_m8, ↓lq_mm, lq_0, lq_1, lq_2, lq_3, lq_4, lq_5, lq_6, lq_7, lq_8, lq_9, lq_10, lq_12, lq_16, lq_20, lq_24, lq_31, lq_32, lq_40, lq_41, lq_42, lq_43, lq_45, lq_38, lq_48, lq_50, lq_57, lq_59, lq_60, lq_61, lq_63, lq_94, lq_96, lq_97, lq_100, lq_102, lq_104, lq_105, lq_120, lq_122, lq_123, lq_124, lq_125, lq_126, lq_255, lq_257, lq_600, lq_1000, lq_4096, lq_65535, lq_1000000, l15, hi, hn]
theorem rl_full {NN nb : Nat} {mB mL mS mW : Rc} {v f : Int32} (l15 : mL 15 0 = nI 2) (hb : nb < 12) (hi : (fX10_isIf mB mL = some (nI 0) ∧ fX10_nameHere mB mL mW = some (nI 0, v, mW)) ∨ fX10_isIf mB mL = some (nI 1)) (m5 : mS 5 nb = nI 8) : fX10_readLine NN mB mL mS mW (nI nb) = some (nI 1, mL, mS, rs (rs mW 6 (fun _ => nI 5)) 7 (fun _ => mL 16 0)) := by
  rw [readLine_e]
  rcases hi with ⟨a, b⟩ | a
  · simp (disch := omega) only [zLet_e, zJn_e, zB1_s, zB2_s, zB3_s, zB4_s, zB5_s, zB6_s, zB7_s, zGd_in, zGd_b0, zGd_b1, rs_s, rs_n, upd_s, upd_n, ite_t, ite_f, if_true, if_false, ne_eq, not_true, not_false_iff, nI_1, nI_add, nI_mul, nI_sub, nIc, nI_leI, nI_ltI, nI_eq, nI_m1, nI_m1', nI_lt0, nI_m2, ↓lq_m1, ↓lq_m2, ↓lq_m8, ↓lq_mm, lq_0, lq_1, lq_2, lq_3, lq_4, lq_5, lq_6, lq_7, lq_8, lq_9, lq_10, lq_12, lq_16, lq_20, lq_24, lq_31, lq_32, lq_40, lq_41, lq_42, lq_43, lq_45, lq_38, lq_48, lq_50, lq_57, lq_59, lq_60, lq_61, lq_63, lq_94, lq_96, lq_97, lq_100, lq_102, lq_104, lq_105, lq_120, lq_122, lq_123, lq_124, lq_125, lq_126, lq_255, lq_257, lq_600, lq_1000, lq_4096, lq_65535, lq_1000000, l15, a, b, m5, stop_e]
  · simp (disch := omega) only [zLet_e, zJn_e, zB1_s, zB2_s, zB3_s, zB4_s, zB5_s, zB6_s, zB7_s, zGd_in, zGd_b0, zGd_b1, rs_s, rs_n, upd_s, upd_n, ite_t, ite_f, if_true, if_false, ne_eq, not_true, not_false_iff, nI_1, nI_add, nI_mul, nI_sub, nIc, nI_leI, nI_ltI, nI_eq, nI_m1, nI_m1', nI_lt0, nI_m2, ↓lq_m1, ↓lq_m2, ↓lq_m8, ↓lq_mm, lq_0, lq_1, lq_2, lq_3, lq_4, lq_5, lq_6, lq_7, lq_8, lq_9, lq_10, lq_12, lq_16, lq_20, lq_24, lq_31, lq_32, lq_40, lq_41, lq_42, lq_43, lq_45, lq_38, lq_48, lq_50, lq_57, lq_59, lq_60, lq_61, lq_63, lq_94, lq_96, lq_97, lq_100, lq_102, lq_104, lq_105, lq_120, lq_122, lq_123, lq_124, lq_125, lq_126, lq_255, lq_257, lq_600, lq_1000, lq_4096, lq_65535, lq_1000000, l15, a, m5, stop_e]
theorem rl_n {NN nb j : Nat} {mB mL mS mW : Rc} {v : Int32} (l15 : mL 15 0 = nI 2) (hb : nb < 12) (hj : j < 8) (hi : fX10_isIf mB mL = some (nI 0)) (hn : fX10_nameHere mB mL mW = some (nI 0, v, mW)) (m5 : mS 5 nb = nI j) : fX10_readLine NN mB mL mS mW (nI nb) = lNm NN mB (nI nb) (nI (8 * nb + j)) mL (rs mS 7 (upd (mS 7) (8 * nb + j) (nM 1))) mW := by
  rw [readLine_e]
  simp (disch := omega) only [zLet_e, zJn_e, zB1_s, zB2_s, zB3_s, zB4_s, zB5_s, zB6_s, zB7_s, zGd_in, zGd_b0, zGd_b1, rs_s, rs_n, upd_s, upd_n, ite_t, ite_f, if_true, if_false, ne_eq, not_true, not_false_iff, nI_1, nI_add, nI_mul, nI_sub, nIc, nI_leI, nI_ltI, nI_eq, nI_m1, nI_m1', nI_lt0, nI_m2, ↓lq_m1, ↓lq_m2, ↓lq_m8, ↓lq_mm, lq_0, lq_1, lq_2, lq_3, lq_4, lq_5, lq_6, lq_7, lq_8, lq_9, lq_10, lq_12, lq_16, lq_20, lq_24, lq_31, lq_32, lq_40, lq_41, lq_42, lq_43, lq_45, lq_38, lq_48, lq_50, lq_57, lq_59, lq_60, lq_61, lq_63, lq_94, lq_96, lq_97, lq_100, lq_102, lq_104, lq_105, lq_120, lq_122, lq_123, lq_124, lq_125, lq_126, lq_255, lq_257, lq_600, lq_1000, lq_4096, lq_65535, lq_1000000, l15, hi, hn, m5]
theorem rl_i5 {NN nb j : Nat} {mB mL mS mW : Rc} (l15 : mL 15 0 = nI 2) (hb : nb < 12) (hj : j < 8) (hi : fX10_isIf mB mL = some (nI 1)) (m5 : mS 5 nb = nI j) (s3 : mS 2 0 = nI 120) : fX10_readLine NN mB mL mS mW (nI nb) = some (nI 1, mL, rs mS 7 (upd (mS 7) (8 * nb + j) (nM 1)), rs (rs mW 6 (fun _ => nI 5)) 7 (fun _ => mL 16 0)) := by
  have h := rOp_no (mL := mL) (mW := mW) (mS := rs mS 7 (upd (mS 7) (8 * nb + j) (nM 1))) s3
  rw [readLine_e]
  simp (disch := omega) only [zLet_e, zJn_e, zB1_s, zB2_s, zB3_s, zB4_s, zB5_s, zB6_s, zB7_s, zGd_in, zGd_b0, zGd_b1, rs_s, rs_n, upd_s, upd_n, ite_t, ite_f, if_true, if_false, ne_eq, not_true, not_false_iff, nI_1, nI_add, nI_mul, nI_sub, nIc, nI_leI, nI_ltI, nI_eq, nI_m1, nI_m1', nI_lt0, nI_m2, ↓lq_m1, ↓lq_m2, ↓lq_m8, ↓lq_mm, lq_0, lq_1, lq_2, lq_3, lq_4, lq_5, lq_6, lq_7, lq_8, lq_9, lq_10, lq_12, lq_16, lq_20, lq_24, lq_31, lq_32, lq_40, lq_41, lq_42, lq_43, lq_45, lq_38, lq_48, lq_50, lq_57, lq_59, lq_60, lq_61, lq_63, lq_94, lq_96, lq_97, lq_100, lq_102, lq_104, lq_105, lq_120, lq_122, lq_123, lq_124, lq_125, lq_126, lq_255, lq_257, lq_600, lq_1000, lq_4096, lq_65535, lq_1000000, l15, hi, m5, h]
theorem rl_ib {NN nb j op : Nat} {mB mL mS mW mL1 mW1 : Rc} {v : Int32} (l15 : mL 15 0 = nI 2) (hb : nb < 12) (hj : j < 8) (hi : fX10_isIf mB mL = some (nI 1)) (m5 : mS 5 nb = nI j) (s3 : mS 2 0 = nI op) (ho : op < 120) (n1 : fX10_next NN mB mL = some mL1) (hn : fX10_nameHere mB mL1 mW = some (nI 1, v, mW1)) : fX10_readLine NN mB mL mS mW (nI nb) = some (nI 1, mL1, rs (rs mS 7 (upd (mS 7) (8 * nb + j) (nM 1))) 2 (fun _ => nI (op + 1)), mW1) := by
  have h := rOp_ok (mL := mL) (mW := mW) (mS := rs mS 7 (upd (mS 7) (8 * nb + j) (nM 1))) s3 ho
  rw [readLine_e]
  simp (disch := omega) only [zLet_e, zJn_e, zB1_s, zB2_s, zB3_s, zB4_s, zB5_s, zB6_s, zB7_s, zGd_in, zGd_b0, zGd_b1, rs_s, rs_n, upd_s, upd_n, ite_t, ite_f, if_true, if_false, ne_eq, not_true, not_false_iff, nI_1, nI_add, nI_mul, nI_sub, nIc, nI_leI, nI_ltI, nI_eq, nI_m1, nI_m1', nI_lt0, nI_m2, ↓lq_m1, ↓lq_m2, ↓lq_m8, ↓lq_mm, lq_0, lq_1, lq_2, lq_3, lq_4, lq_5, lq_6, lq_7, lq_8, lq_9, lq_10, lq_12, lq_16, lq_20, lq_24, lq_31, lq_32, lq_40, lq_41, lq_42, lq_43, lq_45, lq_38, lq_48, lq_50, lq_57, lq_59, lq_60, lq_61, lq_63, lq_94, lq_96, lq_97, lq_100, lq_102, lq_104, lq_105, lq_120, lq_122, lq_123, lq_124, lq_125, lq_126, lq_255, lq_257, lq_600, lq_1000, lq_4096, lq_65535, lq_1000000, l15, hi, m5, h, n1, hn]
theorem rl_i {NN nb j op : Nat} {mB mL mS mW mL1 mL2 : Rc} {v : Int32} (l15 : mL 15 0 = nI 2) (hb : nb < 12) (hj : j < 8) (hi : fX10_isIf mB mL = some (nI 1)) (m5 : mS 5 nb = nI j) (s3 : mS 2 0 = nI op) (ho : op < 120) (n1 : fX10_next NN mB mL = some mL1) (hn : fX10_nameHere mB mL1 mW = some (nI 0, v, mW)) (n2 : fX10_next NN mB mL1 = some mL2) : fX10_readLine NN mB mL mS mW (nI nb) = lNm NN mB (nI nb) (nI (8 * nb + j)) mL2 (rs (rs (rs mS 7 (upd (mS 7) (8 * nb + j) (nM 1))) 2 (fun _ => nI (op + 1))) 7 (upd (upd (mS 7) (8 * nb + j) (nM 1)) (8 * nb + j) v)) mW := by
  have h := rOp_ok (mL := mL) (mW := mW) (mS := rs mS 7 (upd (mS 7) (8 * nb + j) (nM 1))) s3 ho
  rw [readLine_e]
  simp (disch := omega) only [zLet_e, zJn_e, zB1_s, zB2_s, zB3_s, zB4_s, zB5_s, zB6_s, zB7_s, zGd_in, zGd_b0, zGd_b1, rs_s, rs_n, upd_s, upd_n, ite_t, ite_f, if_true, if_false, ne_eq, not_true, not_false_iff, nI_1, nI_add, nI_mul, nI_sub, nIc, nI_leI, nI_ltI, nI_eq, nI_m1, nI_m1', nI_lt0, nI_m2, ↓lq_m1, ↓lq_m2, ↓lq_m8, ↓lq_mm, lq_0, lq_1, lq_2, lq_3, lq_4, lq_5, lq_6, lq_7, lq_8, lq_9, lq_10, lq_12, lq_16, lq_20, lq_24, lq_31, lq_32, lq_40, lq_41, lq_42, lq_43, lq_45, lq_38, lq_48, lq_50, lq_57, lq_59, lq_60, lq_61, lq_63, lq_94, lq_96, lq_97, lq_100, lq_102, lq_104, lq_105, lq_120, lq_122, lq_123, lq_124, lq_125, lq_126, lq_255, lq_257, lq_600, lq_1000, lq_4096, lq_65535, lq_1000000, l15, hi, m5, h, n1, hn, n2]
theorem nm_ok {B : Nat → Nat} {e i s nx k : Nat} {oR oT oS : Rc} (hc : CB B e i s nx k oR oT oS) (ht : Tk B e s nx k) (h : k = 2 ∧ nx = s + 1 ∧ B s < 105) : oT 4 0 = nI 2 ∧ oT 8 0 = nI (B s - 97) ∧ B s - 97 < 8 := by
  obtain ⟨b0, ⟨t2, t3, t4, t5, t6, t7, t8, t9⟩, hr, hi, o10⟩ := hc
  have hb := isLt_b ((ht.2.2.2.2.2.1 h.1).2 s (by omega) (by omega))
  exact ⟨by rw [t4, h.1], t8.trans (if_pos h), by omega⟩
theorem nm_no {B : Nat → Nat} {e i s nx k : Nat} {oR oT oS : Rc} (hc : CB B e i s nx k oR oT oS) (h : ¬ (k = 2 ∧ nx = s + 1 ∧ B s < 105)) : oT 8 0 = nM 1 := by
  obtain ⟨b0, ⟨t2, t3, t4, t5, t6, t7, t8, t9⟩, hr, hi, o10⟩ := hc
  exact t8.trans (if_neg h)
theorem if21 {k : Nat} : (if k = 2 then nI 2 else nI 1) = nI (if k = 2 then 2 else 1) := by split <;> rfl
set_option maxHeartbeats 8000000 in
theorem nameS5 {B : Nat → Nat} {e NN : Nat} {mB : Rc} (hN : 1000 ≤ NN) (he : e ≤ 600) (hB : ∀ i, B i < 256) (hM : ∀ i, i < 600 → mB 11 i = sx (B i)) {nb ns op i s nx k s0 : Nat} {ln : Nat → Nat} {gv : Int32} {R : Option (Int32 × Rc × Rc × Rc)} {oR oT oS mL mS mW : Rc} (hR : R = CL NN i oR oT oS) (hc : CB B e i s nx k oR oT oS) (ht : Tk B e s nx k) (hl : T10 B e s nx k mL) (h20 : mL 20 0 = nI 0) (h4 : oR 4 0 = nI 5) (h5 : oR 5 0 = gv) (hg : gv = nM 1 ∨ ∃ a, a < 8 ∧ gv = nI a) (hI : LI nb oS mS ns ln op) (hj : ln nb < 8) (m7 : mS 7 (8 * nb + ln nb) = gv) (hns : ns ≤ s) (hs0 : s0 ≤ s) : Sm B R (lNm NN mB (nI nb) (nI (8 * nb + ln nb)) mL mS mW) (fun mL' mS' _ => LPost B e NN nb s0 (lnp ln nb) R mL' mS') := by
  have hk := ht.2.2.2.1
  have hname := nameHere10 (mW := mW) hM he hl ht
  have h12 := hI.1
  by_cases hok : k = 2 ∧ nx = s + 1 ∧ B s < 105
  · rw [if_pos hok] at hname
    obtain ⟨t4, t8, v8⟩ := nm_ok hc ht hok
    obtain ⟨mL1, n1, n2, n3⟩ := adv10 (mB := mB) (NN := NN) he hB hM (by omega) hl (by omega) ht
    rw [lN_go hname (by omega) n1]
    obtain ⟨oT1, q1, q2, q3, q4⟩ := cl_ok hN he hB hc ht (by omega) (meet5 (NN := NN) (oS := oS) t4 h4 t8 v8) hc.2.2.2.2
    have hI2 := LI_m hI 8 (by omega) (by omega) (nI (B s - 97))
    exact lineTail hN he hB hM (hR.trans q1) q2 q3 n2 (by rw [n3]; exact h20) (by simp (disch := omega) only [zLet_e, zJn_e, zB1_s, zB2_s, zB3_s, zB4_s, zB5_s, zB6_s, zB7_s, zGd_in, zGd_b0, zGd_b1, rs_s, rs_n, upd_s, upd_n, ite_t, ite_f, if_true, if_false, ne_eq, not_true, not_false_iff]) (by simp (disch := omega) only [zLet_e, zJn_e, zB1_s, zB2_s, zB3_s, zB4_s, zB5_s, zB6_s, zB7_s, zGd_in, zGd_b0, zGd_b1, rs_s, rs_n, upd_s, upd_n, ite_t, ite_f, if_true, if_false, ne_eq, not_true, not_false_iff, h5]) (by simp (disch := omega) only [zLet_e, zJn_e, zB1_s, zB2_s, zB3_s, zB4_s, zB5_s, zB6_s, zB7_s, zGd_in, zGd_b0, zGd_b1, rs_s, rs_n, upd_s, upd_n, ite_t, ite_f, if_true, if_false, ne_eq, not_true, not_false_iff]) v8 hg hI2 hj (by simp (disch := omega) only [zLet_e, zJn_e, zB1_s, zB2_s, zB3_s, zB4_s, zB5_s, zB6_s, zB7_s, zGd_in, zGd_b0, zGd_b1, rs_s, rs_n, upd_s, upd_n, ite_t, ite_f, if_true, if_false, ne_eq, not_true, not_false_iff, m7]) (by simp (disch := omega) only [zLet_e, zJn_e, zB1_s, zB2_s, zB3_s, zB4_s, zB5_s, zB6_s, zB7_s, zGd_in, zGd_b0, zGd_b1, rs_s, rs_n, upd_s, upd_n, ite_t, ite_f, if_true, if_false, ne_eq, not_true, not_false_iff]) (by omega) (by omega)
  · rw [if_neg hok, if21] at hname
    rw [lN_no hname]
    refine Sm_st hl.2.1 ?_
    rw [hR]
    have t8 := nm_no hc hok
    by_cases k0 : k = 0
    · subst k0
      exact cl_end hN he hc ht (by omega) h4 (Or.inl (by omega))
    · have hm := meet5b (NN := NN) (oS := oS) hc.2.1.2.2.1 hk h4 t8
      rw [if21] at hm
      exact cl_bad hN he hc ht k0 hm (by split <;> omega) (by split <;> omega) hc.2.2.2.2
set_option maxHeartbeats 8000000 in
theorem lineS {B : Nat → Nat} {e NN : Nat} {mB : Rc} (hN : 1000 ≤ NN) (he : e ≤ 600) (hB : ∀ i, B i < 256) (hM : ∀ i, i < 600 → mB 11 i = sx (B i)) {nb ns op i s nx k : Nat} {ln : Nat → Nat} {R : Option (Int32 × Rc × Rc × Rc)} {oR oT oS mL mS mW : Rc} (hR : R = CL NN i oR oT oS) (hc : CB B e i s nx k oR oT oS) (ht : Tk B e s nx k) (hl : T10 B e s nx k mL) (h20 : mL 20 0 = nI 0) (h4 : oR 4 0 = nI 3) (hI : LI nb oS mS ns ln op) (hns : ns ≤ s) : Sm B R (fX10_readLine NN mB mL mS mW (nI nb)) (fun mL' mS' _ => LPost B e NN nb s (lnp ln nb) R mL' mS') := by
  have hk := ht.2.2.2.1
  have h12 := hI.1
  have hif := isIf10 hM he hl ht
  have hname := nameHere10 (mW := mW) hM he hl ht
  have t9 : oT 9 0 = ifI B s nx k := hc.2.1.2.2.2.2.2.2.2
  have t4 : oT 4 0 = nI k := hc.2.1.2.2.1
  have bk := hI.2.2.2.1.2.1 nb (by omega)
  have m5 := bk.2.1
  have hfull := full_e (j := ln nb) hI.2.1 h12 bk.2.2.1 bk.2.2.2.1 bk.1
  by_cases k2 : k = 2
  · subst k2
    have l15 : mL 15 0 = nI 2 := hl.2.2.2.1
    by_cases hi : nx = s + 2 ∧ B s = 105 ∧ B (s + 1) = 102
    · have hi1 : ifI B s nx 2 = nI 1 := if_pos ⟨rfl, hi⟩
      rw [hi1] at hif t9
      by_cases j8 : ln nb = 8
      · rw [j8] at m5 hfull
        rw [if_pos rfl] at hfull
        rw [rl_full (v := nI 0) (f := nI 0) l15 h12 (Or.inr hif) m5]
        refine Sm_st hl.2.1 ?_
        rw [hR]
        exact cl_bad hN he hc ht (by omega) (v := 5) (meet3full (v := 0) t4 h4 (Or.inr t9) hfull) (by omega) (by omega) hc.2.2.2.2
      · rw [if_neg j8] at hfull
        have hj : ln nb < 8 := by have := bk.1; omega
        have hS := hI.2.2.2.2.2.2.1
        have s3 := hS.2.2.2.2.1
        have m2 := hS.2.2.2.2.2.1
        have hop := hS.2.2.2.2.2.2
        by_cases ho : op < 120
        · obtain ⟨mL1, n1, n2, n3⟩ := adv10 (mB := mB) (NN := NN) he hB hM (by omega) hl (by omega) ht
          obtain ⟨oT1, q1, q2, q3, q4⟩ := cl_ok hN he hB hc ht (by omega) (meet3i (NN := NN) h4 t9 hfull s3 ho) hc.2.2.2.2
          have hname1 := nameHere10 (mW := mW) hM he n2 q3
          have hk1 := q3.2.2.2.1
          have hI1 := LI_op (LI_m hI 7 (by omega) (by omega) (nM 1)) ho
          generalize hs1 : tkS B e nx = s1 at *
          generalize hx1 : tkN B e s1 = nx1 at *
          generalize hk1' : tkK B e s1 = k1 at *
          by_cases hok : k1 = 2 ∧ nx1 = s1 + 1 ∧ B s1 < 105
          · rw [if_pos hok] at hname1
            obtain ⟨t4', t8', v8⟩ := nm_ok q2 q3 hok
            obtain ⟨mL2, n1', n2', n3'⟩ := adv10 (mB := mB) (NN := NN) he hB hM (by omega) n2 (by omega) q3
            rw [rl_i l15 h12 hj hif m5 m2 ho n1 hname1 n1']
            obtain ⟨oT2, q1', q2', q3', q4'⟩ := cl_ok hN he hB q2 q3 (by omega) (meet4 (NN := NN) t4' (by simp (disch := omega) only [zLet_e, zJn_e, zB1_s, zB2_s, zB3_s, zB4_s, zB5_s, zB6_s, zB7_s, zGd_in, zGd_b0, zGd_b1, rs_s, rs_n, upd_s, upd_n, ite_t, ite_f, if_true, if_false, ne_eq, not_true, not_false_iff]) t8' v8) q2.2.2.2.2
            have hI2 := LI_m hI1 7 (by omega) (by omega) (nI (B s1 - 97))
            have hsn := ht.2.2.1 (by omega)
            refine nameS5 (gv := nI (B s1 - 97)) hN he hB hM (hR.trans (q1.trans q1')) q2' q3' n2' (by rw [n3', n3]; exact h20) (by simp (disch := omega) only [zLet_e, zJn_e, zB1_s, zB2_s, zB3_s, zB4_s, zB5_s, zB6_s, zB7_s, zGd_in, zGd_b0, zGd_b1, rs_s, rs_n, upd_s, upd_n, ite_t, ite_f, if_true, if_false, ne_eq, not_true, not_false_iff]) (by simp (disch := omega) only [zLet_e, zJn_e, zB1_s, zB2_s, zB3_s, zB4_s, zB5_s, zB6_s, zB7_s, zGd_in, zGd_b0, zGd_b1, rs_s, rs_n, upd_s, upd_n, ite_t, ite_f, if_true, if_false, ne_eq, not_true, not_false_iff]) (Or.inr ⟨_, v8, rfl⟩) hI2 hj (by simp (disch := omega) only [zLet_e, zJn_e, zB1_s, zB2_s, zB3_s, zB4_s, zB5_s, zB6_s, zB7_s, zGd_in, zGd_b0, zGd_b1, rs_s, rs_n, upd_s, upd_n, ite_t, ite_f, if_true, if_false, ne_eq, not_true, not_false_iff]) (by omega) (by omega)
          · rw [if_neg hok, if21] at hname1
            rw [rl_ib l15 h12 hj hif m5 m2 ho n1 hname1]
            refine Sm_st n2.2.1 ?_
            rw [hR, q1]
            have t8 := nm_no q2 hok
            by_cases k0 : k1 = 0
            · subst k0
              exact cl_end hN he q2 q3 (a := 4) (by omega) (by simp (disch := omega) only [zLet_e, zJn_e, zB1_s, zB2_s, zB3_s, zB4_s, zB5_s, zB6_s, zB7_s, zGd_in, zGd_b0, zGd_b1, rs_s, rs_n, upd_s, upd_n, ite_t, ite_f, if_true, if_false, ne_eq, not_true, not_false_iff]) (Or.inl (by omega))
            · have hm := meet4b (NN := NN) (oR := rs (rs (rs oR 5 (fun _ => nM 1)) 4 (fun _ => nI 4)) 2 (fun _ => nI 0)) (oS := rs oS 3 (fun _ => nI (op + 1))) q2.2.1.2.2.1 hk1 (by simp (disch := omega) only [zLet_e, zJn_e, zB1_s, zB2_s, zB3_s, zB4_s, zB5_s, zB6_s, zB7_s, zGd_in, zGd_b0, zGd_b1, rs_s, rs_n, upd_s, upd_n, ite_t, ite_f, if_true, if_false, ne_eq, not_true, not_false_iff]) t8
              rw [if21] at hm
              exact cl_bad hN he q2 q3 k0 hm (by split <;> omega) (by split <;> omega) q2.2.2.2.2
        · have : op = 120 := by omega
          subst this
          rw [rl_i5 l15 h12 hj hif m5 m2]
          refine Sm_st hl.2.1 ?_
          rw [hR]
          exact cl_bad hN he hc ht (by omega) (v := 5) (meet3i5 h4 t9 hfull s3) (by omega) (by omega) hc.2.2.2.2
    · have hi1 : ifI B s nx 2 = nI 0 := if_neg (fun h => hi h.2)
      rw [hi1] at hif t9
      by_cases hok : 2 = 2 ∧ nx = s + 1 ∧ B s < 105
      · rw [if_pos hok] at hname
        obtain ⟨t4', t8', v8⟩ := nm_ok hc ht hok
        by_cases j8 : ln nb = 8
        · rw [j8] at m5 hfull
          rw [if_pos rfl] at hfull
          rw [rl_full (f := nI 0) l15 h12 (Or.inl ⟨hif, hname⟩) m5]
          refine Sm_st hl.2.1 ?_
          rw [hR]
          exact cl_bad hN he hc ht (by omega) (v := 5) (meet3full t4 h4 (Or.inl ⟨t8', v8, t9⟩) hfull) (by omega) (by omega) hc.2.2.2.2
        · rw [if_neg j8] at hfull
          have hj : ln nb < 8 := by have := bk.1; omega
          rw [rl_n l15 h12 hj hif hname m5]
          obtain ⟨mL1, n1, n2, n3⟩ := adv10 (mB := mB) (NN := NN) he hB hM (by omega) hl (by omega) ht
          rw [lN_go hname (by omega) n1]
          obtain ⟨oT1, q1, q2, q3, q4⟩ := cl_ok hN he hB hc ht (by omega) (meet3n (NN := NN) t4 h4 t8' v8 t9 hfull) hc.2.2.2.2
          have hI2 := LI_m (LI_m hI 7 (by omega) (by omega) (nM 1)) 8 (by omega) (by omega) (nI (B s - 97))
          exact lineTail (gv := nM 1) hN he hB hM (hR.trans q1) q2 q3 n2 (by rw [n3]; exact h20) (by simp (disch := omega) only [zLet_e, zJn_e, zB1_s, zB2_s, zB3_s, zB4_s, zB5_s, zB6_s, zB7_s, zGd_in, zGd_b0, zGd_b1, rs_s, rs_n, upd_s, upd_n, ite_t, ite_f, if_true, if_false, ne_eq, not_true, not_false_iff]) (by simp (disch := omega) only [zLet_e, zJn_e, zB1_s, zB2_s, zB3_s, zB4_s, zB5_s, zB6_s, zB7_s, zGd_in, zGd_b0, zGd_b1, rs_s, rs_n, upd_s, upd_n, ite_t, ite_f, if_true, if_false, ne_eq, not_true, not_false_iff]) (by simp (disch := omega) only [zLet_e, zJn_e, zB1_s, zB2_s, zB3_s, zB4_s, zB5_s, zB6_s, zB7_s, zGd_in, zGd_b0, zGd_b1, rs_s, rs_n, upd_s, upd_n, ite_t, ite_f, if_true, if_false, ne_eq, not_true, not_false_iff]) v8 (Or.inl rfl) hI2 hj (by simp (disch := omega) only [zLet_e, zJn_e, zB1_s, zB2_s, zB3_s, zB4_s, zB5_s, zB6_s, zB7_s, zGd_in, zGd_b0, zGd_b1, rs_s, rs_n, upd_s, upd_n, ite_t, ite_f, if_true, if_false, ne_eq, not_true, not_false_iff]) (by simp (disch := omega) only [zLet_e, zJn_e, zB1_s, zB2_s, zB3_s, zB4_s, zB5_s, zB6_s, zB7_s, zGd_in, zGd_b0, zGd_b1, rs_s, rs_n, upd_s, upd_n, ite_t, ite_f, if_true, if_false, ne_eq, not_true, not_false_iff]) (by omega) (by omega)
      · rw [if_neg hok] at hname
        rw [rl_nn l15 hif hname]
        refine Sm_st (v := 2) hl.2.1 ?_
        rw [hR]
        have t8 := nm_no hc hok
        exact cl_bad hN he hc ht (by omega) (v := 2) (meet3b t4 hk h4 t8 t9) (by omega) (by omega) hc.2.2.2.2
  · have l15 : ¬ mL 15 0 = nI 2 := by rw [hl.2.2.2.1]; exact fun h => k2 (srt2.mp h)
    have hi1 : ifI B s nx k = nI 0 := if_neg (by omega)
    rw [hi1] at t9
    rw [rl_no l15]
    refine Sm_st hl.2.1 ?_
    rw [hR]
    by_cases k0 : k = 0
    · subst k0
      exact cl_end hN he hc ht (by omega) h4 (Or.inl (by omega))
    · have hm := meet3b (NN := NN) (oS := oS) t4 hk h4 (nm_no hc (by omega)) t9
      rw [if_neg k2] at hm
      exact cl_bad hN he hc ht k0 (v := 1) hm (by omega) (by omega) hc.2.2.2.2
