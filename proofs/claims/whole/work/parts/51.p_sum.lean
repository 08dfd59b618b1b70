/-! own part (pure): PART and SUM, by depth -/
theorem meet_t {NN D t op : Nat} {oR oT oS : Rc} (t4 : oT 4 0 = nI 126) (h4 : oR 4 0 = nI 7) (h7 : oR 7 0 = nI D) (hD : D ≤ 8) (h9 : oR 9 D = nI t) (s3 : oS 3 0 = nI op) (ho : op < 120) : fX5_meet NN oR oT oS = some (nI 0, rs (rs oR 9 (upd (oR 9) D (nI (t + 1)))) 4 (fun _ => nI 7), rs oS 3 (fun _ => nI (op + 1))) := by
  unfold fX5_meet fX5_meetPart fX5_meetTurn
  simp (disch := omega) only [zLet_e, zJn_e, zB1_s, zB2_s, zB3_s, zB4_s, zB5_s, zB6_s, zB7_s, zGd_in, zGd_b0, zGd_b1, rs_s, rs_n, upd_s, upd_n, ite_t, ite_f, if_true, if_false, ne_eq, not_true, not_false_iff, nI_1, nI_add, nI_mul, nI_sub, nIc, nI_leI, nI_ltI, nI_eq, nI_m1, nI_m1', nI_lt0, nI_m2, ↓lq_m1, ↓lq_m2, ↓lq_m8, ↓lq_mm, lq_0, lq_1, lq_2, lq_3, lq_4, lq_5, lq_6, lq_7, lq_8, lq_9, lq_10, lq_12, lq_16, lq_20, lq_24, lq_31, lq_32, lq_40, lq_41, lq_42, lq_43, lq_45, lq_38, lq_48, lq_50, lq_57, lq_59, lq_60, lq_61, lq_63, lq_94, lq_96, lq_97, lq_100, lq_102, lq_104, lq_105, lq_120, lq_122, lq_123, lq_124, lq_125, lq_126, lq_255, lq_257, lq_600, lq_1000, lq_4096, lq_65535, lq_1000000, h4, t4, h7, h9, zB3_id, mOp_ok (oS := oS) s3 ho]
theorem meet_t5 {NN D t : Nat} {oR oT oS : Rc} (t4 : oT 4 0 = nI 126) (h4 : oR 4 0 = nI 7) (h7 : oR 7 0 = nI D) (hD : D ≤ 8) (h9 : oR 9 D = nI t) (s3 : oS 3 0 = nI 120) : fX5_meet NN oR oT oS = some (nI 5, rs oR 9 (upd (oR 9) D (nI (t + 1))), oS) := by
  unfold fX5_meet fX5_meetPart fX5_meetTurn
  simp (disch := omega) only [zLet_e, zJn_e, zB1_s, zB2_s, zB3_s, zB4_s, zB5_s, zB6_s, zB7_s, zGd_in, zGd_b0, zGd_b1, rs_s, rs_n, upd_s, upd_n, ite_t, ite_f, if_true, if_false, ne_eq, not_true, not_false_iff, nI_1, nI_add, nI_mul, nI_sub, nIc, nI_leI, nI_ltI, nI_eq, nI_m1, nI_m1', nI_lt0, nI_m2, ↓lq_m1, ↓lq_m2, ↓lq_m8, ↓lq_mm, lq_0, lq_1, lq_2, lq_3, lq_4, lq_5, lq_6, lq_7, lq_8, lq_9, lq_10, lq_12, lq_16, lq_20, lq_24, lq_31, lq_32, lq_40, lq_41, lq_42, lq_43, lq_45, lq_38, lq_48, lq_50, lq_57, lq_59, lq_60, lq_61, lq_63, lq_94, lq_96, lq_97, lq_100, lq_102, lq_104, lq_105, lq_120, lq_122, lq_123, lq_124, lq_125, lq_126, lq_255, lq_257, lq_600, lq_1000, lq_4096, lq_65535, lq_1000000, h4, t4, h7, h9, zB3_id, mOp_no (oS := oS) s3]
theorem L2_go {NN n t op : Nat} {J : Int32 → Rc → Rc → Rc → Option (Int32 × Rc × Rc × Rc)} {mB mL mS mW mL1 : Rc} (his : fX10_is mL (nI 126) = some (nI 1)) (s3 : mS 2 0 = nI op) (ho : op < 120) (n1 : fX10_next NN mB mL = some mL1) : fX10_readPart_L2 mB NN J (n + 1) (nI t) mL mS mW = fX10_readPart_L2 mB NN J n (nI (t + 1)) mL1 (rs mS 2 (fun _ => nI (op + 1))) mW := by
  rw [fX10_readPart_L2_s]
  simp (disch := omega) only [zLet_e, zJn_e, zB1_s, zB2_s, zB3_s, zB4_s, zB5_s, zB6_s, zB7_s, zGd_in, zGd_b0, zGd_b1, rs_s, rs_n, upd_s, upd_n, ite_t, ite_f, if_true, if_false, ne_eq, not_true, not_false_iff, nI_1, nI_add, nI_mul, nI_sub, nIc, nI_leI, nI_ltI, nI_eq, nI_m1, nI_m1', nI_lt0, nI_m2, ↓lq_m1, ↓lq_m2, ↓lq_m8, ↓lq_mm, lq_0, lq_1, lq_2, lq_3, lq_4, lq_5, lq_6, lq_7, lq_8, lq_9, lq_10, lq_12, lq_16, lq_20, lq_24, lq_31, lq_32, lq_40, lq_41, lq_42, lq_43, lq_45, lq_38, lq_48, lq_50, lq_57, lq_59, lq_60, lq_61, lq_63, lq_94, lq_96, lq_97, lq_100, lq_102, lq_104, lq_105, lq_120, lq_122, lq_123, lq_124, lq_125, lq_126, lq_255, lq_257, lq_600, lq_1000, lq_4096, lq_65535, lq_1000000, his, rOp_ok s3 ho, n1]
theorem L2_no {NN n t : Nat} {J : Int32 → Rc → Rc → Rc → Option (Int32 × Rc × Rc × Rc)} {mB mL mS mW : Rc} (his : fX10_is mL (nI 126) = some (nI 1)) (s3 : mS 2 0 = nI 120) : fX10_readPart_L2 mB NN J (n + 1) (nI t) mL mS mW = some (nI 1, mL, mS, rs (rs mW 6 (fun _ => nI 5)) 7 (fun _ => mL 16 0)) := by
  rw [fX10_readPart_L2_s]
  simp (disch := omega) only [zLet_e, zJn_e, zB1_s, zB2_s, zB3_s, zB4_s, zB5_s, zB6_s, zB7_s, zGd_in, zGd_b0, zGd_b1, rs_s, rs_n, upd_s, upd_n, ite_t, ite_f, if_true, if_false, ne_eq, not_true, not_false_iff, nI_1, nI_add, nI_mul, nI_sub, nIc, nI_leI, nI_ltI, nI_eq, nI_m1, nI_m1', nI_lt0, nI_m2, ↓lq_m1, ↓lq_m2, ↓lq_m8, ↓lq_mm, lq_0, lq_1, lq_2, lq_3, lq_4, lq_5, lq_6, lq_7, lq_8, lq_9, lq_10, lq_12, lq_16, lq_20, lq_24, lq_31, lq_32, lq_40, lq_41, lq_42, lq_43, lq_45, lq_38, lq_48, lq_50, lq_57, lq_59, lq_60, lq_61, lq_63, lq_94, lq_96, lq_97, lq_100, lq_102, lq_104, lq_105, lq_120, lq_122, lq_123, lq_124, lq_125, lq_126, lq_255, lq_257, lq_600, lq_1000, lq_4096, lq_65535, lq_1000000, his, rOp_no s3]
theorem L2_end {NN n t : Nat} {J : Int32 → Rc → Rc → Rc → Option (Int32 × Rc × Rc × Rc)} {mB mL mS mW : Rc} (his : fX10_is mL (nI 126) = some (nI 0)) : fX10_readPart_L2 mB NN J (n + 1) (nI t) mL mS mW = J (nI t) mL mS mW := by
  rw [fX10_readPart_L2_s]
  simp (disch := omega) only [zLet_e, zJn_e, zB1_s, zB2_s, zB3_s, zB4_s, zB5_s, zB6_s, zB7_s, zGd_in, zGd_b0, zGd_b1, rs_s, rs_n, upd_s, upd_n, ite_t, ite_f, if_true, if_false, ne_eq, not_true, not_false_iff, nI_1, nI_add, nI_mul, nI_sub, nIc, nI_leI, nI_ltI, nI_eq, nI_m1, nI_m1', nI_lt0, nI_m2, ↓lq_m1, ↓lq_m2, ↓lq_m8, ↓lq_mm, lq_0, lq_1, lq_2, lq_3, lq_4, lq_5, lq_6, lq_7, lq_8, lq_9, lq_10, lq_12, lq_16, lq_20, lq_24, lq_31, lq_32, lq_40, lq_41, lq_42, lq_43, lq_45, lq_38, lq_48, lq_50, lq_57, lq_59, lq_60, lq_61, lq_63, lq_94, lq_96, lq_97, lq_100, lq_102, lq_104, lq_105, lq_120, lq_122, lq_123, lq_124, lq_125, lq_126, lq_255, lq_257, lq_600, lq_1000, lq_4096, lq_65535, lq_1000000, his]
set_option maxHeartbeats 8000000 in
theorem partLoop {B : Nat → Nat} {e NN D : Nat} {mB : Rc} {sum : Rc → Rc → Rc → Rc → Option (Int32 × Rc × Rc × Rc)} (hN : 1000 ≤ NN) (he : e ≤ 600) (hB : ∀ i, B i < 256) (hM : ∀ i, i < 600 → mB 11 i = sx (B i)) (hD : D ≤ 8) (hsum : D < 8 → SumS B e NN mB sum (D + 1)) (oR0 oS0 mS0 : Rc) (f ns0 h q c s0 : Nat) (R : Option (Int32 × Rc × Rc × Rc)) (hcc : c = 0 ∨ (isSg c = true ∧ 1 ≤ q ∧ 1 ≤ h)) (hh : h ≤ D + 1) (h10 : oS0 10 0 = nI 0) : ∀ (n i s nx k : Nat) (oR oT oS mL mS mW : Rc) (ns op t : Nat), e - s < n → R = CL NN i oR oT oS → CB B e i s nx k oR oT oS → Tk B e s nx k → T10 B e s nx k mL → mL 20 0 = nI D → oR 4 0 = nI 7 → oR 7 0 = nI D → oR 9 D = nI t → oR 8 D = nI c → (∀ j, j < D → oR 8 j = oR0 8 j ∧ oR 9 j = oR0 9 j) → oR 5 = oR0 5 → oR 6 = oR0 6 → SS oS mS f ns h op → FO oS0 oS ns0 → FM mS0 mS ns0 → ns0 ≤ ns → ns + t + q ≤ s → s0 ≤ s → Sm B R (fX10_readPart_L2 mB NN (pT NN sum mB) n (nI t) mL mS mW) (fun mL' mS' _ => PPost B e NN D s0 f ns0 h q c R oR0 oS0 mS0 mL' mS') := by
  intro n
  induction n with
  | zero => intro i s nx k oR oT oS mL mS mW ns op t hn; omega
  | succ n ih =>
    intro i s nx k oR oT oS mL mS mW ns op t hn hR hc ht hl h20 h4 h7 h9 h8 hfr h5 h6 hs hfo hfm hns hq hs0
    have hk := ht.2.2.2.1
    have his := is10 (c := 126) hl hk (by omega) (by omega)
    by_cases k126 : k = 126
    · subst k126
      rw [if_pos rfl] at his
      have t4 : oT 4 0 = nI 126 := hc.2.1.2.2.1
      have s3 := hs.2.2.2.2.1
      have m2 := hs.2.2.2.2.2.1
      have hop := hs.2.2.2.2.2.2
      have hsn := ht.2.2.1 (by omega)
      have hne := ht.2.1
      by_cases ho : op < 120
      · obtain ⟨mL1, n1, n2, n3⟩ := adv10 (mB := mB) (NN := NN) he hB hM (by omega) hl (by omega) ht
        rw [L2_go his m2 ho n1]
        have hm := meet_t (NN := NN) t4 h4 h7 hD h9 s3 ho
        obtain ⟨oT1, q1, q2, q3, q4⟩ := cl_ok hN he hB hc ht (by omega) hm hc.2.2.2.2
        refine ih _ _ _ _ _ oT1 _ mL1 _ mW ns (op + 1) (t + 1) (by omega) (hR.trans q1) q2 q3 n2 (by rw [n3]; exact h20) ?_ ?_ ?_ ?_ ?_ ?_ ?_ (SS_op hs ho) (FO_t hfo (FO_op _ _ _) (Nat.le_refl _)) (FM_t hfm (FM_op _ _ _) (Nat.le_refl _)) hns (by omega) (by omega)
        · simp (disch := omega) only [zLet_e, zJn_e, zB1_s, zB2_s, zB3_s, zB4_s, zB5_s, zB6_s, zB7_s, zGd_in, zGd_b0, zGd_b1, rs_s, rs_n, upd_s, upd_n, ite_t, ite_f, if_true, if_false, ne_eq, not_true, not_false_iff]
        · simp (disch := omega) only [zLet_e, zJn_e, zB1_s, zB2_s, zB3_s, zB4_s, zB5_s, zB6_s, zB7_s, zGd_in, zGd_b0, zGd_b1, rs_s, rs_n, upd_s, upd_n, ite_t, ite_f, if_true, if_false, ne_eq, not_true, not_false_iff, h7]
        · simp (disch := omega) only [zLet_e, zJn_e, zB1_s, zB2_s, zB3_s, zB4_s, zB5_s, zB6_s, zB7_s, zGd_in, zGd_b0, zGd_b1, rs_s, rs_n, upd_s, upd_n, ite_t, ite_f, if_true, if_false, ne_eq, not_true, not_false_iff]
        · simp (disch := omega) only [zLet_e, zJn_e, zB1_s, zB2_s, zB3_s, zB4_s, zB5_s, zB6_s, zB7_s, zGd_in, zGd_b0, zGd_b1, rs_s, rs_n, upd_s, upd_n, ite_t, ite_f, if_true, if_false, ne_eq, not_true, not_false_iff, h8]
        · intro j hj
          have a := hfr j hj
          simp (disch := omega) only [zLet_e, zJn_e, zB1_s, zB2_s, zB3_s, zB4_s, zB5_s, zB6_s, zB7_s, zGd_in, zGd_b0, zGd_b1, rs_s, rs_n, upd_s, upd_n, ite_t, ite_f, if_true, if_false, ne_eq, not_true, not_false_iff]
          exact a
        · simp (disch := omega) only [zLet_e, zJn_e, zB1_s, zB2_s, zB3_s, zB4_s, zB5_s, zB6_s, zB7_s, zGd_in, zGd_b0, zGd_b1, rs_s, rs_n, upd_s, upd_n, ite_t, ite_f, if_true, if_false, ne_eq, not_true, not_false_iff, h5]
        · simp (disch := omega) only [zLet_e, zJn_e, zB1_s, zB2_s, zB3_s, zB4_s, zB5_s, zB6_s, zB7_s, zGd_in, zGd_b0, zGd_b1, rs_s, rs_n, upd_s, upd_n, ite_t, ite_f, if_true, if_false, ne_eq, not_true, not_false_iff, h6]
      · have : op = 120 := by omega
        subst this
        rw [L2_no his m2]
        refine Sm_st hl.2.1 ?_
        rw [hR]
        exact cl_bad hN he hc ht (by omega) (v := 5) (meet_t5 t4 h4 h7 hD h9 s3) (by omega) (by omega) hc.2.2.2.2
    · rw [if_neg k126] at his
      rw [L2_end his]
      exact partTail hN he hB hM hD hsum i s nx k oR oT oS mL mS mW oR0 oS0 mS0 f ns ns0 h op q c t s0 R hR hc ht hl h20 h4 h7 h9 h8 hcc hfr h5 h6 hs hfo hfm hns hh hq hs0 k126 h10
theorem partS_of {B : Nat → Nat} {e NN D : Nat} {mB : Rc} {sum : Rc → Rc → Rc → Rc → Option (Int32 × Rc × Rc × Rc)} (hN : 1000 ≤ NN) (he : e ≤ 600) (hB : ∀ i, B i < 256) (hM : ∀ i, i < 600 → mB 11 i = sx (B i)) (hD : D ≤ 8) (hsum : D < 8 → SumS B e NN mB sum (D + 1)) : PartS B e NN mB (fX10_readPartB NN sum) D := by
  intro i s nx k oR oT oS mL mS mW f ns h op q c hc ht hl h20 h4 h7 h9 h8 hcc hs hh hq
  rw [readPartB_e]
  exact partLoop hN he hB hM hD hsum oR oS mS f ns h q c s _ hcc hh hc.2.2.2.2 NN i s nx k oR oT oS mL mS mW ns op 0 (by omega) rfl hc ht hl h20 h4 h7 h9 h8 (fun _ _ => ⟨rfl, rfl⟩) rfl rfl hs (FO_r _ _) (FM_r _ _) (Nat.le_refl _) (by omega) (Nat.le_refl _)
theorem sgN_no {k : Nat} (hk : k < 256) (h : isSg k = false) : sgN k = nM 1 := byteAll (P := fun k => isSg k = false → sgN k = nM 1) (by decide +kernel) hk h
theorem sgN_yes {k : Nat} (h : isSg k = true) : ¬ sgN k = nM 1 := by
  rcases sg_cs h with rfl | rfl | rfl | rfl | rfl | rfl | rfl <;> decide +kernel
theorem sgN_inj {k c : Nat} (h : isSg k = true) (h' : isSg c = true) (e : sgN k = sgN c) : k = c := by
  revert e
  rcases sg_cs h with rfl | rfl | rfl | rfl | rfl | rfl | rfl <;> rcases sg_cs h' with rfl | rfl | rfl | rfl | rfl | rfl | rfl <;> decide +kernel
theorem meet_sok {NN D k c op : Nat} {oR oT oS : Rc} (t4 : oT 4 0 = nI k) (hsg : isSg k = true) (h4 : oR 4 0 = nI 8) (h7 : oR 7 0 = nI D) (hD : D ≤ 8) (h8 : oR 8 D = nI c) (hc : c = 0 ∨ c = k) (s3 : oS 3 0 = nI op) (ho : op < 120) : fX5_meet NN oR oT oS = some (nI 0, rs (rs oR 8 (upd (oR 8) D (nI k))) 4 (fun _ => nI 7), rs oS 3 (fun _ => nI (op + 1))) := by
  have hk : k < 256 ∧ 4 ≤ k := by have := sg_cs hsg; omega
  have hsg' := isSignByte6 hk.1
  rw [hsg] at hsg'
  unfold fX5_meet fX5_meetBehindPart fX6_isSign fX5_meetSign
  rcases hc with rfl | rfl
  · simp (disch := omega) only [zLet_e, zJn_e, zB1_s, zB2_s, zB3_s, zB4_s, zB5_s, zB6_s, zB7_s, zGd_in, zGd_b0, zGd_b1, rs_s, rs_n, upd_s, upd_n, ite_t, ite_f, if_true, if_false, ne_eq, not_true, not_false_iff, nI_1, nI_add, nI_mul, nI_sub, nIc, nI_leI, nI_ltI, nI_eq, nI_m1, nI_m1', nI_lt0, nI_m2, ↓lq_m1, ↓lq_m2, ↓lq_m8, ↓lq_mm, lq_0, lq_1, lq_2, lq_3, lq_4, lq_5, lq_6, lq_7, lq_8, lq_9, lq_10, lq_12, lq_16, lq_20, lq_24, lq_31, lq_32, lq_40, lq_41, lq_42, lq_43, lq_45, lq_38, lq_48, lq_50, lq_57, lq_59, lq_60, lq_61, lq_63, lq_94, lq_96, lq_97, lq_100, lq_102, lq_104, lq_105, lq_120, lq_122, lq_123, lq_124, lq_125, lq_126, lq_255, lq_257, lq_600, lq_1000, lq_4096, lq_65535, lq_1000000, h4, t4, h7, h8, hsg', bI_t, zB3_id, mOp_ok (oS := oS) s3 ho]
  · simp (disch := omega) only [zLet_e, zJn_e, zB1_s, zB2_s, zB3_s, zB4_s, zB5_s, zB6_s, zB7_s, zGd_in, zGd_b0, zGd_b1, rs_s, rs_n, upd_s, upd_n, ite_t, ite_f, if_true, if_false, ne_eq, not_true, not_false_iff, nI_1, nI_add, nI_mul, nI_sub, nIc, nI_leI, nI_ltI, nI_eq, nI_m1, nI_m1', nI_lt0, nI_m2, ↓lq_m1, ↓lq_m2, ↓lq_m8, ↓lq_mm, lq_0, lq_1, lq_2, lq_3, lq_4, lq_5, lq_6, lq_7, lq_8, lq_9, lq_10, lq_12, lq_16, lq_20, lq_24, lq_31, lq_32, lq_40, lq_41, lq_42, lq_43, lq_45, lq_38, lq_48, lq_50, lq_57, lq_59, lq_60, lq_61, lq_63, lq_94, lq_96, lq_97, lq_100, lq_102, lq_104, lq_105, lq_120, lq_122, lq_123, lq_124, lq_125, lq_126, lq_255, lq_257, lq_600, lq_1000, lq_4096, lq_65535, lq_1000000, h4, t4, h7, h8, hsg', bI_t, zB3_id, mOp_ok (oS := oS) s3 ho]
theorem meet_s5 {NN D k c : Nat} {oR oT oS : Rc} (t4 : oT 4 0 = nI k) (hsg : isSg k = true) (h4 : oR 4 0 = nI 8) (h7 : oR 7 0 = nI D) (hD : D ≤ 8) (h8 : oR 8 D = nI c) (hc : c = 0 ∨ c = k) (s3 : oS 3 0 = nI 120) : fX5_meet NN oR oT oS = some (nI 5, rs oR 8 (upd (oR 8) D (nI k)), oS) := by
  have hk : k < 256 ∧ 4 ≤ k := by have := sg_cs hsg; omega
  have hsg' := isSignByte6 hk.1
  rw [hsg] at hsg'
  unfold fX5_meet fX5_meetBehindPart fX6_isSign fX5_meetSign
  rcases hc with rfl | rfl
  · simp (disch := omega) only [zLet_e, zJn_e, zB1_s, zB2_s, zB3_s, zB4_s, zB5_s, zB6_s, zB7_s, zGd_in, zGd_b0, zGd_b1, rs_s, rs_n, upd_s, upd_n, ite_t, ite_f, if_true, if_false, ne_eq, not_true, not_false_iff, nI_1, nI_add, nI_mul, nI_sub, nIc, nI_leI, nI_ltI, nI_eq, nI_m1, nI_m1', nI_lt0, nI_m2, ↓lq_m1, ↓lq_m2, ↓lq_m8, ↓lq_mm, lq_0, lq_1, lq_2, lq_3, lq_4, lq_5, lq_6, lq_7, lq_8, lq_9, lq_10, lq_12, lq_16, lq_20, lq_24, lq_31, lq_32, lq_40, lq_41, lq_42, lq_43, lq_45, lq_38, lq_48, lq_50, lq_57, lq_59, lq_60, lq_61, lq_63, lq_94, lq_96, lq_97, lq_100, lq_102, lq_104, lq_105, lq_120, lq_122, lq_123, lq_124, lq_125, lq_126, lq_255, lq_257, lq_600, lq_1000, lq_4096, lq_65535, lq_1000000, h4, t4, h7, h8, hsg', bI_t, zB3_id, mOp_no (oS := oS) s3]
  · simp (disch := omega) only [zLet_e, zJn_e, zB1_s, zB2_s, zB3_s, zB4_s, zB5_s, zB6_s, zB7_s, zGd_in, zGd_b0, zGd_b1, rs_s, rs_n, upd_s, upd_n, ite_t, ite_f, if_true, if_false, ne_eq, not_true, not_false_iff, nI_1, nI_add, nI_mul, nI_sub, nIc, nI_leI, nI_ltI, nI_eq, nI_m1, nI_m1', nI_lt0, nI_m2, ↓lq_m1, ↓lq_m2, ↓lq_m8, ↓lq_mm, lq_0, lq_1, lq_2, lq_3, lq_4, lq_5, lq_6, lq_7, lq_8, lq_9, lq_10, lq_12, lq_16, lq_20, lq_24, lq_31, lq_32, lq_40, lq_41, lq_42, lq_43, lq_45, lq_38, lq_48, lq_50, lq_57, lq_59, lq_60, lq_61, lq_63, lq_94, lq_96, lq_97, lq_100, lq_102, lq_104, lq_105, lq_120, lq_122, lq_123, lq_124, lq_125, lq_126, lq_255, lq_257, lq_600, lq_1000, lq_4096, lq_65535, lq_1000000, h4, t4, h7, h8, hsg', bI_t, zB3_id, mOp_no (oS := oS) s3]
theorem meet_sb {NN D k c : Nat} {oR oT oS : Rc} (t4 : oT 4 0 = nI k) (hsg : isSg k = true) (h4 : oR 4 0 = nI 8) (h7 : oR 7 0 = nI D) (hD : D ≤ 8) (h8 : oR 8 D = nI c) (hc : isSg c = true) (hck : c ≠ k) : fX5_meet NN oR oT oS = some (nI 1, oR, oS) := by
  have hk : k < 256 ∧ 4 ≤ k := by have := sg_cs hsg; omega
  have hk' : c < 256 ∧ 4 ≤ c := by have := sg_cs hc; omega
  have hsg' := isSignByte6 hk.1
  rw [hsg] at hsg'
  unfold fX5_meet fX5_meetBehindPart fX6_isSign fX5_meetSign
  simp (disch := omega) only [zLet_e, zJn_e, zB1_s, zB2_s, zB3_s, zB4_s, zB5_s, zB6_s, zB7_s, zGd_in, zGd_b0, zGd_b1, rs_s, rs_n, upd_s, upd_n, ite_t, ite_f, if_true, if_false, ne_eq, not_true, not_false_iff, nI_1, nI_add, nI_mul, nI_sub, nIc, nI_leI, nI_ltI, nI_eq, nI_m1, nI_m1', nI_lt0, nI_m2, ↓lq_m1, ↓lq_m2, ↓lq_m8, ↓lq_mm, lq_0, lq_1, lq_2, lq_3, lq_4, lq_5, lq_6, lq_7, lq_8, lq_9, lq_10, lq_12, lq_16, lq_20, lq_24, lq_31, lq_32, lq_40, lq_41, lq_42, lq_43, lq_45, lq_38, lq_48, lq_50, lq_57, lq_59, lq_60, lq_61, lq_63, lq_94, lq_96, lq_97, lq_100, lq_102, lq_104, lq_105, lq_120, lq_122, lq_123, lq_124, lq_125, lq_126, lq_255, lq_257, lq_600, lq_1000, lq_4096, lq_65535, lq_1000000, h4, t4, h7, h8, hsg', bI_t]
theorem L24_bad {NN n k : Nat} {part : Rc → Rc → Rc → Rc → Option (Int32 × Rc × Rc × Rc)} {t g : Int32} {J : Rc → Rc → Rc → Option (Int32 × Rc × Rc × Rc)} {mB mL mS mW : Rc} (l15 : mL 15 0 = nI 4) (l17 : mL 17 0 = nI k) (hg : fX10_signOf (nI k) = some g) (g1 : ¬ g = nM 1) (g2 : ¬ g = t) : fX10_readSum_L24 part mB NN t J (n + 1) mL mS mW = some (nI 1, mL, mS, rs (rs mW 6 (fun _ => nI 1)) 7 (fun _ => mL 16 0)) := by
  rw [fX10_readSum_L24_s]
  simp (disch := omega) only [zLet_e, zJn_e, zB1_s, zB2_s, zB3_s, zB4_s, zB5_s, zB6_s, zB7_s, zGd_in, zGd_b0, zGd_b1, rs_s, rs_n, upd_s, upd_n, ite_t, ite_f, if_true, if_false, ne_eq, not_true, not_false_iff, nI_1, nI_add, nI_mul, nI_sub, nIc, nI_leI, nI_ltI, nI_eq, nI_m1, nI_m1', nI_lt0, nI_m2, ↓lq_m1, ↓lq_m2, ↓lq_m8, ↓lq_mm, lq_0, lq_1, lq_2, lq_3, lq_4, lq_5, lq_6, lq_7, lq_8, lq_9, lq_10, lq_12, lq_16, lq_20, lq_24, lq_31, lq_32, lq_40, lq_41, lq_42, lq_43, lq_45, lq_38, lq_48, lq_50, lq_57, lq_59, lq_60, lq_61, lq_63, lq_94, lq_96, lq_97, lq_100, lq_102, lq_104, lq_105, lq_120, lq_122, lq_123, lq_124, lq_125, lq_126, lq_255, lq_257, lq_600, lq_1000, lq_4096, lq_65535, lq_1000000, l15, l17, hg, if_neg g1, if_neg g2, stop_e]
theorem L24_five {NN n k : Nat} {part : Rc → Rc → Rc → Rc → Option (Int32 × Rc × Rc × Rc)} {t : Int32} {J : Rc → Rc → Rc → Option (Int32 × Rc × Rc × Rc)} {mB mL mS mW : Rc} (l15 : mL 15 0 = nI 4) (l17 : mL 17 0 = nI k) (hg : fX10_signOf (nI k) = some t) (g1 : ¬ t = nM 1) (s3 : mS 2 0 = nI 120) : fX10_readSum_L24 part mB NN t J (n + 1) mL mS mW = some (nI 1, mL, mS, rs (rs mW 6 (fun _ => nI 5)) 7 (fun _ => mL 16 0)) := by
  rw [fX10_readSum_L24_s]
  simp (disch := omega) only [zLet_e, zJn_e, zB1_s, zB2_s, zB3_s, zB4_s, zB5_s, zB6_s, zB7_s, zGd_in, zGd_b0, zGd_b1, rs_s, rs_n, upd_s, upd_n, ite_t, ite_f, if_true, if_false, ne_eq, not_true, not_false_iff, nI_1, nI_add, nI_mul, nI_sub, nIc, nI_leI, nI_ltI, nI_eq, nI_m1, nI_m1', nI_lt0, nI_m2, ↓lq_m1, ↓lq_m2, ↓lq_m8, ↓lq_mm, lq_0, lq_1, lq_2, lq_3, lq_4, lq_5, lq_6, lq_7, lq_8, lq_9, lq_10, lq_12, lq_16, lq_20, lq_24, lq_31, lq_32, lq_40, lq_41, lq_42, lq_43, lq_45, lq_38, lq_48, lq_50, lq_57, lq_59, lq_60, lq_61, lq_63, lq_94, lq_96, lq_97, lq_100, lq_102, lq_104, lq_105, lq_120, lq_122, lq_123, lq_124, lq_125, lq_126, lq_255, lq_257, lq_600, lq_1000, lq_4096, lq_65535, lq_1000000, l15, l17, hg, if_neg g1, rOp_no s3]
theorem L24_go {NN n k op : Nat} {part : Rc → Rc → Rc → Rc → Option (Int32 × Rc × Rc × Rc)} {t : Int32} {J : Rc → Rc → Rc → Option (Int32 × Rc × Rc × Rc)} {mB mL mS mW mL1 : Rc} (l15 : mL 15 0 = nI 4) (l17 : mL 17 0 = nI k) (hg : fX10_signOf (nI k) = some t) (g1 : ¬ t = nM 1) (s3 : mS 2 0 = nI op) (ho : op < 120) (n1 : fX10_next NN mB mL = some mL1) : fX10_readSum_L24 part mB NN t J (n + 1) mL mS mW = zB4 (part mB mL1 (rs mS 2 (fun _ => nI (op + 1))) mW) (fun fl a b c => if fl = nI 1 then some (nI 1, a, b, c) else zB1 (fX8_put b t (nI 0)) fun m => fX10_readSum_L24 part mB NN t J n a m c) := by
  rw [fX10_readSum_L24_s]
  simp (disch := omega) only [zLet_e, zJn_e, zB1_s, zB2_s, zB3_s, zB4_s, zB5_s, zB6_s, zB7_s, zGd_in, zGd_b0, zGd_b1, rs_s, rs_n, upd_s, upd_n, ite_t, ite_f, if_true, if_false, ne_eq, not_true, not_false_iff, nI_1, nI_add, nI_mul, nI_sub, nIc, nI_leI, nI_ltI, nI_eq, nI_m1, nI_m1', nI_lt0, nI_m2, ↓lq_m1, ↓lq_m2, ↓lq_m8, ↓lq_mm, lq_0, lq_1, lq_2, lq_3, lq_4, lq_5, lq_6, lq_7, lq_8, lq_9, lq_10, lq_12, lq_16, lq_20, lq_24, lq_31, lq_32, lq_40, lq_41, lq_42, lq_43, lq_45, lq_38, lq_48, lq_50, lq_57, lq_59, lq_60, lq_61, lq_63, lq_94, lq_96, lq_97, lq_100, lq_102, lq_104, lq_105, lq_120, lq_122, lq_123, lq_124, lq_125, lq_126, lq_255, lq_257, lq_600, lq_1000, lq_4096, lq_65535, lq_1000000, l15, l17, hg, if_neg g1, rOp_ok s3 ho, n1]
  rfl
theorem L24_end {NN n k : Nat} {part : Rc → Rc → Rc → Rc → Option (Int32 × Rc × Rc × Rc)} {t : Int32} {J : Rc → Rc → Rc → Option (Int32 × Rc × Rc × Rc)} {mB mL mS mW : Rc} (hk : k < 256) (hsg : isSg k = false) (l15 : mL 15 0 = srt k) (l17 : 4 ≤ k → mL 17 0 = nI k) : fX10_readSum_L24 part mB NN t J (n + 1) mL mS mW = J mL mS mW := by
  rw [fX10_readSum_L24_s]
  by_cases h4 : 4 ≤ k
  · have a := signOf10 hk
    rw [sgN_no hk hsg] at a
    have b := srt4.mpr h4
    simp (disch := omega) only [zLet_e, zJn_e, zB1_s, zB2_s, zB3_s, zB4_s, zB5_s, zB6_s, zB7_s, zGd_in, zGd_b0, zGd_b1, rs_s, rs_n, upd_s, upd_n, ite_t, ite_f, if_true, if_false, ne_eq, not_true, not_false_iff, nI_1, nI_add, nI_mul, nI_sub, nIc, nI_leI, nI_ltI, nI_eq, nI_m1, nI_m1', nI_lt0, nI_m2, ↓lq_m1, ↓lq_m2, ↓lq_m8, ↓lq_mm, lq_0, lq_1, lq_2, lq_3, lq_4, lq_5, lq_6, lq_7, lq_8, lq_9, lq_10, lq_12, lq_16, lq_20, lq_24, lq_31, lq_32, lq_40, lq_41, lq_42, lq_43, lq_45, lq_38, lq_48, lq_50, lq_57, lq_59, lq_60, lq_61, lq_63, lq_94, lq_96, lq_97, lq_100, lq_102, lq_104, lq_105, lq_120, lq_122, lq_123, lq_124, lq_125, lq_126, lq_255, lq_257, lq_600, lq_1000, lq_4096, lq_65535, lq_1000000, l15, b, l17 h4, a]
  · have : ¬ srt k = nI 4 := fun h => h4 (srt4.mp h)
    rw [l15, lq_4, if_neg this]
set_option maxHeartbeats 8000000 in
theorem sumLoop {B : Nat → Nat} {e NN D : Nat} {mB : Rc} {part : Rc → Rc → Rc → Rc → Option (Int32 × Rc × Rc × Rc)} (hN : 1000 ≤ NN) (he : e ≤ 600) (hB : ∀ i, B i < 256) (hM : ∀ i, i < 600 → mB 11 i = sx (B i)) (hD : D ≤ 8) (hp : PartS B e NN mB part D) (oR0 oS0 mS0 : Rc) (f ns0 h q s0 : Nat) (R : Option (Int32 × Rc × Rc × Rc)) (hh : h ≤ D) (t : Int32) : ∀ (n i s nx k : Nat) (oR oT oS mL mS mW : Rc) (ns op c : Nat), e - s < n → R = CL NN i oR oT oS → CB B e i s nx k oR oT oS → Tk B e s nx k → T10 B e s nx k mL → mL 20 0 = nI D → oR 4 0 = nI 8 → oR 7 0 = nI D → oR 9 D = nI 0 → oR 8 D = nI c → ((c = 0 ∧ (isSg k = true → t = sgN k)) ∨ (isSg c = true ∧ t = sgN c)) → (∀ j, j < D → oR 8 j = oR0 8 j ∧ oR 9 j = oR0 9 j) → oR 5 = oR0 5 → oR 6 = oR0 6 → SS oS mS f ns (h + 1) op → FO oS0 oS ns0 → FM mS0 mS ns0 → ns0 ≤ ns → ns + q ≤ s → s0 < s → Sm B R (fX10_readSum_L24 part mB NN t (fun a b c => some (nI 0, a, b, c)) n mL mS mW) (fun mL' mS' _ => SPost B e NN D s0 f ns0 h q R oR0 oS0 mS0 mL' mS') := by
  intro n
  induction n with
  | zero => intro i s nx k oR oT oS mL mS mW ns op c hn; omega
  | succ n ih =>
    intro i s nx k oR oT oS mL mS mW ns op c hn hR hc ht hl h20 h4 h7 h9 h8 hct hfr h5 h6 hs hfo hfm hns hq hs0
    have hk := ht.2.2.2.1
    by_cases hsg : isSg k = true
    · have hk4 : 4 ≤ k := by have := sg_cs hsg; omega
      have l15 : mL 15 0 = nI 4 := hl.2.2.2.1.trans (srt4.mpr hk4)
      have l17 : mL 17 0 = nI k := hl.2.2.2.2.2.2 hk4
      have t4 : oT 4 0 = nI k := hc.2.1.2.2.1
      have s3 := hs.2.2.2.2.1
      have m2 := hs.2.2.2.2.2.1
      have hop := hs.2.2.2.2.2.2
      have hsn := ht.2.2.1 (by omega)
      have hne := ht.2.1
      have hso := signOf10 hk
      by_cases hbad : c ≠ 0 ∧ c ≠ k
      · have hcs : isSg c = true ∧ t = sgN c := by
          rcases hct with a | a
          · omega
          · exact a
        rw [L24_bad l15 l17 hso (sgN_yes hsg) (fun e => hbad.2 (sgN_inj hsg hcs.1 (e.trans hcs.2)).symm)]
        refine Sm_st hl.2.1 ?_
        rw [hR]
        exact cl_bad hN he hc ht (by omega) (v := 1) (meet_sb t4 hsg h4 h7 hD h8 hcs.1 hbad.2) (by omega) (by omega) hc.2.2.2.2
      · have hck : c = 0 ∨ c = k := by omega
        have htk : t = sgN k := by
          rcases hct with ⟨a, b⟩ | ⟨a, b⟩
          · exact b hsg
          · rcases hck with rfl | rfl
            · exact absurd a (by decide)
            · exact b
        rw [← htk] at hso
        have ht1 : ¬ t = nM 1 := by rw [htk]; exact sgN_yes hsg
        by_cases ho : op < 120
        · obtain ⟨mL1, n1, n2, n3⟩ := adv10 (mB := mB) (NN := NN) he hB hM (by omega) hl (by omega) ht
          rw [L24_go l15 l17 hso ht1 m2 ho n1]
          have hm := meet_sok (NN := NN) t4 hsg h4 h7 hD h8 hck s3 ho
          obtain ⟨oT1, q1, q2, q3, q4⟩ := cl_ok hN he hB hc ht (by omega) hm hc.2.2.2.2
          have S := hp _ _ _ _ _ oT1 _ mL1 _ mW f ns (h + 1) (op + 1) (q + 1) k q2 q3 n2 (by rw [n3]; exact h20) (by simp (disch := omega) only [zLet_e, zJn_e, zB1_s, zB2_s, zB3_s, zB4_s, zB5_s, zB6_s, zB7_s, zGd_in, zGd_b0, zGd_b1, rs_s, rs_n, upd_s, upd_n, ite_t, ite_f, if_true, if_false, ne_eq, not_true, not_false_iff]) (by simp (disch := omega) only [zLet_e, zJn_e, zB1_s, zB2_s, zB3_s, zB4_s, zB5_s, zB6_s, zB7_s, zGd_in, zGd_b0, zGd_b1, rs_s, rs_n, upd_s, upd_n, ite_t, ite_f, if_true, if_false, ne_eq, not_true, not_false_iff, h7]) (by simp (disch := omega) only [zLet_e, zJn_e, zB1_s, zB2_s, zB3_s, zB4_s, zB5_s, zB6_s, zB7_s, zGd_in, zGd_b0, zGd_b1, rs_s, rs_n, upd_s, upd_n, ite_t, ite_f, if_true, if_false, ne_eq, not_true, not_false_iff, h9]) (by simp (disch := omega) only [zLet_e, zJn_e, zB1_s, zB2_s, zB3_s, zB4_s, zB5_s, zB6_s, zB7_s, zGd_in, zGd_b0, zGd_b1, rs_s, rs_n, upd_s, upd_n, ite_t, ite_f, if_true, if_false, ne_eq, not_true, not_false_iff]) (Or.inr ⟨hsg, by omega, by omega⟩) (SS_op hs ho) (by omega) (by omega)
          rw [← q1, ← hR] at S
          refine Sm_b4 S ?_ (fun a b d => if_pos rfl)
          intro mL2 mS2 mW2 ⟨i', s', nx', k', oR', oT', oS', mS'', ns', op', e1, e2, e3, e4, e5, e6, e7, e8, e9, e10, e11, e12, e13, e14, e15, e16, e17, e18, e19, e20⟩
          have hpk : pc k = 1 := if_neg (by omega)
          rw [hpk] at e15
          have e14' := e14 (by omega)
          rw [← htk] at e14'
          show Sm B R (if nI 0 = nI 1 then _ else _) _
          rw [if_neg (by rw [nI_eq (by omega) (by omega)]; omega), e14']
          refine ih i' s' nx' k' oR' oT' oS' mL2 mS'' mW2 (ns' + 1) op' k (by omega) e1 e2 e3 e4 e5 e6 e7 e8 e9 (Or.inr ⟨hsg, htk⟩) ?_ ?_ ?_ e15 (FO_t hfo (FO_t (FO_op _ _ _) e16 (Nat.le_refl _)) hns) (FM_t hfm (FM_t (FM_op _ _ _) e17 (Nat.le_refl _)) hns) (by omega) (by omega) (by omega)
          · intro j hj
            have a := e10 j hj
            have b := hfr j hj
            rw [a.1, a.2]
            simp (disch := omega) only [zLet_e, zJn_e, zB1_s, zB2_s, zB3_s, zB4_s, zB5_s, zB6_s, zB7_s, zGd_in, zGd_b0, zGd_b1, rs_s, rs_n, upd_s, upd_n, ite_t, ite_f, if_true, if_false, ne_eq, not_true, not_false_iff]
            exact b
          · rw [e11]; simp (disch := omega) only [zLet_e, zJn_e, zB1_s, zB2_s, zB3_s, zB4_s, zB5_s, zB6_s, zB7_s, zGd_in, zGd_b0, zGd_b1, rs_s, rs_n, upd_s, upd_n, ite_t, ite_f, if_true, if_false, ne_eq, not_true, not_false_iff, h5]
          · rw [e12]; simp (disch := omega) only [zLet_e, zJn_e, zB1_s, zB2_s, zB3_s, zB4_s, zB5_s, zB6_s, zB7_s, zGd_in, zGd_b0, zGd_b1, rs_s, rs_n, upd_s, upd_n, ite_t, ite_f, if_true, if_false, ne_eq, not_true, not_false_iff, h6]
        · have : op = 120 := by omega
          subst this
          rw [L24_five l15 l17 hso ht1 m2]
          refine Sm_st hl.2.1 ?_
          rw [hR]
          exact cl_bad hN he hc ht (by omega) (v := 5) (meet_s5 t4 hsg h4 h7 hD h8 hck s3) (by omega) (by omega) hc.2.2.2.2
    · have hsg' : isSg k = false := by simpa using hsg
      rw [L24_end hk hsg' hl.2.2.2.1 hl.2.2.2.2.2.2]
      exact Sm_ok ⟨i, s, nx, k, oR, oT, oS, ns, op, hR, hc, ht, hl, h20, hsg', h4, h7, hfr, h5, h6, hs, hfo, hfm, hq, hs0, hns⟩
theorem sumS_of {B : Nat → Nat} {e NN D : Nat} {mB : Rc} {part : Rc → Rc → Rc → Rc → Option (Int32 × Rc × Rc × Rc)} (hN : 1000 ≤ NN) (he : e ≤ 600) (hB : ∀ i, B i < 256) (hM : ∀ i, i < 600 → mB 11 i = sx (B i)) (hD : D ≤ 8) (hp : PartS B e NN mB part D) : SumS B e NN mB (fX10_readSumB NN part) D := by
  intro i s nx k oR oT oS mL mS mW f ns h op q hc ht hl h20 h4 h7 h9 h8 hs hh hq
  unfold fX10_readSumB
  have S := hp i s nx k oR oT oS mL mS mW f ns h op q 0 hc ht hl h20 h4 h7 h9 h8 (Or.inl rfl) hs (by omega) hq
  refine Sm_b4 S ?_ (fun a b d => if_pos rfl)
  intro mL2 mS2 mW2 ⟨i', s', nx', k', oR', oT', oS', mS'', ns', op', e1, e2, e3, e4, e5, e6, e7, e8, e9, e10, e11, e12, e13, e14, e15, e16, e17, e18, e19, e20⟩
  have e13' := e13 rfl
  subst e13'
  have hk' := e3.2.2.2.1
  have go := fun t ht => sumLoop hN he hB hM hD hp oR oS mS f ns h q s _ hh t NN i' s' nx' k' oR' oT' oS' mL2 mS'' mW2 ns' op' 0 (by omega) e1 e2 e3 e4 e5 e6 e7 e8 e9 (Or.inl ⟨rfl, ht⟩) e10 e11 e12 e15 e16 e17 e20 e18 e19
  by_cases k4 : 4 ≤ k'
  · have l15 : mL2 15 0 = nI 4 := e4.2.2.2.1.trans (srt4.mpr k4)
    have l17 : mL2 17 0 = nI k' := e4.2.2.2.2.2.2 k4
    simp (disch := omega) only [zLet_e, zJn_e, zB1_s, zB2_s, zB3_s, zB4_s, zB5_s, zB6_s, zB7_s, zGd_in, zGd_b0, zGd_b1, rs_s, rs_n, upd_s, upd_n, ite_t, ite_f, if_true, if_false, ne_eq, not_true, not_false_iff, nI_1, nI_add, nI_mul, nI_sub, nIc, nI_leI, nI_ltI, nI_eq, nI_m1, nI_m1', nI_lt0, nI_m2, ↓lq_m1, ↓lq_m2, ↓lq_m8, ↓lq_mm, lq_0, lq_1, lq_2, lq_3, lq_4, lq_5, lq_6, lq_7, lq_8, lq_9, lq_10, lq_12, lq_16, lq_20, lq_24, lq_31, lq_32, lq_40, lq_41, lq_42, lq_43, lq_45, lq_38, lq_48, lq_50, lq_57, lq_59, lq_60, lq_61, lq_63, lq_94, lq_96, lq_97, lq_100, lq_102, lq_104, lq_105, lq_120, lq_122, lq_123, lq_124, lq_125, lq_126, lq_255, lq_257, lq_600, lq_1000, lq_4096, lq_65535, lq_1000000, l15, l17, signOf10 hk']
    exact go (sgN k') (fun _ => rfl)
  · have l15 : ¬ mL2 15 0 = nI 4 := by rw [e4.2.2.2.1]; exact fun h => k4 (srt4.mp h)
    have l15' : ¬ mL2 15 0 = (4 : Int32) := l15
    show Sm B _ (if (nI 0 : Int32) = 1 then _ else (if mL2 15 0 = (4 : Int32) then _ else _)) _
    rw [if_neg (by decide), if_neg l15']
    exact go (nM 1) (fun h => absurd (sg_cs h) (by omega))
theorem partAll {B : Nat → Nat} {e NN : Nat} {mB : Rc} (hN : 1000 ≤ NN) (he : e ≤ 600) (hB : ∀ i, B i < 256) (hM : ∀ i, i < 600 → mB 11 i = sx (B i)) : ∀ (d D : Nat), 12 ≤ d + D → D ≤ 8 → PartS B e NN mB (fX10_readPart NN d) D := by
  intro d
  induction d with
  | zero => intro D h1 h2; omega
  | succ d ih =>
    intro D h1 h2
    exact partS_of hN he hB hM h2 (fun h => sumS_of hN he hB hM (by omega) (ih (D + 1) (by omega) (by omega)))
theorem sumAll {B : Nat → Nat} {e NN : Nat} {mB : Rc} (hN : 1000 ≤ NN) (he : e ≤ 600) (hB : ∀ i, B i < 256) (hM : ∀ i, i < 600 → mB 11 i = sx (B i)) : SumS B e NN mB (fX10_readSum NN) 0 := sumS_of hN he hB hM (by omega) (partAll hN he hB hM 12 0 (by omega) (by omega))
