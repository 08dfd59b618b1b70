/-! own part (pure): a LINE -/
theorem isIf10 {B : Nat → Nat} {e s nx k : Nat} {mB mL : Rc} (hM : ∀ i, i < 600 → mB 11 i = sx (B i)) (he : e ≤ 600) (h : T10 B e s nx k mL) (ht : Tk B e s nx k) : fX10_isIf mB mL = some (ifI B s nx k) := by
  obtain ⟨l13, l16, l14, l15, l19, l18, l17⟩ := h
  unfold fX10_isIf
  by_cases hk : k = 2
  · subst hk
    obtain ⟨h8, hl⟩ := ht.2.2.2.2.2.1 rfl
    have hsn := ht.2.2.1 (by omega)
    have hne := ht.2.1
    have hb := isLt_b (hl s (by omega) hsn)
    have hm := hM s (by omega)
    rw [sx_lo (by omega)] at hm
    have l15' : mL 15 0 = nI 2 := l15
    have l19' := l19 rfl
    by_cases c1 : nx = s + 2
    · have hb1 := isLt_b (hl (s + 1) (by omega) (by omega))
      have hm1 := hM (s + 1) (by omega)
      rw [sx_lo (by omega)] at hm1
      subst c1
      rw [show s + 2 - s = 2 by omega] at l19'
      by_cases c2 : B s = 105
      · by_cases c3 : B (s + 1) = 102
        · have : ifI B s (s + 2) 2 = nI 1 := if_pos ⟨rfl, rfl, c2, c3⟩
          rw [this]
          simp (disch := omega) only [zLet_e, zJn_e, zB1_s, zB2_s, zB3_s, zB4_s, zB5_s, zB6_s, zB7_s, zGd_in, zGd_b0, zGd_b1, rs_s, rs_n, upd_s, upd_n, ite_t, ite_f, if_true, if_false, ne_eq, not_true, not_false_iff, nI_1, nI_add, nI_mul, nI_sub, nIc, nI_leI, nI_ltI, nI_eq, nI_m1, nI_m1', nI_lt0, nI_m2, ↓lq_m1, ↓lq_m2, ↓lq_m8, ↓lq_mm, lq_0, lq_1, lq_2, lq_3, lq_4, lq_5, lq_6, lq_7, lq_8, lq_9, lq_10, lq_12, lq_16, lq_20, lq_24, lq_31, lq_32, lq_40, lq_41, lq_42, lq_43, lq_45, lq_38, lq_48, lq_50, lq_57, lq_59, lq_60, lq_61, lq_63, lq_94, lq_96, lq_97, lq_100, lq_102, lq_104, lq_105, lq_120, lq_122, lq_123, lq_124, lq_125, lq_126, lq_255, lq_257, lq_600, lq_1000, lq_4096, lq_65535, lq_1000000, l15', l19', l16, hm, hm1, c2, c3]
        · have : ifI B s (s + 2) 2 = nI 0 := if_neg (by omega)
          rw [this]
          simp (disch := omega) only [zLet_e, zJn_e, zB1_s, zB2_s, zB3_s, zB4_s, zB5_s, zB6_s, zB7_s, zGd_in, zGd_b0, zGd_b1, rs_s, rs_n, upd_s, upd_n, ite_t, ite_f, if_true, if_false, ne_eq, not_true, not_false_iff, nI_1, nI_add, nI_mul, nI_sub, nIc, nI_leI, nI_ltI, nI_eq, nI_m1, nI_m1', nI_lt0, nI_m2, ↓lq_m1, ↓lq_m2, ↓lq_m8, ↓lq_mm, lq_0, lq_1, lq_2, lq_3, lq_4, lq_5, lq_6, lq_7, lq_8, lq_9, lq_10, lq_12, lq_16, lq_20, lq_24, lq_31, lq_32, lq_40, lq_41, lq_42, lq_43, lq_45, lq_38, lq_48, lq_50, lq_57, lq_59, lq_60, lq_61, lq_63, lq_94, lq_96, lq_97, lq_100, lq_102, lq_104, lq_105, lq_120, lq_122, lq_123, lq_124, lq_125, lq_126, lq_255, lq_257, lq_600, lq_1000, lq_4096, lq_65535, lq_1000000, l15', l19', l16, hm, hm1, c2]
      · have : ifI B s (s + 2) 2 = nI 0 := if_neg (by omega)
        rw [this]
        simp (disch := omega) only [zLet_e, zJn_e, zB1_s, zB2_s, zB3_s, zB4_s, zB5_s, zB6_s, zB7_s, zGd_in, zGd_b0, zGd_b1, rs_s, rs_n, upd_s, upd_n, ite_t, ite_f, if_true, if_false, ne_eq, not_true, not_false_iff, nI_1, nI_add, nI_mul, nI_sub, nIc, nI_leI, nI_ltI, nI_eq, nI_m1, nI_m1', nI_lt0, nI_m2, ↓lq_m1, ↓lq_m2, ↓lq_m8, ↓lq_mm, lq_0, lq_1, lq_2, lq_3, lq_4, lq_5, lq_6, lq_7, lq_8, lq_9, lq_10, lq_12, lq_16, lq_20, lq_24, lq_31, lq_32, lq_40, lq_41, lq_42, lq_43, lq_45, lq_38, lq_48, lq_50, lq_57, lq_59, lq_60, lq_61, lq_63, lq_94, lq_96, lq_97, lq_100, lq_102, lq_104, lq_105, lq_120, lq_122, lq_123, lq_124, lq_125, lq_126, lq_255, lq_257, lq_600, lq_1000, lq_4096, lq_65535, lq_1000000, l15', l19', l16, hm]
    · have : ifI B s nx 2 = nI 0 := if_neg (by omega)
      rw [this]
      simp (disch := omega) only [zLet_e, zJn_e, zB1_s, zB2_s, zB3_s, zB4_s, zB5_s, zB6_s, zB7_s, zGd_in, zGd_b0, zGd_b1, rs_s, rs_n, upd_s, upd_n, ite_t, ite_f, if_true, if_false, ne_eq, not_true, not_false_iff, nI_1, nI_add, nI_mul, nI_sub, nIc, nI_leI, nI_ltI, nI_eq, nI_m1, nI_m1', nI_lt0, nI_m2, ↓lq_m1, ↓lq_m2, ↓lq_m8, ↓lq_mm, lq_0, lq_1, lq_2, lq_3, lq_4, lq_5, lq_6, lq_7, lq_8, lq_9, lq_10, lq_12, lq_16, lq_20, lq_24, lq_31, lq_32, lq_40, lq_41, lq_42, lq_43, lq_45, lq_38, lq_48, lq_50, lq_57, lq_59, lq_60, lq_61, lq_63, lq_94, lq_96, lq_97, lq_100, lq_102, lq_104, lq_105, lq_120, lq_122, lq_123, lq_124, lq_125, lq_126, lq_255, lq_257, lq_600, lq_1000, lq_4096, lq_65535, lq_1000000, l15', l19']
  · have : ¬ srt k = nI 2 := fun h => hk (srt2.mp h)
    have h2 : ifI B s nx k = nI 0 := if_neg (by omega)
    rw [l15, lq_2, if_neg this, h2]
    rfl
def lT (NN : Nat) (mB : Rc) (p1 x4 : Int32) (mL_15 mS_14 mW_13 : Rc) : Option (Int32 × Rc × Rc × Rc) :=
                zB3 (fX10_need NN mB mL_15 mW_13 (61 : Int32)) fun fl16 mL_17 mW_18 =>
                if fl16 = 1 then (
                  some ((1 : Int32), mL_17, mS_14, mW_18)
                ) else (
                  zGd (inb x4 96) <|
                  zLet (rs mS_14 9 (upd (mS_14 9) x4.toNatClampNeg (mS_14 1 0))) fun mS_19 =>
                  zB4 (fX10_readSum NN mB mL_17 mS_19 mW_18) fun fl20 mL_21 mS_22 mW_23 =>
                  if fl20 = 1 then (
                    some ((1 : Int32), mL_21, mS_22, mW_23)
                  ) else (
                    zGd (inb x4 96) <|
                    zLet (rs mS_22 10 (upd (mS_22 10) x4.toNatClampNeg (mS_22 1 0))) fun mS_24 =>
                    zGd (inb p1 12) <|
                    zGd (inb p1 12) <|
                    zLet (rs mS_24 5 (upd (mS_24 5) p1.toNatClampNeg ((mS_24 5 p1.toNatClampNeg) + (1 : Int32)))) fun mS_25 =>
                    some ((0 : Int32), mL_21, mS_25, mW_23)
                  )
                )
def lNm (NN : Nat) (mB : Rc) (p1 x4 : Int32) (mL_7 mS_8 mW_9 : Rc) : Option (Int32 × Rc × Rc × Rc) :=
              zB3 (fX10_nameHere mB mL_7 mW_9) fun fl11 v12 mW_13 =>
              if fl11 = 1 then (
                some ((1 : Int32), mL_7, mS_8, mW_13)
              ) else (
                zGd (inb x4 96) <|
                zLet (rs mS_8 8 (upd (mS_8 8) x4.toNatClampNeg v12)) fun mS_14 =>
                zB1 (fX10_next NN mB mL_7) fun mL_15 =>
                lT NN mB p1 x4 mL_15 mS_14 mW_13)
theorem readLine_e (NN : Nat) (mB mL mS mW : Rc) (p1 : Int32) : fX10_readLine NN mB mL mS mW p1 = (
  if (mL 15 0) = (2 : Int32) then (
    zB1 (fX10_isIf mB mL) fun v1 =>
    zJn (fun (mW_2 : Rc) =>
        zGd (inb p1 12) <|
        if (mS 5 p1.toNatClampNeg) = (8 : Int32) then (
          zB1 (fX10_stop mL mW_2 (5 : Int32)) fun mW_35 =>
          some ((1 : Int32), mL, mS, mW_35)
        ) else (
          zGd (inb p1 12) <|
          zLet (((8 : Int32) * p1) + (mS 5 p1.toNatClampNeg)) fun x4 =>
          zGd (inb x4 96) <|
          zLet (rs mS 7 (upd (mS 7) x4.toNatClampNeg (-1 : Int32))) fun mS_5 =>
          zB1 (fX10_isIf mB mL) fun v6 =>
          if v6 = 0 then (
            lNm NN mB p1 x4 mL mS_5 mW_2
          ) else (
            zB3 (fX10_op mL mS_5 mW_2) fun fl26 mS_27 mW_28 =>
            if fl26 = 1 then (
              some ((1 : Int32), mL, mS_27, mW_28)
            ) else (
              zB1 (fX10_next NN mB mL) fun mL_29 =>
              zB3 (fX10_nameHere mB mL_29 mW_28) fun fl30 v31 mW_32 =>
              if fl30 = 1 then (
                some ((1 : Int32), mL_29, mS_27, mW_32)
              ) else (
                zGd (inb x4 96) <|
                zLet (rs mS_27 7 (upd (mS_27 7) x4.toNatClampNeg v31)) fun mS_33 =>
                zB1 (fX10_next NN mB mL_29) fun mL_34 =>
                lNm NN mB p1 x4 mL_34 mS_33 mW_32
              )
            )
          )
        )
      ) fun J26_3 =>
    if v1 = 0 then (
      zB3 (fX10_nameHere mB mL mW) fun fl36 v37 mW_38 =>
      if fl36 = 1 then (
        some ((1 : Int32), mL, mS, mW_38)
      ) else (
        J26_3 mW_38
      )
    ) else (
      J26_3 mW
    )
  ) else (
    zB1 (fX10_stop mL mW (1 : Int32)) fun mW_39 =>
    some ((1 : Int32), mL, mS, mW_39)
  )) := rfl
theorem lT_no {NN : Nat} {mB mL mS mW : Rc} {p x : Int32} (his : fX10_is mL (nI 61) = some (nI 0)) : lT NN mB p x mL mS mW = some (nI 1, mL, mS, rs (rs mW 6 (fun _ => nI 1)) 7 (fun _ => mL 16 0)) := by
  unfold lT fX10_need
  simp (disch := omega) only [zLet_e, zJn_e, zB1_s, zB2_s, zB3_s, zB4_s, zB5_s, zB6_s, zB7_s, zGd_in, zGd_b0, zGd_b1, rs_s, rs_n, upd_s, upd_n, ite_t, ite_f, if_true, if_false, ne_eq, not_true, not_false_iff, nI_1, nI_add, nI_mul, nI_sub, nIc, nI_leI, nI_ltI, nI_eq, nI_m1, nI_m1', nI_lt0, nI_m2, ↓lq_m1, ↓lq_m2, ↓lq_m8, ↓lq_mm, lq_0, lq_1, lq_2, lq_3, lq_4, lq_5, lq_6, lq_7, lq_8, lq_9, lq_10, lq_12, lq_16, lq_20, lq_24, lq_31, lq_32, lq_40, lq_41, lq_42, lq_43, lq_45, lq_38, lq_48, lq_50, lq_57, lq_59, lq_60, lq_61, lq_63, lq_94, lq_96, lq_97, lq_100, lq_102, lq_104, lq_105, lq_120, lq_122, lq_123, lq_124, lq_125, lq_126, lq_255, lq_257, lq_600, lq_1000, lq_4096, lq_65535, lq_1000000, his, stop_e]
theorem lT_go {NN nb x ns : Nat} {mB mL mS mW mL1 : Rc} (his : fX10_is mL (nI 61) = some (nI 1)) (n1 : fX10_next NN mB mL = some mL1) (hx : x < 96) (hb : nb < 12) (m1 : mS 1 0 = nI ns) : lT NN mB (nI nb) (nI x) mL mS mW = zB4 (fX10_readSum NN mB mL1 (rs mS 9 (upd (mS 9) x (nI ns))) mW) (fun fl a b c => if fl = 1 then some (1, a, b, c) else some (0, a, rs (rs b 10 (upd (b 10) x (b 1 0))) 5 (upd (b 5) nb (b 5 nb + 1)), c)) := by
  unfold lT fX10_need
  simp (disch := omega) only [zLet_e, zJn_e, zB1_s, zB2_s, zB3_s, zB4_s, zB5_s, zB6_s, zB7_s, zGd_in, zGd_b0, zGd_b1, rs_s, rs_n, upd_s, upd_n, ite_t, ite_f, if_true, if_false, ne_eq, not_true, not_false_iff, nI_1, nI_add, nI_mul, nI_sub, nIc, nI_leI, nI_ltI, nI_eq, nI_m1, nI_m1', nI_lt0, nI_m2, ↓lq_m1, ↓lq_m2, ↓lq_m8, ↓lq_mm, lq_0, lq_1, lq_2, lq_3, lq_4, lq_5, lq_6, lq_7, lq_8, lq_9, lq_10, lq_12, lq_16, lq_20, lq_24, lq_31, lq_32, lq_40, lq_41, lq_42, lq_43, lq_45, lq_38, lq_48, lq_50, lq_57, lq_59, lq_60, lq_61, lq_63, lq_94, lq_96, lq_97, lq_100, lq_102, lq_104, lq_105, lq_120, lq_122, lq_123, lq_124, lq_125, lq_126, lq_255, lq_257, lq_600, lq_1000, lq_4096, lq_65535, lq_1000000, his, n1, m1]
  rfl
theorem meet_eq {NN : Nat} {oR oT oS : Rc} (t4 : oT 4 0 = nI 61) (h4 : oR 4 0 = nI 6) : fX5_meet NN oR oT oS = some (nI 0, rs (rs (rs (rs oR 7 (fun _ => nI 0)) 8 (upd (oR 8) 0 (nI 0))) 9 (upd (oR 9) 0 (nI 0))) 4 (fun _ => nI 7), oS) := by
  unfold fX5_meet fX5_meetEquals fX5_beginSum fX5_meetSingle
  simp (disch := omega) only [zLet_e, zJn_e, zB1_s, zB2_s, zB3_s, zB4_s, zB5_s, zB6_s, zB7_s, zGd_in, zGd_b0, zGd_b1, rs_s, rs_n, upd_s, upd_n, ite_t, ite_f, if_true, if_false, ne_eq, not_true, not_false_iff, nI_1, nI_add, nI_mul, nI_sub, nIc, nI_leI, nI_ltI, nI_eq, nI_m1, nI_m1', nI_lt0, nI_m2, ↓lq_m1, ↓lq_m2, ↓lq_m8, ↓lq_mm, lq_0, lq_1, lq_2, lq_3, lq_4, lq_5, lq_6, lq_7, lq_8, lq_9, lq_10, lq_12, lq_16, lq_20, lq_24, lq_31, lq_32, lq_40, lq_41, lq_42, lq_43, lq_45, lq_38, lq_48, lq_50, lq_57, lq_59, lq_60, lq_61, lq_63, lq_94, lq_96, lq_97, lq_100, lq_102, lq_104, lq_105, lq_120, lq_122, lq_123, lq_124, lq_125, lq_126, lq_255, lq_257, lq_600, lq_1000, lq_4096, lq_65535, lq_1000000, h4, t4]
theorem meet_eqb {NN k : Nat} {oR oT oS : Rc} (t4 : oT 4 0 = nI k) (h4 : oR 4 0 = nI 6) (hk : k < 256) (hk' : k ≠ 61) : fX5_meet NN oR oT oS = some (nI 1, rs (rs (rs oR 7 (fun _ => nI 0)) 8 (upd (oR 8) 0 (nI 0))) 9 (upd (oR 9) 0 (nI 0)), oS) := by
  unfold fX5_meet fX5_meetEquals fX5_beginSum fX5_meetSingle
  simp (disch := omega) only [zLet_e, zJn_e, zB1_s, zB2_s, zB3_s, zB4_s, zB5_s, zB6_s, zB7_s, zGd_in, zGd_b0, zGd_b1, rs_s, rs_n, upd_s, upd_n, ite_t, ite_f, if_true, if_false, ne_eq, not_true, not_false_iff, nI_1, nI_add, nI_mul, nI_sub, nIc, nI_leI, nI_ltI, nI_eq, nI_m1, nI_m1', nI_lt0, nI_m2, ↓lq_m1, ↓lq_m2, ↓lq_m8, ↓lq_mm, lq_0, lq_1, lq_2, lq_3, lq_4, lq_5, lq_6, lq_7, lq_8, lq_9, lq_10, lq_12, lq_16, lq_20, lq_24, lq_31, lq_32, lq_40, lq_41, lq_42, lq_43, lq_45, lq_38, lq_48, lq_50, lq_57, lq_59, lq_60, lq_61, lq_63, lq_94, lq_96, lq_97, lq_100, lq_102, lq_104, lq_105, lq_120, lq_122, lq_123, lq_124, lq_125, lq_126, lq_255, lq_257, lq_600, lq_1000, lq_4096, lq_65535, lq_1000000, h4, t4]
def LPost (B : Nat → Nat) (e NN nb s0 : Nat) (ln' : Nat → Nat) (R : Option (Int32 × Rc × Rc × Rc)) (mL' mS' : Rc) : Prop := ∃ i' s' nx' k' oR' oT' oS' oS'' ns' op', R = CL NN i' oR' oT' oS' ∧ CB B e i' s' nx' k' oR' oT' oS' ∧ Tk B e s' nx' k' ∧ T10 B e s' nx' k' mL' ∧ mL' 20 0 = nI 0 ∧ isSg k' = false ∧ oR' 4 0 = nI 8 ∧ oR' 7 0 = nI 0 ∧ fX4_addLine oS' (oR' 5 0) (oR' 6 0) = some oS'' ∧ LI nb oS'' mS' ns' ln' op' ∧ s0 < s' ∧ ns' ≤ s'
set_option maxHeartbeats 8000000 in
theorem lineTail {B : Nat → Nat} {e NN : Nat} {mB : Rc} (hN : 1000 ≤ NN) (he : e ≤ 600) (hB : ∀ i, B i < 256) (hM : ∀ i, i < 600 → mB 11 i = sx (B i)) {nb ns op t i s nx k s0 : Nat} {ln : Nat → Nat} {gv : Int32} {R : Option (Int32 × Rc × Rc × Rc)} {oR oT oS mL mS mW : Rc} (hR : R = CL NN i oR oT oS) (hc : CB B e i s nx k oR oT oS) (ht : Tk B e s nx k) (hl : T10 B e s nx k mL) (h20 : mL 20 0 = nI 0) (h4 : oR 4 0 = nI 6) (h5 : oR 5 0 = gv) (h6 : oR 6 0 = nI t) (ht8 : t < 8) (hg : gv = nM 1 ∨ ∃ a, a < 8 ∧ gv = nI a) (hI : LI nb oS mS ns ln op) (hj : ln nb < 8) (m7 : mS 7 (8 * nb + ln nb) = gv) (m8 : mS 8 (8 * nb + ln nb) = nI t) (hns : ns ≤ s) (hs0 : s0 ≤ s) : Sm B R (lT NN mB (nI nb) (nI (8 * nb + ln nb)) mL mS mW) (fun mL' mS' _ => LPost B e NN nb s0 (lnp ln nb) R mL' mS') := by
  have hk := ht.2.2.2.1
  have his := is10 (c := 61) hl hk (by omega) (by omega)
  have t4 : oT 4 0 = nI k := hc.2.1.2.2.1
  have h12 := hI.1
  by_cases k61 : k = 61
  · subst k61
    rw [if_pos rfl] at his
    obtain ⟨mL1, n1, n2, n3⟩ := adv10 (mB := mB) (NN := NN) he hB hM (by omega) hl (by omega) ht
    have hI2 := hI.2.2.2.2.2.2.1
    rw [lT_go his n1 (by omega) h12 hI2.2.1]
    obtain ⟨oT1, q1, q2, q3, q4⟩ := cl_ok hN he hB hc ht (by omega) (meet_eq (NN := NN) (oS := oS) t4 h4) hc.2.2.2.2
    have hI3 := LI_m hI 9 (by omega) (by omega) (nI ns)
    have hsn := ht.2.2.1 (by omega)
    have S := sumAll hN he hB hM _ _ _ _ _ oT1 oS mL1 (rs mS 9 (upd (mS 9) (8 * nb + ln nb) (nI ns))) mW ns ns 0 op 0 q2 q3 n2 (by rw [n3]; exact h20) (by simp (disch := omega) only [zLet_e, zJn_e, zB1_s, zB2_s, zB3_s, zB4_s, zB5_s, zB6_s, zB7_s, zGd_in, zGd_b0, zGd_b1, rs_s, rs_n, upd_s, upd_n, ite_t, ite_f, if_true, if_false, ne_eq, not_true, not_false_iff]) (by simp (disch := omega) only [zLet_e, zJn_e, zB1_s, zB2_s, zB3_s, zB4_s, zB5_s, zB6_s, zB7_s, zGd_in, zGd_b0, zGd_b1, rs_s, rs_n, upd_s, upd_n, ite_t, ite_f, if_true, if_false, ne_eq, not_true, not_false_iff]) (by simp (disch := omega) only [zLet_e, zJn_e, zB1_s, zB2_s, zB3_s, zB4_s, zB5_s, zB6_s, zB7_s, zGd_in, zGd_b0, zGd_b1, rs_s, rs_n, upd_s, upd_n, ite_t, ite_f, if_true, if_false, ne_eq, not_true, not_false_iff]) (by simp (disch := omega) only [zLet_e, zJn_e, zB1_s, zB2_s, zB3_s, zB4_s, zB5_s, zB6_s, zB7_s, zGd_in, zGd_b0, zGd_b1, rs_s, rs_n, upd_s, upd_n, ite_t, ite_f, if_true, if_false, ne_eq, not_true, not_false_iff]) hI3.2.2.2.2.2.2.1 (Nat.le_refl _) (by omega)
    rw [← q1, ← hR] at S
    refine Sm_b4 S ?_ (fun a b d => if_pos rfl)
    intro mL2 mS2 mW2 ⟨i', s', nx', k', oR', oT', oS', ns', op', e1, e2, e3, e4, e5, e6, e7, e8, e9, e10, e11, e12, e13, e14, e15, e16, e17⟩
    obtain ⟨oS2, p1, p2⟩ := addLine_ok (t := t) (gv := gv) hI3 hj e13 e14 e12 ht8 (by simp (disch := omega) only [zLet_e, zJn_e, zB1_s, zB2_s, zB3_s, zB4_s, zB5_s, zB6_s, zB7_s, zGd_in, zGd_b0, zGd_b1, rs_s, rs_n, upd_s, upd_n, ite_t, ite_f, if_true, if_false, ne_eq, not_true, not_false_iff, m7]) hg (by simp (disch := omega) only [zLet_e, zJn_e, zB1_s, zB2_s, zB3_s, zB4_s, zB5_s, zB6_s, zB7_s, zGd_in, zGd_b0, zGd_b1, rs_s, rs_n, upd_s, upd_n, ite_t, ite_f, if_true, if_false, ne_eq, not_true, not_false_iff, m8]) (by simp (disch := omega) only [zLet_e, zJn_e, zB1_s, zB2_s, zB3_s, zB4_s, zB5_s, zB6_s, zB7_s, zGd_in, zGd_b0, zGd_b1, rs_s, rs_n, upd_s, upd_n, ite_t, ite_f, if_true, if_false, ne_eq, not_true, not_false_iff])
    have x1 : mS2 1 0 = nI ns' := e12.2.1
    have x5 : mS2 5 nb = nI (ln nb) := by
      rw [e14.1 5 (by omega) (by omega) (by omega) (by omega)]
      simp (disch := omega) only [zLet_e, zJn_e, zB1_s, zB2_s, zB3_s, zB4_s, zB5_s, zB6_s, zB7_s, zGd_in, zGd_b0, zGd_b1, rs_s, rs_n, upd_s, upd_n, ite_t, ite_f, if_true, if_false, ne_eq, not_true, not_false_iff]
      exact (hI.2.2.2.1.2.1 nb (by omega)).2.1
    have p2' : LI nb oS2 (rs (rs mS2 10 (upd (mS2 10) (8 * nb + ln nb) (mS2 1 0))) 5 (upd (mS2 5) nb (mS2 5 nb + 1))) ns' (lnp ln nb) op' := by
      rw [x1, x5, nI_1]; exact p2
    have a5 : oR' 5 0 = gv := by rw [e10]; simp (disch := omega) only [zLet_e, zJn_e, zB1_s, zB2_s, zB3_s, zB4_s, zB5_s, zB6_s, zB7_s, zGd_in, zGd_b0, zGd_b1, rs_s, rs_n, upd_s, upd_n, ite_t, ite_f, if_true, if_false, ne_eq, not_true, not_false_iff, h5]
    have a6 : oR' 6 0 = nI t := by rw [e11]; simp (disch := omega) only [zLet_e, zJn_e, zB1_s, zB2_s, zB3_s, zB4_s, zB5_s, zB6_s, zB7_s, zGd_in, zGd_b0, zGd_b1, rs_s, rs_n, upd_s, upd_n, ite_t, ite_f, if_true, if_false, ne_eq, not_true, not_false_iff, h6]
    exact Sm_ok ⟨i', s', nx', k', oR', oT', oS', oS2, ns', op', e1, e2, e3, e4, e5, e6, e7, e8, by rw [a5, a6]; exact p1, p2', by omega, by omega⟩
  · rw [if_neg k61] at his
    rw [lT_no his]
    refine Sm_st hl.2.1 ?_
    rw [hR]
    by_cases k0 : k = 0
    · subst k0
      exact cl_end hN he hc ht (by omega) h4 (Or.inl (by omega))
    · exact cl_bad hN he hc ht k0 (v := 1) (meet_eqb t4 h4 hk k61) (by omega) (by omega) hc.2.2.2.2
theorem lN_no {NN : Nat} {mB mL mS mW mW1 : Rc} {p x v : Int32} (hn : fX10_nameHere mB mL mW = some (nI 1, v, mW1)) : lNm NN mB p x mL mS mW = some (nI 1, mL, mS, mW1) := by
  unfold lNm
  simp (disch := omega) only [zLet_e, zJn_e, zB1_s, zB2_s, zB3_s, zB4_s, zB5_s, zB6_s, zB7_s, zGd_in, zGd_b0, zGd_b1, rs_s, rs_n, upd_s, upd_n, ite_t, ite_f, if_true, if_false, ne_eq, not_true, not_false_iff, nI_1, nI_add, nI_mul, nI_sub, nIc, nI_leI, nI_ltI, nI_eq, nI_m1, nI_m1', nI_lt0, nI_m2, ↓lq_m1, ↓lq_m2, ↓lq_m8, ↓lq_mm, lq_0, lq_1, lq_2, lq_3, lq_4, lq_5, lq_6, lq_7, lq_8, lq_9, lq_10, lq_12, lq_16, lq_20, lq_24, lq_31, lq_32, lq_40, lq_41, lq_42, lq_43, lq_45, lq_38, lq_48, lq_50, lq_57, lq_59, lq_60, lq_61, lq_63, lq_94, lq_96, lq_97, lq_100, lq_102, lq_104, lq_105, lq_120, lq_122, lq_123, lq_124, lq_125, lq_126, lq_255, lq_257, lq_600, lq_1000, lq_4096, lq_65535, lq_1000000, hn]
theorem lN_go {NN x : Nat} {mB mL mS mW mL1 : Rc} {p v : Int32} (hn : fX10_nameHere mB mL mW = some (nI 0, v, mW)) (hx : x < 96) (n1 : fX10_next NN mB mL = some mL1) : lNm NN mB p (nI x) mL mS mW = lT NN mB p (nI x) mL1 (rs mS 8 (upd (mS 8) x v)) mW := by
  unfold lNm
  simp (disch := omega) only [zLet_e, zJn_e, zB1_s, zB2_s, zB3_s, zB4_s, zB5_s, zB6_s, zB7_s, zGd_in, zGd_b0, zGd_b1, rs_s, rs_n, upd_s, upd_n, ite_t, ite_f, if_true, if_false, ne_eq, not_true, not_false_iff, nI_1, nI_add, nI_mul, nI_sub, nIc, nI_leI, nI_ltI, nI_eq, nI_m1, nI_m1', nI_lt0, nI_m2, ↓lq_m1, ↓lq_m2, ↓lq_m8, ↓lq_mm, lq_0, lq_1, lq_2, lq_3, lq_4, lq_5, lq_6, lq_7, lq_8, lq_9, lq_10, lq_12, lq_16, lq_20, lq_24, lq_31, lq_32, lq_40, lq_41, lq_42, lq_43, lq_45, lq_38, lq_48, lq_50, lq_57, lq_59, lq_60, lq_61, lq_63, lq_94, lq_96, lq_97, lq_100, lq_102, lq_104, lq_105, lq_120, lq_122, lq_123, lq_124, lq_125, lq_126, lq_255, lq_257, lq_600, lq_1000, lq_4096, lq_65535, lq_1000000, hn, n1]
theorem meet5 {NN v : Nat} {oR oT oS : Rc} (t4 : oT 4 0 = nI 2) (h4 : oR 4 0 = nI 5) (t8 : oT 8 0 = nI v) (hv : v < 8) : fX5_meet NN oR oT oS = some (nI 0, rs (rs oR 6 (fun _ => nI v)) 4 (fun _ => nI 6), oS) := by
  unfold fX5_meet fX5_meetLineName fX5_faultOfName
  simp (disch := omega) only [zLet_e, zJn_e, zB1_s, zB2_s, zB3_s, zB4_s, zB5_s, zB6_s, zB7_s, zGd_in, zGd_b0, zGd_b1, rs_s, rs_n, upd_s, upd_n, ite_t, ite_f, if_true, if_false, ne_eq, not_true, not_false_iff, nI_1, nI_add, nI_mul, nI_sub, nIc, nI_leI, nI_ltI, nI_eq, nI_m1, nI_m1', nI_lt0, nI_m2, ↓lq_m1, ↓lq_m2, ↓lq_m8, ↓lq_mm, lq_0, lq_1, lq_2, lq_3, lq_4, lq_5, lq_6, lq_7, lq_8, lq_9, lq_10, lq_12, lq_16, lq_20, lq_24, lq_31, lq_32, lq_40, lq_41, lq_42, lq_43, lq_45, lq_38, lq_48, lq_50, lq_57, lq_59, lq_60, lq_61, lq_63, lq_94, lq_96, lq_97, lq_100, lq_102, lq_104, lq_105, lq_120, lq_122, lq_123, lq_124, lq_125, lq_126, lq_255, lq_257, lq_600, lq_1000, lq_4096, lq_65535, lq_1000000, h4, t4, t8]
theorem meet5b {NN k : Nat} {oR oT oS : Rc} (t4 : oT 4 0 = nI k) (hk : k < 256) (h4 : oR 4 0 = nI 5) (t8 : oT 8 0 = nM 1) : fX5_meet NN oR oT oS = some (if k = 2 then nI 2 else nI 1, rs (rs oR 6 (fun _ => nM 1)) 4 (fun _ => nI 6), oS) := by
  unfold fX5_meet fX5_meetLineName fX5_faultOfName
  by_cases c : k = 2
  · subst c
    simp (disch := omega) only [zLet_e, zJn_e, zB1_s, zB2_s, zB3_s, zB4_s, zB5_s, zB6_s, zB7_s, zGd_in, zGd_b0, zGd_b1, rs_s, rs_n, upd_s, upd_n, ite_t, ite_f, if_true, if_false, ne_eq, not_true, not_false_iff, nI_1, nI_add, nI_mul, nI_sub, nIc, nI_leI, nI_ltI, nI_eq, nI_m1, nI_m1', nI_lt0, nI_m2, ↓lq_m1, ↓lq_m2, ↓lq_m8, ↓lq_mm, lq_0, lq_1, lq_2, lq_3, lq_4, lq_5, lq_6, lq_7, lq_8, lq_9, lq_10, lq_12, lq_16, lq_20, lq_24, lq_31, lq_32, lq_40, lq_41, lq_42, lq_43, lq_45, lq_38, lq_48, lq_50, lq_57, lq_59, lq_60, lq_61, lq_63, lq_94, lq_96, lq_97, lq_100, lq_102, lq_104, lq_105, lq_120, lq_122, lq_123, lq_124, lq_125, lq_126, lq_255, lq_257, lq_600, lq_1000, lq_4096, lq_65535, lq_1000000, h4, t4, t8]
  · simp (disch := omega) only [zLet_e, zJn_e, zB1_s, zB2_s, zB3_s, zB4_s, zB5_s, zB6_s, zB7_s, zGd_in, zGd_b0, zGd_b1, rs_s, rs_n, upd_s, upd_n, ite_t, ite_f, if_true, if_false, ne_eq, not_true, not_false_iff, nI_1, nI_add, nI_mul, nI_sub, nIc, nI_leI, nI_ltI, nI_eq, nI_m1, nI_m1', nI_lt0, nI_m2, ↓lq_m1, ↓lq_m2, ↓lq_m8, ↓lq_mm, lq_0, lq_1, lq_2, lq_3, lq_4, lq_5, lq_6, lq_7, lq_8, lq_9, lq_10, lq_12, lq_16, lq_20, lq_24, lq_31, lq_32, lq_40, lq_41, lq_42, lq_43, lq_45, lq_38, lq_48, lq_50, lq_57, lq_59, lq_60, lq_61, lq_63, lq_94, lq_96, lq_97, lq_100, lq_102, lq_104, lq_105, lq_120, lq_122, lq_123, lq_124, lq_125, lq_126, lq_255, lq_257, lq_600, lq_1000, lq_4096, lq_65535, lq_1000000, h4, t4, t8]
theorem meet4 {NN v : Nat} {oR oT oS : Rc} (t4 : oT 4 0 = nI 2) (h4 : oR 4 0 = nI 4) (t8 : oT 8 0 = nI v) (hv : v < 8) : fX5_meet NN oR oT oS = some (nI 0, rs (rs oR 5 (fun _ => nI v)) 4 (fun _ => nI 5), oS) := by
  unfold fX5_meet fX5_meetIfName fX5_faultOfName
  simp (disch := omega) only [zLet_e, zJn_e, zB1_s, zB2_s, zB3_s, zB4_s, zB5_s, zB6_s, zB7_s, zGd_in, zGd_b0, zGd_b1, rs_s, rs_n, upd_s, upd_n, ite_t, ite_f, if_true, if_false, ne_eq, not_true, not_false_iff, nI_1, nI_add, nI_mul, nI_sub, nIc, nI_leI, nI_ltI, nI_eq, nI_m1, nI_m1', nI_lt0, nI_m2, ↓lq_m1, ↓lq_m2, ↓lq_m8, ↓lq_mm, lq_0, lq_1, lq_2, lq_3, lq_4, lq_5, lq_6, lq_7, lq_8, lq_9, lq_10, lq_12, lq_16, lq_20, lq_24, lq_31, lq_32, lq_40, lq_41, lq_42, lq_43, lq_45, lq_38, lq_48, lq_50, lq_57, lq_59, lq_60, lq_61, lq_63, lq_94, lq_96, lq_97, lq_100, lq_102, lq_104, lq_105, lq_120, lq_122, lq_123, lq_124, lq_125, lq_126, lq_255, lq_257, lq_600, lq_1000, lq_4096, lq_65535, lq_1000000, h4, t4, t8]
theorem meet4b {NN k : Nat} {oR oT oS : Rc} (t4 : oT 4 0 = nI k) (hk : k < 256) (h4 : oR 4 0 = nI 4) (t8 : oT 8 0 = nM 1) : fX5_meet NN oR oT oS = some (if k = 2 then nI 2 else nI 1, rs (rs oR 5 (fun _ => nM 1)) 4 (fun _ => nI 5), oS) := by
  unfold fX5_meet fX5_meetIfName fX5_faultOfName
  by_cases c : k = 2
  · subst c
    simp (disch := omega) only [zLet_e, zJn_e, zB1_s, zB2_s, zB3_s, zB4_s, zB5_s, zB6_s, zB7_s, zGd_in, zGd_b0, zGd_b1, rs_s, rs_n, upd_s, upd_n, ite_t, ite_f, if_true, if_false, ne_eq, not_true, not_false_iff, nI_1, nI_add, nI_mul, nI_sub, nIc, nI_leI, nI_ltI, nI_eq, nI_m1, nI_m1', nI_lt0, nI_m2, ↓lq_m1, ↓lq_m2, ↓lq_m8, ↓lq_mm, lq_0, lq_1, lq_2, lq_3, lq_4, lq_5, lq_6, lq_7, lq_8, lq_9, lq_10, lq_12, lq_16, lq_20, lq_24, lq_31, lq_32, lq_40, lq_41, lq_42, lq_43, lq_45, lq_38, lq_48, lq_50, lq_57, lq_59, lq_60, lq_61, lq_63, lq_94, lq_96, lq_97, lq_100, lq_102, lq_104, lq_105, lq_120, lq_122, lq_123, lq_124, lq_125, lq_126, lq_255, lq_257, lq_600, lq_1000, lq_4096, lq_65535, lq_1000000, h4, t4, t8]
  · simp (disch := omega) only [zLet_e, zJn_e, zB1_s, zB2_s, zB3_s, zB4_s, zB5_s, zB6_s, zB7_s, zGd_in, zGd_b0, zGd_b1, rs_s, rs_n, upd_s, upd_n, ite_t, ite_f, if_true, if_false, ne_eq, not_true, not_false_iff, nI_1, nI_add, nI_mul, nI_sub, nIc, nI_leI, nI_ltI, nI_eq, nI_m1, nI_m1', nI_lt0, nI_m2, ↓lq_m1, ↓lq_m2, ↓lq_m8, ↓lq_mm, lq_0, lq_1, lq_2, lq_3, lq_4, lq_5, lq_6, lq_7, lq_8, lq_9, lq_10, lq_12, lq_16, lq_20, lq_24, lq_31, lq_32, lq_40, lq_41, lq_42, lq_43, lq_45, lq_38, lq_48, lq_50, lq_57, lq_59, lq_60, lq_61, lq_63, lq_94, lq_96, lq_97, lq_100, lq_102, lq_104, lq_105, lq_120, lq_122, lq_123, lq_124, lq_125, lq_126, lq_255, lq_257, lq_600, lq_1000, lq_4096, lq_65535, lq_1000000, h4, t4, t8]
theorem full_e {nb j a : Nat} {oS : Rc} (h0 : oS 0 0 = nI (nb + 1)) (hb : nb < 12) (h7 : oS 7 nb = nI a) (h7' : oS 7 (nb + 1) = nI (a + j)) (hj : j ≤ 8) : fX4_latestBlockIsFull oS = some (if j = 8 then nI 1 else nI 0) := by
  unfold fX4_latestBlockIsFull fX4_linesIn
  by_cases c : j = 8
  · subst c
    simp (disch := omega) only [zLet_e, zJn_e, zB1_s, zB2_s, zB3_s, zB4_s, zB5_s, zB6_s, zB7_s, zGd_in, zGd_b0, zGd_b1, rs_s, rs_n, upd_s, upd_n, ite_t, ite_f, if_true, if_false, ne_eq, not_true, not_false_iff, nI_1, nI_add, nI_mul, nI_sub, nIc, nI_leI, nI_ltI, nI_eq, nI_m1, nI_m1', nI_lt0, nI_m2, ↓lq_m1, ↓lq_m2, ↓lq_m8, ↓lq_mm, lq_0, lq_1, lq_2, lq_3, lq_4, lq_5, lq_6, lq_7, lq_8, lq_9, lq_10, lq_12, lq_16, lq_20, lq_24, lq_31, lq_32, lq_40, lq_41, lq_42, lq_43, lq_45, lq_38, lq_48, lq_50, lq_57, lq_59, lq_60, lq_61, lq_63, lq_94, lq_96, lq_97, lq_100, lq_102, lq_104, lq_105, lq_120, lq_122, lq_123, lq_124, lq_125, lq_126, lq_255, lq_257, lq_600, lq_1000, lq_4096, lq_65535, lq_1000000, h0, h7, h7', Nat.add_sub_cancel, Nat.add_sub_cancel_left]
  · simp (disch := omega) only [zLet_e, zJn_e, zB1_s, zB2_s, zB3_s, zB4_s, zB5_s, zB6_s, zB7_s, zGd_in, zGd_b0, zGd_b1, rs_s, rs_n, upd_s, upd_n, ite_t, ite_f, if_true, if_false, ne_eq, not_true, not_false_iff, nI_1, nI_add, nI_mul, nI_sub, nIc, nI_leI, nI_ltI, nI_eq, nI_m1, nI_m1', nI_lt0, nI_m2, ↓lq_m1, ↓lq_m2, ↓lq_m8, ↓lq_mm, lq_0, lq_1, lq_2, lq_3, lq_4, lq_5, lq_6, lq_7, lq_8, lq_9, lq_10, lq_12, lq_16, lq_20, lq_24, lq_31, lq_32, lq_40, lq_41, lq_42, lq_43, lq_45, lq_38, lq_48, lq_50, lq_57, lq_59, lq_60, lq_61, lq_63, lq_94, lq_96, lq_97, lq_100, lq_102, lq_104, lq_105, lq_120, lq_122, lq_123, lq_124, lq_125, lq_126, lq_255, lq_257, lq_600, lq_1000, lq_4096, lq_65535, lq_1000000, h0, h7, h7', Nat.add_sub_cancel, Nat.add_sub_cancel_left]
theorem meet3b {NN k : Nat} {oR oT oS : Rc} (t4 : oT 4 0 = nI k) (hk : k < 256) (h4 : oR 4 0 = nI 3) (t8 : oT 8 0 = nM 1) (t9 : oT 9 0 = nI 0) : fX5_meet NN oR oT oS = some (if k = 2 then nI 2 else nI 1, oR, oS) := by
  unfold fX5_meet fX5_meetLine fX5_faultOfName
  by_cases c : k = 2
  · subst c
    simp (disch := omega) only [zLet_e, zJn_e, zB1_s, zB2_s, zB3_s, zB4_s, zB5_s, zB6_s, zB7_s, zGd_in, zGd_b0, zGd_b1, rs_s, rs_n, upd_s, upd_n, ite_t, ite_f, if_true, if_false, ne_eq, not_true, not_false_iff, nI_1, nI_add, nI_mul, nI_sub, nIc, nI_leI, nI_ltI, nI_eq, nI_m1, nI_m1', nI_lt0, nI_m2, ↓lq_m1, ↓lq_m2, ↓lq_m8, ↓lq_mm, lq_0, lq_1, lq_2, lq_3, lq_4, lq_5, lq_6, lq_7, lq_8, lq_9, lq_10, lq_12, lq_16, lq_20, lq_24, lq_31, lq_32, lq_40, lq_41, lq_42, lq_43, lq_45, lq_38, lq_48, lq_50, lq_57, lq_59, lq_60, lq_61, lq_63, lq_94, lq_96, lq_97, lq_100, lq_102, lq_104, lq_105, lq_120, lq_122, lq_123, lq_124, lq_125, lq_126, lq_255, lq_257, lq_600, lq_1000, lq_4096, lq_65535, lq_1000000, h4, t4, t8, t9]
  · simp (disch := omega) only [zLet_e, zJn_e, zB1_s, zB2_s, zB3_s, zB4_s, zB5_s, zB6_s, zB7_s, zGd_in, zGd_b0, zGd_b1, rs_s, rs_n, upd_s, upd_n, ite_t, ite_f, if_true, if_false, ne_eq, not_true, not_false_iff, nI_1, nI_add, nI_mul, nI_sub, nIc, nI_leI, nI_ltI, nI_eq, nI_m1, nI_m1', nI_lt0, nI_m2, ↓lq_m1, ↓lq_m2, ↓lq_m8, ↓lq_mm, lq_0, lq_1, lq_2, lq_3, lq_4, lq_5, lq_6, lq_7, lq_8, lq_9, lq_10, lq_12, lq_16, lq_20, lq_24, lq_31, lq_32, lq_40, lq_41, lq_42, lq_43, lq_45, lq_38, lq_48, lq_50, lq_57, lq_59, lq_60, lq_61, lq_63, lq_94, lq_96, lq_97, lq_100, lq_102, lq_104, lq_105, lq_120, lq_122, lq_123, lq_124, lq_125, lq_126, lq_255, lq_257, lq_600, lq_1000, lq_4096, lq_65535, lq_1000000, h4, t4, t8, t9]
theorem meet3full {NN v : Nat} {oR oT oS : Rc} (t4 : oT 4 0 = nI 2) (h4 : oR 4 0 = nI 3) (t8 : (oT 8 0 = nI v ∧ v < 8 ∧ oT 9 0 = nI 0) ∨ oT 9 0 = nI 1) (hf : fX4_latestBlockIsFull oS = some (nI 1)) : fX5_meet NN oR oT oS = some (nI 5, oR, oS) := by
  unfold fX5_meet fX5_meetLine fX5_faultOfName
  rcases t8 with ⟨a, b, c⟩ | a
  · simp (disch := omega) only [zLet_e, zJn_e, zB1_s, zB2_s, zB3_s, zB4_s, zB5_s, zB6_s, zB7_s, zGd_in, zGd_b0, zGd_b1, rs_s, rs_n, upd_s, upd_n, ite_t, ite_f, if_true, if_false, ne_eq, not_true, not_false_iff, nI_1, nI_add, nI_mul, nI_sub, nIc, nI_leI, nI_ltI, nI_eq, nI_m1, nI_m1', nI_lt0, nI_m2, ↓lq_m1, ↓lq_m2, ↓lq_m8, ↓lq_mm, lq_0, lq_1, lq_2, lq_3, lq_4, lq_5, lq_6, lq_7, lq_8, lq_9, lq_10, lq_12, lq_16, lq_20, lq_24, lq_31, lq_32, lq_40, lq_41, lq_42, lq_43, lq_45, lq_38, lq_48, lq_50, lq_57, lq_59, lq_60, lq_61, lq_63, lq_94, lq_96, lq_97, lq_100, lq_102, lq_104, lq_105, lq_120, lq_122, lq_123, lq_124, lq_125, lq_126, lq_255, lq_257, lq_600, lq_1000, lq_4096, lq_65535, lq_1000000, h4, t4, a, c, hf]
  · simp (disch := omega) only [zLet_e, zJn_e, zB1_s, zB2_s, zB3_s, zB4_s, zB5_s, zB6_s, zB7_s, zGd_in, zGd_b0, zGd_b1, rs_s, rs_n, upd_s, upd_n, ite_t, ite_f, if_true, if_false, ne_eq, not_true, not_false_iff, nI_1, nI_add, nI_mul, nI_sub, nIc, nI_leI, nI_ltI, nI_eq, nI_m1, nI_m1', nI_lt0, nI_m2, ↓lq_m1, ↓lq_m2, ↓lq_m8, ↓lq_mm, lq_0, lq_1, lq_2, lq_3, lq_4, lq_5, lq_6, lq_7, lq_8, lq_9, lq_10, lq_12, lq_16, lq_20, lq_24, lq_31, lq_32, lq_40, lq_41, lq_42, lq_43, lq_45, lq_38, lq_48, lq_50, lq_57, lq_59, lq_60, lq_61, lq_63, lq_94, lq_96, lq_97, lq_100, lq_102, lq_104, lq_105, lq_120, lq_122, lq_123, lq_124, lq_125, lq_126, lq_255, lq_257, lq_600, lq_1000, lq_4096, lq_65535, lq_1000000, h4, t4, a, hf]
theorem meet3n {NN v : Nat} {oR oT oS : Rc} (t4 : oT 4 0 = nI 2) (h4 : oR 4 0 = nI 3) (t8 : oT 8 0 = nI v) (hv : v < 8) (t9 : oT 9 0 = nI 0) (hf : fX4_latestBlockIsFull oS = some (nI 0)) : fX5_meet NN oR oT oS = some (nI 0, rs (rs (rs oR 5 (fun _ => nM 1)) 6 (fun _ => nI v)) 4 (fun _ => nI 6), oS) := by
  unfold fX5_meet fX5_meetLine fX5_meetLineName fX5_faultOfName
  simp (disch := omega) only [zLet_e, zJn_e, zB1_s, zB2_s, zB3_s, zB4_s, zB5_s, zB6_s, zB7_s, zGd_in, zGd_b0, zGd_b1, rs_s, rs_n, upd_s, upd_n, ite_t, ite_f, if_true, if_false, ne_eq, not_true, not_false_iff, nI_1, nI_add, nI_mul, nI_sub, nIc, nI_leI, nI_ltI, nI_eq, nI_m1, nI_m1', nI_lt0, nI_m2, ↓lq_m1, ↓lq_m2, ↓lq_m8, ↓lq_mm, lq_0, lq_1, lq_2, lq_3, lq_4, lq_5, lq_6, lq_7, lq_8, lq_9, lq_10, lq_12, lq_16, lq_20, lq_24, lq_31, lq_32, lq_40, lq_41, lq_42, lq_43, lq_45, lq_38, lq_48, lq_50, lq_57, lq_59, lq_60, lq_61, lq_63, lq_94, lq_96, lq_97, lq_100, lq_102, lq_104, lq_105, lq_120, lq_122, lq_123, lq_124, lq_125, lq_126, lq_255, lq_257, lq_600, lq_1000, lq_4096, lq_65535, lq_1000000, h4, t4, t8, t9, hf]
theorem meet3i {NN op : Nat} {oR oT oS : Rc} (h4 : oR 4 0 = nI 3) (t9 : oT 9 0 = nI 1) (hf : fX4_latestBlockIsFull oS = some (nI 0)) (s3 : oS 3 0 = nI op) (ho : op < 120) : fX5_meet NN oR oT oS = some (nI 0, rs (rs oR 5 (fun _ => nM 1)) 4 (fun _ => nI 4), rs oS 3 (fun _ => nI (op + 1))) := by
  unfold fX5_meet fX5_meetLine
  simp (disch := omega) only [zLet_e, zJn_e, zB1_s, zB2_s, zB3_s, zB4_s, zB5_s, zB6_s, zB7_s, zGd_in, zGd_b0, zGd_b1, rs_s, rs_n, upd_s, upd_n, ite_t, ite_f, if_true, if_false, ne_eq, not_true, not_false_iff, nI_1, nI_add, nI_mul, nI_sub, nIc, nI_leI, nI_ltI, nI_eq, nI_m1, nI_m1', nI_lt0, nI_m2, ↓lq_m1, ↓lq_m2, ↓lq_m8, ↓lq_mm, lq_0, lq_1, lq_2, lq_3, lq_4, lq_5, lq_6, lq_7, lq_8, lq_9, lq_10, lq_12, lq_16, lq_20, lq_24, lq_31, lq_32, lq_40, lq_41, lq_42, lq_43, lq_45, lq_38, lq_48, lq_50, lq_57, lq_59, lq_60, lq_61, lq_63, lq_94, lq_96, lq_97, lq_100, lq_102, lq_104, lq_105, lq_120, lq_122, lq_123, lq_124, lq_125, lq_126, lq_255, lq_257, lq_600, lq_1000, lq_4096, lq_65535, lq_1000000, h4, t9, hf, mOp_ok (oS := oS) s3 ho]
theorem meet3i5 {NN : Nat} {oR oT oS : Rc} (h4 : oR 4 0 = nI 3) (t9 : oT 9 0 = nI 1) (hf : fX4_latestBlockIsFull oS = some (nI 0)) (s3 : oS 3 0 = nI 120) : fX5_meet NN oR oT oS = some (nI 5, rs oR 5 (fun _ => nM 1), oS) := by
  unfold fX5_meet fX5_meetLine
  simp (disch := omega) only [zLet_e, zJn_e, zB1_s, zB2_s, zB3_s, zB4_s, zB5_s, zB6_s, zB7_s, zGd_in, zGd_b0, zGd_b1, rs_s, rs_n, upd_s, upd_n, ite_t, ite_f, if_true, if_false, ne_eq, not_true, not_false_iff, nI_1, nI_add, nI_mul, nI_sub, nIc, nI_leI, nI_ltI, nI_eq, nI_m1, nI_m1', nI_lt0, nI_m2, ↓lq_m1, ↓lq_m2, ↓lq_m8, ↓lq_mm, lq_0, lq_1, lq_2, lq_3, lq_4, lq_5, lq_6, lq_7, lq_8, lq_9, lq_10, lq_12, lq_16, lq_20, lq_24, lq_31, lq_32, lq_40, lq_41, lq_42, lq_43, lq_45, lq_38, lq_48, lq_50, lq_57, lq_59, lq_60, lq_61, lq_63, lq_94, lq_96, lq_97, lq_100, lq_102, lq_104, lq_105, lq_120, lq_122, lq_123, lq_124, lq_125, lq_126, lq_255, lq_257, lq_600, lq_1000, lq_4096, lq_65535, lq_1000000, h4, t9, hf, mOp_no (oS := oS) s3]
