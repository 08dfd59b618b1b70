/-! own part (pure): a BLOCK -/
def bL (NN : Nat) (mB : Rc) : Rc → Rc → Rc → Option (Int32 × Rc × Rc × Rc) := fun (mL_14 : Rc) (mS_15 : Rc) (mW_16 : Rc) =>
                        zB3 (fX10_need NN mB mL_14 mW_16 (125 : Int32)) fun fl18 mL_19 mW_20 =>
                        if fl18 = 1 then (
                          some ((1 : Int32), mL_19, mS_15, mW_20)
                        ) else (
                          zLet (rs mS_15 0 (fun _ => ((mS_15 0 0) + (1 : Int32)))) fun mS_21 =>
                          some ((0 : Int32), mL_19, mS_21, mW_20)
                        )
def bT (NN : Nat) (mB mL mW : Rc) (x2 : Int32) : Rc → Option (Int32 × Rc × Rc × Rc) := fun (mS_4 : Rc) =>
              zB1 (fX10_next NN mB mL) fun mL_6 =>
              if (mL_6 15 0) = (3 : Int32) then (
                zB1 (fX10_in (mL_6 18 0) (1 : Int32) (50 : Int32)) fun v7 =>
                if v7 = 0 then (
                  zB1 (fX10_stop mL_6 mW (4 : Int32)) fun mW_33 =>
                  some ((1 : Int32), mL_6, mS_4, mW_33)
                ) else (
                  zGd (inb x2 12) <|
                  zLet (rs mS_4 4 (upd (mS_4 4) x2.toNatClampNeg (mL_6 18 0))) fun mS_8 =>
                  zGd (inb x2 12) <|
                  zLet (rs mS_8 5 (upd (mS_8 5) x2.toNatClampNeg (0 : Int32))) fun mS_9 =>
                  zB1 (fX10_next NN mB mL_6) fun mL_10 =>
                  zB3 (fX10_need NN mB mL_10 mW (123 : Int32)) fun fl11 mL_12 mW_13 =>
                  if fl11 = 1 then (
                    some ((1 : Int32), mL_12, mS_9, mW_13)
                  ) else (
                    fX10_readBlock_L199 mB NN x2 (bL NN mB) NN (1 : Int32) mL_12 mS_9 mW_13
                  )
                )
              ) else (
                zB1 (fX10_stop mL_6 mW (1 : Int32)) fun mW_34 =>
                some ((1 : Int32), mL_6, mS_4, mW_34)
              )
def bU (NN : Nat) (mB mL mS mW : Rc) : Unit → Option (Int32 × Rc × Rc × Rc) := fun (_ : Unit) =>
        if (mS 0 0) = (12 : Int32) then (
          zB1 (fX10_stop mL mW (5 : Int32)) fun mW_40 =>
          some ((1 : Int32), mL, mS, mW_40)
        ) else (
          zLet (mS 0 0) fun x2 =>
          zGd (inb x2 12) <|
          zLet (rs mS 3 (upd (mS 3) x2.toNatClampNeg (mL 19 0))) fun mS_3 =>
          fX10_readBlock_L88 mB mL x2 (bT NN mB mL mW x2) NN (0 : Int32) mS_3
        )
theorem readBlock_e (NN : Nat) (mB mL mS mW : Rc) : fX10_readBlock NN mB mL mS mW = (
  if (mL 15 0) = (2 : Int32) then (
    fX10_readBlock_L16 mB mL mS mW NN (bU NN mB mL mS mW) NN (0 : Int32)
  ) else (
    zB1 (fX10_stop mL mW (1 : Int32)) fun mW_46 =>
    some ((1 : Int32), mL, mS, mW_46)
  )) := rfl
theorem L199_e {NN n : Nat} {mB mL mS mW : Rc} {x : Int32} {J : Rc → Rc → Rc → Option (Int32 × Rc × Rc × Rc)} : fX10_readBlock_L199 mB NN x J (n + 1) (nI 1) mL mS mW = zB4 (fX10_readLine NN mB mL mS mW x) (fun fl a b c => if fl = nI 1 then some (nI 1, a, b, c) else zB1 (fX10_is a (nI 59)) fun v => if v = nI 0 then fX10_readBlock_L199 mB NN x J n v a b c else zB1 (fX10_next NN mB a) fun l => fX10_readBlock_L199 mB NN x J n v l b c) := by
  rw [fX10_readBlock_L199_s]
  rw [if_neg (by decide)]
  rfl
theorem L199_0 {NN n : Nat} {mB mL mS mW : Rc} {x : Int32} {J : Rc → Rc → Rc → Option (Int32 × Rc × Rc × Rc)} : fX10_readBlock_L199 mB NN x J (n + 1) (nI 0) mL mS mW = J mL mS mW := by
  rw [fX10_readBlock_L199_s]
  exact if_pos rfl
def BPost (B : Nat → Nat) (e NN nb s0 : Nat) (R : Option (Int32 × Rc × Rc × Rc)) (mL' mS' : Rc) : Prop := ∃ i' s' nx' k' oR' oT' oS' ns' ln' op', R = CL NN i' oR' oT' oS' ∧ CB B e i' s' nx' k' oR' oT' oS' ∧ Tk B e s' nx' k' ∧ T10 B e s' nx' k' mL' ∧ mL' 20 0 = nI 0 ∧ oR' 4 0 = nI 0 ∧ BI (nb + 1) oS' mS' ns' ln' op' ∧ s0 < s' ∧ ns' ≤ s'
theorem bL_no {NN : Nat} {mB mL mS mW : Rc} (his : fX10_is mL (nI 125) = some (nI 0)) : bL NN mB mL mS mW = some (nI 1, mL, mS, rs (rs mW 6 (fun _ => nI 1)) 7 (fun _ => mL 16 0)) := by
  unfold bL fX10_need
  simp (disch := omega) only [zLet_e, zJn_e, zB1_s, zB2_s, zB3_s, zB4_s, zB5_s, zB6_s, zB7_s, zGd_in, zGd_b0, zGd_b1, rs_s, rs_n, upd_s, upd_n, ite_t, ite_f, if_true, if_false, ne_eq, not_true, not_false_iff, nI_1, nI_add, nI_mul, nI_sub, nIc, nI_leI, nI_ltI, nI_eq, nI_m1, nI_m1', nI_lt0, nI_m2, ↓lq_m1, ↓lq_m2, ↓lq_m8, ↓lq_mm, lq_0, lq_1, lq_2, lq_3, lq_4, lq_5, lq_6, lq_7, lq_8, lq_9, lq_10, lq_12, lq_16, lq_20, lq_24, lq_31, lq_32, lq_40, lq_41, lq_42, lq_43, lq_45, lq_38, lq_48, lq_50, lq_57, lq_59, lq_60, lq_61, lq_63, lq_94, lq_96, lq_97, lq_100, lq_102, lq_104, lq_105, lq_120, lq_122, lq_123, lq_124, lq_125, lq_126, lq_255, lq_257, lq_600, lq_1000, lq_4096, lq_65535, lq_1000000, his, stop_e]
theorem bL_ok {NN nb : Nat} {mB mL mS mW mL1 : Rc} (his : fX10_is mL (nI 125) = some (nI 1)) (n1 : fX10_next NN mB mL = some mL1) (m0 : mS 0 0 = nI nb) : bL NN mB mL mS mW = some (nI 0, mL1, rs mS 0 (fun _ => nI (nb + 1)), mW) := by
  unfold bL fX10_need
  simp (disch := omega) only [zLet_e, zJn_e, zB1_s, zB2_s, zB3_s, zB4_s, zB5_s, zB6_s, zB7_s, zGd_in, zGd_b0, zGd_b1, rs_s, rs_n, upd_s, upd_n, ite_t, ite_f, if_true, if_false, ne_eq, not_true, not_false_iff, nI_1, nI_add, nI_mul, nI_sub, nIc, nI_leI, nI_ltI, nI_eq, nI_m1, nI_m1', nI_lt0, nI_m2, ↓lq_m1, ↓lq_m2, ↓lq_m8, ↓lq_mm, lq_0, lq_1, lq_2, lq_3, lq_4, lq_5, lq_6, lq_7, lq_8, lq_9, lq_10, lq_12, lq_16, lq_20, lq_24, lq_31, lq_32, lq_40, lq_41, lq_42, lq_43, lq_45, lq_38, lq_48, lq_50, lq_57, lq_59, lq_60, lq_61, lq_63, lq_94, lq_96, lq_97, lq_100, lq_102, lq_104, lq_105, lq_120, lq_122, lq_123, lq_124, lq_125, lq_126, lq_255, lq_257, lq_600, lq_1000, lq_4096, lq_65535, lq_1000000, his, n1, m0]
theorem meet_semi {NN : Nat} {oR oT oS oS2 : Rc} (t4 : oT 4 0 = nI 59) (h4 : oR 4 0 = nI 8) (h7 : oR 7 0 = nI 0) (ha : fX4_addLine oS (oR 5 0) (oR 6 0) = some oS2) : fX5_meet NN oR oT oS = some (nI 0, rs oR 4 (fun _ => nI 3), oS2) := by
  have hsg : fX6_isSignByte (nI 59) = some (nI 0) := by decide +kernel
  unfold fX5_meet fX5_meetBehindPart fX6_isSign
  simp (disch := omega) only [zLet_e, zJn_e, zB1_s, zB2_s, zB3_s, zB4_s, zB5_s, zB6_s, zB7_s, zGd_in, zGd_b0, zGd_b1, rs_s, rs_n, upd_s, upd_n, ite_t, ite_f, if_true, if_false, ne_eq, not_true, not_false_iff, nI_1, nI_add, nI_mul, nI_sub, nIc, nI_leI, nI_ltI, nI_eq, nI_m1, nI_m1', nI_lt0, nI_m2, ↓lq_m1, ↓lq_m2, ↓lq_m8, ↓lq_mm, lq_0, lq_1, lq_2, lq_3, lq_4, lq_5, lq_6, lq_7, lq_8, lq_9, lq_10, lq_12, lq_16, lq_20, lq_24, lq_31, lq_32, lq_40, lq_41, lq_42, lq_43, lq_45, lq_38, lq_48, lq_50, lq_57, lq_59, lq_60, lq_61, lq_63, lq_94, lq_96, lq_97, lq_100, lq_102, lq_104, lq_105, lq_120, lq_122, lq_123, lq_124, lq_125, lq_126, lq_255, lq_257, lq_600, lq_1000, lq_4096, lq_65535, lq_1000000, h4, t4, hsg, h7, ha]
theorem meet_brc {NN : Nat} {oR oT oS oS2 : Rc} (t4 : oT 4 0 = nI 125) (h4 : oR 4 0 = nI 8) (h7 : oR 7 0 = nI 0) (ha : fX4_addLine oS (oR 5 0) (oR 6 0) = some oS2) : fX5_meet NN oR oT oS = some (nI 0, rs oR 4 (fun _ => nI 0), oS2) := by
  have hsg : fX6_isSignByte (nI 125) = some (nI 0) := by decide +kernel
  unfold fX5_meet fX5_meetBehindPart fX6_isSign
  simp (disch := omega) only [zLet_e, zJn_e, zB1_s, zB2_s, zB3_s, zB4_s, zB5_s, zB6_s, zB7_s, zGd_in, zGd_b0, zGd_b1, rs_s, rs_n, upd_s, upd_n, ite_t, ite_f, if_true, if_false, ne_eq, not_true, not_false_iff, nI_1, nI_add, nI_mul, nI_sub, nIc, nI_leI, nI_ltI, nI_eq, nI_m1, nI_m1', nI_lt0, nI_m2, ↓lq_m1, ↓lq_m2, ↓lq_m8, ↓lq_mm, lq_0, lq_1, lq_2, lq_3, lq_4, lq_5, lq_6, lq_7, lq_8, lq_9, lq_10, lq_12, lq_16, lq_20, lq_24, lq_31, lq_32, lq_40, lq_41, lq_42, lq_43, lq_45, lq_38, lq_48, lq_50, lq_57, lq_59, lq_60, lq_61, lq_63, lq_94, lq_96, lq_97, lq_100, lq_102, lq_104, lq_105, lq_120, lq_122, lq_123, lq_124, lq_125, lq_126, lq_255, lq_257, lq_600, lq_1000, lq_4096, lq_65535, lq_1000000, h4, t4, hsg, h7, ha]
theorem meet_eb {NN k : Nat} {oR oT oS : Rc} (t4 : oT 4 0 = nI k) (hk : k < 256) (hsg : isSg k = false) (h4 : oR 4 0 = nI 8) (h7 : oR 7 0 = nI 0) (k1 : k ≠ 59) (k2 : k ≠ 125) : fX5_meet NN oR oT oS = some (nI 1, oR, oS) := by
  have hsg' := isSignByte6 hk
  rw [hsg] at hsg'
  unfold fX5_meet fX5_meetBehindPart fX6_isSign
  simp (disch := omega) only [zLet_e, zJn_e, zB1_s, zB2_s, zB3_s, zB4_s, zB5_s, zB6_s, zB7_s, zGd_in, zGd_b0, zGd_b1, rs_s, rs_n, upd_s, upd_n, ite_t, ite_f, if_true, if_false, ne_eq, not_true, not_false_iff, nI_1, nI_add, nI_mul, nI_sub, nIc, nI_leI, nI_ltI, nI_eq, nI_m1, nI_m1', nI_lt0, nI_m2, ↓lq_m1, ↓lq_m2, ↓lq_m8, ↓lq_mm, lq_0, lq_1, lq_2, lq_3, lq_4, lq_5, lq_6, lq_7, lq_8, lq_9, lq_10, lq_12, lq_16, lq_20, lq_24, lq_31, lq_32, lq_40, lq_41, lq_42, lq_43, lq_45, lq_38, lq_48, lq_50, lq_57, lq_59, lq_60, lq_61, lq_63, lq_94, lq_96, lq_97, lq_100, lq_102, lq_104, lq_105, lq_120, lq_122, lq_123, lq_124, lq_125, lq_126, lq_255, lq_257, lq_600, lq_1000, lq_4096, lq_65535, lq_1000000, h4, t4, hsg', bI_f, h7]
theorem BI_of {nb ns op : Nat} {oS mS : Rc} {ln : Nat → Nat} (h : LI nb oS mS ns ln op) : BI (nb + 1) oS (rs mS 0 (fun _ => nI (nb + 1))) ns ln op := by
  obtain ⟨h1, h2, h3, h4, h5, h6, h7, h8⟩ := h
  refine ⟨h2, by simp (disch := omega) only [zLet_e, zJn_e, zB1_s, zB2_s, zB3_s, zB4_s, zB5_s, zB6_s, zB7_s, zGd_in, zGd_b0, zGd_b1, rs_s, rs_n, upd_s, upd_n, ite_t, ite_f, if_true, if_false, ne_eq, not_true, not_false_iff], ?_, h5, h6, ?_, h8⟩
  · exact Pg_fr h4 (Nat.le_refl _) (fun _ _ _ => rfl) (fun _ _ => rfl) (fun j _ _ => rs_n _ _ (by omega)) (fun b i _ _ => by
      refine ⟨?_, ?_, ?_, ?_⟩ <;> rw [rs_n _ _ (by omega)]) (fun i hi => by rw [rs_n _ _ (by omega)])
  · obtain ⟨a1, a2, a3, a4, a5, a6, a7⟩ := h7
    exact ⟨a1, by simp (disch := omega) only [zLet_e, zJn_e, zB1_s, zB2_s, zB3_s, zB4_s, zB5_s, zB6_s, zB7_s, zGd_in, zGd_b0, zGd_b1, rs_s, rs_n, upd_s, upd_n, ite_t, ite_f, if_true, if_false, ne_eq, not_true, not_false_iff, a2], fun i hi => by simp (disch := omega) only [zLet_e, zJn_e, zB1_s, zB2_s, zB3_s, zB4_s, zB5_s, zB6_s, zB7_s, zGd_in, zGd_b0, zGd_b1, rs_s, rs_n, upd_s, upd_n, ite_t, ite_f, if_true, if_false, ne_eq, not_true, not_false_iff]; exact a3 i hi, Hts_0 _ _, a5, by simp (disch := omega) only [zLet_e, zJn_e, zB1_s, zB2_s, zB3_s, zB4_s, zB5_s, zB6_s, zB7_s, zGd_in, zGd_b0, zGd_b1, rs_s, rs_n, upd_s, upd_n, ite_t, ite_f, if_true, if_false, ne_eq, not_true, not_false_iff, a6], a7⟩
set_option maxHeartbeats 8000000 in
theorem lineLoop {B : Nat → Nat} {e NN nb s0 : Nat} {mB : Rc} {R : Option (Int32 × Rc × Rc × Rc)} (hN : 1000 ≤ NN) (he : e ≤ 600) (hB : ∀ i, B i < 256) (hM : ∀ i, i < 600 → mB 11 i = sx (B i)) : ∀ (n i s nx k : Nat) (oR oT oS mL mS mW : Rc) (ns op : Nat) (ln : Nat → Nat), e - s + 1 < n → R = CL NN i oR oT oS → CB B e i s nx k oR oT oS → Tk B e s nx k → T10 B e s nx k mL → mL 20 0 = nI 0 → oR 4 0 = nI 3 → LI nb oS mS ns ln op → ns ≤ s → s0 ≤ s → Sm B R (fX10_readBlock_L199 mB NN (nI nb) (bL NN mB) n (nI 1) mL mS mW) (fun mL' mS' _ => BPost B e NN nb s0 R mL' mS') := by
  intro n
  induction n with
  | zero => intro i s nx k oR oT oS mL mS mW ns op ln hn; omega
  | succ n ih =>
    intro i s nx k oR oT oS mL mS mW ns op ln hn hR hc ht hl h20 h4 hI hns hs0
    rw [L199_e]
    refine Sm_b4 (lineS hN he hB hM hR hc ht hl h20 h4 hI hns) ?_ (fun a b d => if_pos rfl)
    intro mL2 mS2 mW2 ⟨i', s', nx', k', oR', oT', oS', oS2, ns', op', e1, e2, e3, e4, e5, e6, e7, e8, e9, e10, e11, e12⟩
    show Sm B R (if nI 0 = nI 1 then _ else _) _
    rw [if_neg (by decide)]
    have hk' := e3.2.2.2.1
    have t4' : oT' 4 0 = nI k' := e2.2.1.2.2.1
    have his := is10 (c := 59) e4 hk' (by omega) (by omega)
    have his' := is10 (c := 125) e4 hk' (by omega) (by omega)
    by_cases k59 : k' = 59
    · subst k59
      rw [if_pos rfl] at his
      obtain ⟨mL3, n1, n2, n3⟩ := adv10 (mB := mB) (NN := NN) he hB hM (by omega) e4 (by omega) e3
      obtain ⟨oT1, q1, q2, q3, q4⟩ := cl_ok hN he hB e2 e3 (by omega) (meet_semi (NN := NN) t4' e7 e8 e9) e10.2.2.2.2.2.2.2
      have hsn := e3.2.2.1 (by omega)
      have hne := e3.2.1
      rw [his, zB1_s, if_neg (by decide), n1, zB1_s]
      exact ih _ _ _ _ _ oT1 oS2 mL3 mS2 mW2 ns' op' (lnp ln nb) (by omega) (e1.trans q1) q2 q3 n2 (by rw [n3]; exact e5) (by simp (disch := omega) only [zLet_e, zJn_e, zB1_s, zB2_s, zB3_s, zB4_s, zB5_s, zB6_s, zB7_s, zGd_in, zGd_b0, zGd_b1, rs_s, rs_n, upd_s, upd_n, ite_t, ite_f, if_true, if_false, ne_eq, not_true, not_false_iff]) e10 (by omega) (by omega)
    · rw [if_neg k59] at his
      rw [his, zB1_s, if_pos rfl]
      obtain ⟨n, rfl⟩ : ∃ n', n = n' + 1 := ⟨n - 1, by omega⟩
      rw [L199_0]
      by_cases k125 : k' = 125
      · subst k125
        rw [if_pos rfl] at his'
        obtain ⟨mL3, n1, n2, n3⟩ := adv10 (mB := mB) (NN := NN) he hB hM (by omega) e4 (by omega) e3
        obtain ⟨oT1, q1, q2, q3, q4⟩ := cl_ok hN he hB e2 e3 (by omega) (meet_brc (NN := NN) t4' e7 e8 e9) e10.2.2.2.2.2.2.2
        have hsn := e3.2.2.1 (by omega)
        rw [bL_ok his' n1 e10.2.2.1]
        exact Sm_ok ⟨_, _, _, _, _, oT1, oS2, ns', lnp ln nb, op', e1.trans q1, q2, q3, n2, by rw [n3]; exact e5, by simp (disch := omega) only [zLet_e, zJn_e, zB1_s, zB2_s, zB3_s, zB4_s, zB5_s, zB6_s, zB7_s, zGd_in, zGd_b0, zGd_b1, rs_s, rs_n, upd_s, upd_n, ite_t, ite_f, if_true, if_false, ne_eq, not_true, not_false_iff], BI_of e10, by omega, by omega⟩
      · rw [if_neg k125] at his'
        rw [bL_no his']
        refine Sm_st e4.2.1 ?_
        rw [e1]
        by_cases k0 : k' = 0
        · subst k0
          exact cl_end hN he e2 e3 (by omega) e7 (Or.inl (by omega))
        · exact cl_bad hN he e2 e3 k0 (v := 1) (meet_eb t4' hk' e6 e7 e8 k59 k125) (by omega) (by omega) e2.2.2.2.2
theorem in50 {v : Nat} (hv : v < 100000) : fX10_in (nI v) (nI 1) (nI 50) = some (if 1 ≤ v ∧ v ≤ 50 then nI 1 else nI 0) := by
  unfold fX10_in
  by_cases c : 1 ≤ v ∧ v ≤ 50
  · simp (disch := omega) only [zLet_e, zJn_e, zB1_s, zB2_s, zB3_s, zB4_s, zB5_s, zB6_s, zB7_s, zGd_in, zGd_b0, zGd_b1, rs_s, rs_n, upd_s, upd_n, ite_t, ite_f, if_true, if_false, ne_eq, not_true, not_false_iff, nI_1, nI_add, nI_mul, nI_sub, nIc, nI_leI, nI_ltI, nI_eq, nI_m1, nI_m1', nI_lt0, nI_m2, ↓lq_m1, ↓lq_m2, ↓lq_m8, ↓lq_mm, lq_0, lq_1, lq_2, lq_3, lq_4, lq_5, lq_6, lq_7, lq_8, lq_9, lq_10, lq_12, lq_16, lq_20, lq_24, lq_31, lq_32, lq_40, lq_41, lq_42, lq_43, lq_45, lq_38, lq_48, lq_50, lq_57, lq_59, lq_60, lq_61, lq_63, lq_94, lq_96, lq_97, lq_100, lq_102, lq_104, lq_105, lq_120, lq_122, lq_123, lq_124, lq_125, lq_126, lq_255, lq_257, lq_600, lq_1000, lq_4096, lq_65535, lq_1000000]
  · by_cases c2 : v < 1
    · simp (disch := omega) only [zLet_e, zJn_e, zB1_s, zB2_s, zB3_s, zB4_s, zB5_s, zB6_s, zB7_s, zGd_in, zGd_b0, zGd_b1, rs_s, rs_n, upd_s, upd_n, ite_t, ite_f, if_true, if_false, ne_eq, not_true, not_false_iff, nI_1, nI_add, nI_mul, nI_sub, nIc, nI_leI, nI_ltI, nI_eq, nI_m1, nI_m1', nI_lt0, nI_m2, ↓lq_m1, ↓lq_m2, ↓lq_m8, ↓lq_mm, lq_0, lq_1, lq_2, lq_3, lq_4, lq_5, lq_6, lq_7, lq_8, lq_9, lq_10, lq_12, lq_16, lq_20, lq_24, lq_31, lq_32, lq_40, lq_41, lq_42, lq_43, lq_45, lq_38, lq_48, lq_50, lq_57, lq_59, lq_60, lq_61, lq_63, lq_94, lq_96, lq_97, lq_100, lq_102, lq_104, lq_105, lq_120, lq_122, lq_123, lq_124, lq_125, lq_126, lq_255, lq_257, lq_600, lq_1000, lq_4096, lq_65535, lq_1000000]
    · simp (disch := omega) only [zLet_e, zJn_e, zB1_s, zB2_s, zB3_s, zB4_s, zB5_s, zB6_s, zB7_s, zGd_in, zGd_b0, zGd_b1, rs_s, rs_n, upd_s, upd_n, ite_t, ite_f, if_true, if_false, ne_eq, not_true, not_false_iff, nI_1, nI_add, nI_mul, nI_sub, nIc, nI_leI, nI_ltI, nI_eq, nI_m1, nI_m1', nI_lt0, nI_m2, ↓lq_m1, ↓lq_m2, ↓lq_m8, ↓lq_mm, lq_0, lq_1, lq_2, lq_3, lq_4, lq_5, lq_6, lq_7, lq_8, lq_9, lq_10, lq_12, lq_16, lq_20, lq_24, lq_31, lq_32, lq_40, lq_41, lq_42, lq_43, lq_45, lq_38, lq_48, lq_50, lq_57, lq_59, lq_60, lq_61, lq_63, lq_94, lq_96, lq_97, lq_100, lq_102, lq_104, lq_105, lq_120, lq_122, lq_123, lq_124, lq_125, lq_126, lq_255, lq_257, lq_600, lq_1000, lq_4096, lq_65535, lq_1000000]
theorem bT_n {NN : Nat} {mB mL mW mL1 mS : Rc} {x : Int32} (n1 : fX10_next NN mB mL = some mL1) (l15 : ¬ mL1 15 0 = nI 3) : bT NN mB mL mW x mS = some (nI 1, mL1, mS, rs (rs mW 6 (fun _ => nI 1)) 7 (fun _ => mL1 16 0)) := by
  unfold bT
  rw [n1, zB1_s, if_neg (show ¬ mL1 15 0 = (3 : Int32) from l15)]
  simp (disch := omega) only [zLet_e, zJn_e, zB1_s, zB2_s, zB3_s, zB4_s, zB5_s, zB6_s, zB7_s, zGd_in, zGd_b0, zGd_b1, rs_s, rs_n, upd_s, upd_n, ite_t, ite_f, if_true, if_false, ne_eq, not_true, not_false_iff, nI_1, nI_add, nI_mul, nI_sub, nIc, nI_leI, nI_ltI, nI_eq, nI_m1, nI_m1', nI_lt0, nI_m2, ↓lq_m1, ↓lq_m2, ↓lq_m8, ↓lq_mm, lq_0, lq_1, lq_2, lq_3, lq_4, lq_5, lq_6, lq_7, lq_8, lq_9, lq_10, lq_12, lq_16, lq_20, lq_24, lq_31, lq_32, lq_40, lq_41, lq_42, lq_43, lq_45, lq_38, lq_48, lq_50, lq_57, lq_59, lq_60, lq_61, lq_63, lq_94, lq_96, lq_97, lq_100, lq_102, lq_104, lq_105, lq_120, lq_122, lq_123, lq_124, lq_125, lq_126, lq_255, lq_257, lq_600, lq_1000, lq_4096, lq_65535, lq_1000000, stop_e]
theorem bT_v {NN v : Nat} {mB mL mW mL1 mS : Rc} {x : Int32} (n1 : fX10_next NN mB mL = some mL1) (l15 : mL1 15 0 = nI 3) (l18 : mL1 18 0 = nI v) (hv : v < 100000) (hb : ¬ (1 ≤ v ∧ v ≤ 50)) : bT NN mB mL mW x mS = some (nI 1, mL1, mS, rs (rs mW 6 (fun _ => nI 4)) 7 (fun _ => mL1 16 0)) := by
  have h := in50 hv
  rw [if_neg hb] at h
  unfold bT
  simp (disch := omega) only [zLet_e, zJn_e, zB1_s, zB2_s, zB3_s, zB4_s, zB5_s, zB6_s, zB7_s, zGd_in, zGd_b0, zGd_b1, rs_s, rs_n, upd_s, upd_n, ite_t, ite_f, if_true, if_false, ne_eq, not_true, not_false_iff, nI_1, nI_add, nI_mul, nI_sub, nIc, nI_leI, nI_ltI, nI_eq, nI_m1, nI_m1', nI_lt0, nI_m2, ↓lq_m1, ↓lq_m2, ↓lq_m8, ↓lq_mm, lq_0, lq_1, lq_2, lq_3, lq_4, lq_5, lq_6, lq_7, lq_8, lq_9, lq_10, lq_12, lq_16, lq_20, lq_24, lq_31, lq_32, lq_40, lq_41, lq_42, lq_43, lq_45, lq_38, lq_48, lq_50, lq_57, lq_59, lq_60, lq_61, lq_63, lq_94, lq_96, lq_97, lq_100, lq_102, lq_104, lq_105, lq_120, lq_122, lq_123, lq_124, lq_125, lq_126, lq_255, lq_257, lq_600, lq_1000, lq_4096, lq_65535, lq_1000000, n1, l15, l18, h, stop_e]
theorem bT_b {NN v nb : Nat} {mB mL mW mL1 mL2 mS : Rc} (hnb : nb < 12) (n1 : fX10_next NN mB mL = some mL1) (l15 : mL1 15 0 = nI 3) (l18 : mL1 18 0 = nI v) (hv : v < 100000) (hb : 1 ≤ v ∧ v ≤ 50) (n2 : fX10_next NN mB mL1 = some mL2) (his : fX10_is mL2 (nI 123) = some (nI 0)) : bT NN mB mL mW (nI nb) mS = some (nI 1, mL2, rs (rs mS 4 (upd (mS 4) nb (nI v))) 5 (upd (mS 5) nb (nI 0)), rs (rs mW 6 (fun _ => nI 1)) 7 (fun _ => mL2 16 0)) := by
  have h := in50 hv
  rw [if_pos hb] at h
  unfold bT fX10_need
  simp (disch := omega) only [zLet_e, zJn_e, zB1_s, zB2_s, zB3_s, zB4_s, zB5_s, zB6_s, zB7_s, zGd_in, zGd_b0, zGd_b1, rs_s, rs_n, upd_s, upd_n, ite_t, ite_f, if_true, if_false, ne_eq, not_true, not_false_iff, nI_1, nI_add, nI_mul, nI_sub, nIc, nI_leI, nI_ltI, nI_eq, nI_m1, nI_m1', nI_lt0, nI_m2, ↓lq_m1, ↓lq_m2, ↓lq_m8, ↓lq_mm, lq_0, lq_1, lq_2, lq_3, lq_4, lq_5, lq_6, lq_7, lq_8, lq_9, lq_10, lq_12, lq_16, lq_20, lq_24, lq_31, lq_32, lq_40, lq_41, lq_42, lq_43, lq_45, lq_38, lq_48, lq_50, lq_57, lq_59, lq_60, lq_61, lq_63, lq_94, lq_96, lq_97, lq_100, lq_102, lq_104, lq_105, lq_120, lq_122, lq_123, lq_124, lq_125, lq_126, lq_255, lq_257, lq_600, lq_1000, lq_4096, lq_65535, lq_1000000, n1, l15, l18, h, n2, his, stop_e]
theorem bT_o {NN v nb : Nat} {mB mL mW mL1 mL2 mL3 mS : Rc} (hnb : nb < 12) (n1 : fX10_next NN mB mL = some mL1) (l15 : mL1 15 0 = nI 3) (l18 : mL1 18 0 = nI v) (hv : v < 100000) (hb : 1 ≤ v ∧ v ≤ 50) (n2 : fX10_next NN mB mL1 = some mL2) (his : fX10_is mL2 (nI 123) = some (nI 1)) (n3 : fX10_next NN mB mL2 = some mL3) : bT NN mB mL mW (nI nb) mS = fX10_readBlock_L199 mB NN (nI nb) (bL NN mB) NN (nI 1) mL3 (rs (rs mS 4 (upd (mS 4) nb (nI v))) 5 (upd (mS 5) nb (nI 0))) mW := by
  have h := in50 hv
  rw [if_pos hb] at h
  unfold bT fX10_need
  simp (disch := omega) only [zLet_e, zJn_e, zB1_s, zB2_s, zB3_s, zB4_s, zB5_s, zB6_s, zB7_s, zGd_in, zGd_b0, zGd_b1, rs_s, rs_n, upd_s, upd_n, ite_t, ite_f, if_true, if_false, ne_eq, not_true, not_false_iff, nI_1, nI_add, nI_mul, nI_sub, nIc, nI_leI, nI_ltI, nI_eq, nI_m1, nI_m1', nI_lt0, nI_m2, ↓lq_m1, ↓lq_m2, ↓lq_m8, ↓lq_mm, lq_0, lq_1, lq_2, lq_3, lq_4, lq_5, lq_6, lq_7, lq_8, lq_9, lq_10, lq_12, lq_16, lq_20, lq_24, lq_31, lq_32, lq_40, lq_41, lq_42, lq_43, lq_45, lq_38, lq_48, lq_50, lq_57, lq_59, lq_60, lq_61, lq_63, lq_94, lq_96, lq_97, lq_100, lq_102, lq_104, lq_105, lq_120, lq_122, lq_123, lq_124, lq_125, lq_126, lq_255, lq_257, lq_600, lq_1000, lq_4096, lq_65535, lq_1000000, n1, l15, l18, h, n2, his, n3]
theorem bU_5 {NN : Nat} {mB mL mS mW : Rc} (m0 : mS 0 0 = nI 12) : bU NN mB mL mS mW () = some (nI 1, mL, mS, rs (rs mW 6 (fun _ => nI 5)) 7 (fun _ => mL 16 0)) := by
  unfold bU
  simp (disch := omega) only [zLet_e, zJn_e, zB1_s, zB2_s, zB3_s, zB4_s, zB5_s, zB6_s, zB7_s, zGd_in, zGd_b0, zGd_b1, rs_s, rs_n, upd_s, upd_n, ite_t, ite_f, if_true, if_false, ne_eq, not_true, not_false_iff, nI_1, nI_add, nI_mul, nI_sub, nIc, nI_leI, nI_ltI, nI_eq, nI_m1, nI_m1', nI_lt0, nI_m2, ↓lq_m1, ↓lq_m2, ↓lq_m8, ↓lq_mm, lq_0, lq_1, lq_2, lq_3, lq_4, lq_5, lq_6, lq_7, lq_8, lq_9, lq_10, lq_12, lq_16, lq_20, lq_24, lq_31, lq_32, lq_40, lq_41, lq_42, lq_43, lq_45, lq_38, lq_48, lq_50, lq_57, lq_59, lq_60, lq_61, lq_63, lq_94, lq_96, lq_97, lq_100, lq_102, lq_104, lq_105, lq_120, lq_122, lq_123, lq_124, lq_125, lq_126, lq_255, lq_257, lq_600, lq_1000, lq_4096, lq_65535, lq_1000000, m0, stop_e]
theorem bU_o {NN nb : Nat} {mB mL mS mW : Rc} {z : Int32} (m0 : mS 0 0 = nI nb) (hb : nb < 12) (l19 : mL 19 0 = z) : bU NN mB mL mS mW () = fX10_readBlock_L88 mB mL (nI nb) (bT NN mB mL mW (nI nb)) NN (nI 0) (rs mS 3 (upd (mS 3) nb z)) := by
  unfold bU
  simp (disch := omega) only [zLet_e, zJn_e, zB1_s, zB2_s, zB3_s, zB4_s, zB5_s, zB6_s, zB7_s, zGd_in, zGd_b0, zGd_b1, rs_s, rs_n, upd_s, upd_n, ite_t, ite_f, if_true, if_false, ne_eq, not_true, not_false_iff, nI_1, nI_add, nI_mul, nI_sub, nIc, nI_leI, nI_ltI, nI_eq, nI_m1, nI_m1', nI_lt0, nI_m2, ↓lq_m1, ↓lq_m2, ↓lq_m8, ↓lq_mm, lq_0, lq_1, lq_2, lq_3, lq_4, lq_5, lq_6, lq_7, lq_8, lq_9, lq_10, lq_12, lq_16, lq_20, lq_24, lq_31, lq_32, lq_40, lq_41, lq_42, lq_43, lq_45, lq_38, lq_48, lq_50, lq_57, lq_59, lq_60, lq_61, lq_63, lq_94, lq_96, lq_97, lq_100, lq_102, lq_104, lq_105, lq_120, lq_122, lq_123, lq_124, lq_125, lq_126, lq_255, lq_257, lq_600, lq_1000, lq_4096, lq_65535, lq_1000000, m0, l19]
theorem meet0b {NN k : Nat} {oR oT oS : Rc} (t4 : oT 4 0 = nI k) (hk : k < 256) (h4 : oR 4 0 = nI 0) (k2 : k ≠ 2) : fX5_meet NN oR oT oS = some (nI 1, oR, oS) := by
  unfold fX5_meet fX5_meetBlockName
  simp (disch := omega) only [zLet_e, zJn_e, zB1_s, zB2_s, zB3_s, zB4_s, zB5_s, zB6_s, zB7_s, zGd_in, zGd_b0, zGd_b1, rs_s, rs_n, upd_s, upd_n, ite_t, ite_f, if_true, if_false, ne_eq, not_true, not_false_iff, nI_1, nI_add, nI_mul, nI_sub, nIc, nI_leI, nI_ltI, nI_eq, nI_m1, nI_m1', nI_lt0, nI_m2, ↓lq_m1, ↓lq_m2, ↓lq_m8, ↓lq_mm, lq_0, lq_1, lq_2, lq_3, lq_4, lq_5, lq_6, lq_7, lq_8, lq_9, lq_10, lq_12, lq_16, lq_20, lq_24, lq_31, lq_32, lq_40, lq_41, lq_42, lq_43, lq_45, lq_38, lq_48, lq_50, lq_57, lq_59, lq_60, lq_61, lq_63, lq_94, lq_96, lq_97, lq_100, lq_102, lq_104, lq_105, lq_120, lq_122, lq_123, lq_124, lq_125, lq_126, lq_255, lq_257, lq_600, lq_1000, lq_4096, lq_65535, lq_1000000, h4, t4]
theorem meet0t {NN : Nat} {oR oT oS : Rc} (t4 : oT 4 0 = nI 2) (h4 : oR 4 0 = nI 0) (hh : fX4_hasBlockNamed NN oT oS = some (nI 1)) : fX5_meet NN oR oT oS = some (nI 3, oR, oS) := by
  unfold fX5_meet fX5_meetBlockName
  simp (disch := omega) only [zLet_e, zJn_e, zB1_s, zB2_s, zB3_s, zB4_s, zB5_s, zB6_s, zB7_s, zGd_in, zGd_b0, zGd_b1, rs_s, rs_n, upd_s, upd_n, ite_t, ite_f, if_true, if_false, ne_eq, not_true, not_false_iff, nI_1, nI_add, nI_mul, nI_sub, nIc, nI_leI, nI_ltI, nI_eq, nI_m1, nI_m1', nI_lt0, nI_m2, ↓lq_m1, ↓lq_m2, ↓lq_m8, ↓lq_mm, lq_0, lq_1, lq_2, lq_3, lq_4, lq_5, lq_6, lq_7, lq_8, lq_9, lq_10, lq_12, lq_16, lq_20, lq_24, lq_31, lq_32, lq_40, lq_41, lq_42, lq_43, lq_45, lq_38, lq_48, lq_50, lq_57, lq_59, lq_60, lq_61, lq_63, lq_94, lq_96, lq_97, lq_100, lq_102, lq_104, lq_105, lq_120, lq_122, lq_123, lq_124, lq_125, lq_126, lq_255, lq_257, lq_600, lq_1000, lq_4096, lq_65535, lq_1000000, h4, t4, hh]
theorem meet0m {NN : Nat} {oR oT oS : Rc} (t4 : oT 4 0 = nI 2) (h4 : oR 4 0 = nI 0) (hh : fX4_hasBlockNamed NN oT oS = some (nI 0)) (o0 : oS 0 0 = nI 12) : fX5_meet NN oR oT oS = some (nI 5, oR, oS) := by
  unfold fX5_meet fX5_meetBlockName
  simp (disch := omega) only [zLet_e, zJn_e, zB1_s, zB2_s, zB3_s, zB4_s, zB5_s, zB6_s, zB7_s, zGd_in, zGd_b0, zGd_b1, rs_s, rs_n, upd_s, upd_n, ite_t, ite_f, if_true, if_false, ne_eq, not_true, not_false_iff, nI_1, nI_add, nI_mul, nI_sub, nIc, nI_leI, nI_ltI, nI_eq, nI_m1, nI_m1', nI_lt0, nI_m2, ↓lq_m1, ↓lq_m2, ↓lq_m8, ↓lq_mm, lq_0, lq_1, lq_2, lq_3, lq_4, lq_5, lq_6, lq_7, lq_8, lq_9, lq_10, lq_12, lq_16, lq_20, lq_24, lq_31, lq_32, lq_40, lq_41, lq_42, lq_43, lq_45, lq_38, lq_48, lq_50, lq_57, lq_59, lq_60, lq_61, lq_63, lq_94, lq_96, lq_97, lq_100, lq_102, lq_104, lq_105, lq_120, lq_122, lq_123, lq_124, lq_125, lq_126, lq_255, lq_257, lq_600, lq_1000, lq_4096, lq_65535, lq_1000000, h4, t4, hh, o0]
theorem meet0o {NN nb : Nat} {oR oT oS oS1 : Rc} (t4 : oT 4 0 = nI 2) (h4 : oR 4 0 = nI 0) (hh : fX4_hasBlockNamed NN oT oS = some (nI 0)) (o0 : oS 0 0 = nI nb) (hb : nb < 12) (ha : fX4_addBlock NN oT oS = some oS1) : fX5_meet NN oR oT oS = some (nI 0, rs oR 4 (fun _ => nI 1), oS1) := by
  unfold fX5_meet fX5_meetBlockName
  simp (disch := omega) only [zLet_e, zJn_e, zB1_s, zB2_s, zB3_s, zB4_s, zB5_s, zB6_s, zB7_s, zGd_in, zGd_b0, zGd_b1, rs_s, rs_n, upd_s, upd_n, ite_t, ite_f, if_true, if_false, ne_eq, not_true, not_false_iff, nI_1, nI_add, nI_mul, nI_sub, nIc, nI_leI, nI_ltI, nI_eq, nI_m1, nI_m1', nI_lt0, nI_m2, ↓lq_m1, ↓lq_m2, ↓lq_m8, ↓lq_mm, lq_0, lq_1, lq_2, lq_3, lq_4, lq_5, lq_6, lq_7, lq_8, lq_9, lq_10, lq_12, lq_16, lq_20, lq_24, lq_31, lq_32, lq_40, lq_41, lq_42, lq_43, lq_45, lq_38, lq_48, lq_50, lq_57, lq_59, lq_60, lq_61, lq_63, lq_94, lq_96, lq_97, lq_100, lq_102, lq_104, lq_105, lq_120, lq_122, lq_123, lq_124, lq_125, lq_126, lq_255, lq_257, lq_600, lq_1000, lq_4096, lq_65535, lq_1000000, h4, t4, hh, o0, ha]
theorem meet1b {NN k : Nat} {oR oT oS : Rc} (t4 : oT 4 0 = nI k) (hk : k < 256) (h4 : oR 4 0 = nI 1) (k3 : k ≠ 3) : fX5_meet NN oR oT oS = some (nI 1, oR, oS) := by
  unfold fX5_meet fX5_meetTimes
  simp (disch := omega) only [zLet_e, zJn_e, zB1_s, zB2_s, zB3_s, zB4_s, zB5_s, zB6_s, zB7_s, zGd_in, zGd_b0, zGd_b1, rs_s, rs_n, upd_s, upd_n, ite_t, ite_f, if_true, if_false, ne_eq, not_true, not_false_iff, nI_1, nI_add, nI_mul, nI_sub, nIc, nI_leI, nI_ltI, nI_eq, nI_m1, nI_m1', nI_lt0, nI_m2, ↓lq_m1, ↓lq_m2, ↓lq_m8, ↓lq_mm, lq_0, lq_1, lq_2, lq_3, lq_4, lq_5, lq_6, lq_7, lq_8, lq_9, lq_10, lq_12, lq_16, lq_20, lq_24, lq_31, lq_32, lq_40, lq_41, lq_42, lq_43, lq_45, lq_38, lq_48, lq_50, lq_57, lq_59, lq_60, lq_61, lq_63, lq_94, lq_96, lq_97, lq_100, lq_102, lq_104, lq_105, lq_120, lq_122, lq_123, lq_124, lq_125, lq_126, lq_255, lq_257, lq_600, lq_1000, lq_4096, lq_65535, lq_1000000, h4, t4]
theorem meet1v {NN v : Nat} {oR oT oS : Rc} (t4 : oT 4 0 = nI 3) (h4 : oR 4 0 = nI 1) (t7 : oT 7 0 = nI v) (hv : v < 100000) (hb : ¬ (1 ≤ v ∧ v ≤ 50)) : fX5_meet NN oR oT oS = some (nI 4, oR, oS) := by
  unfold fX5_meet fX5_meetTimes
  by_cases c : v < 1
  · simp (disch := omega) only [zLet_e, zJn_e, zB1_s, zB2_s, zB3_s, zB4_s, zB5_s, zB6_s, zB7_s, zGd_in, zGd_b0, zGd_b1, rs_s, rs_n, upd_s, upd_n, ite_t, ite_f, if_true, if_false, ne_eq, not_true, not_false_iff, nI_1, nI_add, nI_mul, nI_sub, nIc, nI_leI, nI_ltI, nI_eq, nI_m1, nI_m1', nI_lt0, nI_m2, ↓lq_m1, ↓lq_m2, ↓lq_m8, ↓lq_mm, lq_0, lq_1, lq_2, lq_3, lq_4, lq_5, lq_6, lq_7, lq_8, lq_9, lq_10, lq_12, lq_16, lq_20, lq_24, lq_31, lq_32, lq_40, lq_41, lq_42, lq_43, lq_45, lq_38, lq_48, lq_50, lq_57, lq_59, lq_60, lq_61, lq_63, lq_94, lq_96, lq_97, lq_100, lq_102, lq_104, lq_105, lq_120, lq_122, lq_123, lq_124, lq_125, lq_126, lq_255, lq_257, lq_600, lq_1000, lq_4096, lq_65535, lq_1000000, h4, t4, t7]
  · simp (disch := omega) only [zLet_e, zJn_e, zB1_s, zB2_s, zB3_s, zB4_s, zB5_s, zB6_s, zB7_s, zGd_in, zGd_b0, zGd_b1, rs_s, rs_n, upd_s, upd_n, ite_t, ite_f, if_true, if_false, ne_eq, not_true, not_false_iff, nI_1, nI_add, nI_mul, nI_sub, nIc, nI_leI, nI_ltI, nI_eq, nI_m1, nI_m1', nI_lt0, nI_m2, ↓lq_m1, ↓lq_m2, ↓lq_m8, ↓lq_mm, lq_0, lq_1, lq_2, lq_3, lq_4, lq_5, lq_6, lq_7, lq_8, lq_9, lq_10, lq_12, lq_16, lq_20, lq_24, lq_31, lq_32, lq_40, lq_41, lq_42, lq_43, lq_45, lq_38, lq_48, lq_50, lq_57, lq_59, lq_60, lq_61, lq_63, lq_94, lq_96, lq_97, lq_100, lq_102, lq_104, lq_105, lq_120, lq_122, lq_123, lq_124, lq_125, lq_126, lq_255, lq_257, lq_600, lq_1000, lq_4096, lq_65535, lq_1000000, h4, t4, t7]
theorem meet1o {NN v nb : Nat} {oR oT oS : Rc} (t4 : oT 4 0 = nI 3) (h4 : oR 4 0 = nI 1) (t7 : oT 7 0 = nI v) (hb : 1 ≤ v ∧ v ≤ 50) (o0 : oS 0 0 = nI (nb + 1)) (hn : nb < 12) : fX5_meet NN oR oT oS = some (nI 0, rs oR 4 (fun _ => nI 2), rs oS 6 (upd (oS 6) nb (nI v))) := by
  unfold fX5_meet fX5_meetTimes fX4_repeatLatestBlock
  simp (disch := omega) only [zLet_e, zJn_e, zB1_s, zB2_s, zB3_s, zB4_s, zB5_s, zB6_s, zB7_s, zGd_in, zGd_b0, zGd_b1, rs_s, rs_n, upd_s, upd_n, ite_t, ite_f, if_true, if_false, ne_eq, not_true, not_false_iff, nI_1, nI_add, nI_mul, nI_sub, nIc, nI_leI, nI_ltI, nI_eq, nI_m1, nI_m1', nI_lt0, nI_m2, ↓lq_m1, ↓lq_m2, ↓lq_m8, ↓lq_mm, lq_0, lq_1, lq_2, lq_3, lq_4, lq_5, lq_6, lq_7, lq_8, lq_9, lq_10, lq_12, lq_16, lq_20, lq_24, lq_31, lq_32, lq_40, lq_41, lq_42, lq_43, lq_45, lq_38, lq_48, lq_50, lq_57, lq_59, lq_60, lq_61, lq_63, lq_94, lq_96, lq_97, lq_100, lq_102, lq_104, lq_105, lq_120, lq_122, lq_123, lq_124, lq_125, lq_126, lq_255, lq_257, lq_600, lq_1000, lq_4096, lq_65535, lq_1000000, h4, t4, t7, o0, Nat.add_sub_cancel]
theorem meet2b {NN k : Nat} {oR oT oS : Rc} (t4 : oT 4 0 = nI k) (hk : k < 256) (h4 : oR 4 0 = nI 2) (k3 : k ≠ 123) : fX5_meet NN oR oT oS = some (nI 1, oR, oS) := by
  unfold fX5_meet fX5_meetSingle
  simp (disch := omega) only [zLet_e, zJn_e, zB1_s, zB2_s, zB3_s, zB4_s, zB5_s, zB6_s, zB7_s, zGd_in, zGd_b0, zGd_b1, rs_s, rs_n, upd_s, upd_n, ite_t, ite_f, if_true, if_false, ne_eq, not_true, not_false_iff, nI_1, nI_add, nI_mul, nI_sub, nIc, nI_leI, nI_ltI, nI_eq, nI_m1, nI_m1', nI_lt0, nI_m2, ↓lq_m1, ↓lq_m2, ↓lq_m8, ↓lq_mm, lq_0, lq_1, lq_2, lq_3, lq_4, lq_5, lq_6, lq_7, lq_8, lq_9, lq_10, lq_12, lq_16, lq_20, lq_24, lq_31, lq_32, lq_40, lq_41, lq_42, lq_43, lq_45, lq_38, lq_48, lq_50, lq_57, lq_59, lq_60, lq_61, lq_63, lq_94, lq_96, lq_97, lq_100, lq_102, lq_104, lq_105, lq_120, lq_122, lq_123, lq_124, lq_125, lq_126, lq_255, lq_257, lq_600, lq_1000, lq_4096, lq_65535, lq_1000000, h4, t4]
theorem meet2o {NN : Nat} {oR oT oS : Rc} (t4 : oT 4 0 = nI 123) (h4 : oR 4 0 = nI 2) : fX5_meet NN oR oT oS = some (nI 0, rs oR 4 (fun _ => nI 3), oS) := by
  unfold fX5_meet fX5_meetSingle
  simp (disch := omega) only [zLet_e, zJn_e, zB1_s, zB2_s, zB3_s, zB4_s, zB5_s, zB6_s, zB7_s, zGd_in, zGd_b0, zGd_b1, rs_s, rs_n, upd_s, upd_n, ite_t, ite_f, if_true, if_false, ne_eq, not_true, not_false_iff, nI_1, nI_add, nI_mul, nI_sub, nIc, nI_leI, nI_ltI, nI_eq, nI_m1, nI_m1', nI_lt0, nI_m2, ↓lq_m1, ↓lq_m2, ↓lq_m8, ↓lq_mm, lq_0, lq_1, lq_2, lq_3, lq_4, lq_5, lq_6, lq_7, lq_8, lq_9, lq_10, lq_12, lq_16, lq_20, lq_24, lq_31, lq_32, lq_40, lq_41, lq_42, lq_43, lq_45, lq_38, lq_48, lq_50, lq_57, lq_59, lq_60, lq_61, lq_63, lq_94, lq_96, lq_97, lq_100, lq_102, lq_104, lq_105, lq_120, lq_122, lq_123, lq_124, lq_125, lq_126, lq_255, lq_257, lq_600, lq_1000, lq_4096, lq_65535, lq_1000000, h4, t4]
