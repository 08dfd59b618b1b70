/-! own part (pure): a BLOCK whole, a PROGRAM -/
def lz (ln : Nat → Nat) (nb : Nat) : Nat → Nat := fun b => if b = nb then 0 else ln b
theorem LI_new {nb ns op v z : Nat} {oS mS oS1 mS1 : Rc} {ln : Nat → Nat} (h : BI nb oS mS ns ln op) (hb : nb < 12) (hv : 1 ≤ v ∧ v ≤ 50) (hz : 1 ≤ z ∧ z ≤ 8) (a5 : oS1 5 = upd (oS 5) nb (nI z)) (a4 : ∀ i, i < z → oS1 4 (8 * nb + i) = mS1 6 (8 * nb + i)) (a4' : ∀ j, j < 8 * nb → oS1 4 j = oS 4 j) (a7 : oS1 7 = upd (upd (oS 7) nb (nI (sm ln nb))) (nb + 1) (nI (sm ln nb))) (a0 : oS1 0 0 = nI (nb + 1)) (af : ∀ k, k ≠ 0 → k ≠ 4 → k ≠ 5 → k ≠ 7 → oS1 k = oS k) (c6 : ∀ j, j < 8 * nb → mS1 6 j = mS 6 j) (c3 : mS1 3 = upd (mS 3) nb (nI z)) (cf : ∀ k, k ≠ 6 → k ≠ 3 → mS1 k = mS k) : LI nb (rs oS1 6 (upd (oS1 6) nb (nI v))) (rs (rs mS1 4 (upd (mS1 4) nb (nI v))) 5 (upd (mS1 5) nb (nI 0))) ns (lz ln nb) op := by
  obtain ⟨h2, h3, h4, h5, h6, h7, h8⟩ := h
  have l1 : ∀ b, b ≤ nb → sm (lz ln nb) b = sm ln b := fun b hb => sm_eq b (fun x hx => if_neg (by omega))
  have l2 : sm (lz ln nb) (nb + 1) = sm ln nb := by
    show sm (lz ln nb) nb + lz ln nb nb = _
    rw [l1 nb (Nat.le_refl _), show lz ln nb nb = 0 from if_pos rfl]
    rfl
  refine ⟨hb, ?_, ?_, ⟨by omega, ?_, ?_⟩, ?_, ?_, ?_, ?_⟩
  · simp (disch := omega) only [zLet_e, zJn_e, zB1_s, zB2_s, zB3_s, zB4_s, zB5_s, zB6_s, zB7_s, zGd_in, zGd_b0, zGd_b1, rs_s, rs_n, upd_s, upd_n, ite_t, ite_f, if_true, if_false, ne_eq, not_true, not_false_iff, a0]
  · simp (disch := omega) only [zLet_e, zJn_e, zB1_s, zB2_s, zB3_s, zB4_s, zB5_s, zB6_s, zB7_s, zGd_in, zGd_b0, zGd_b1, rs_s, rs_n, upd_s, upd_n, ite_t, ite_f, if_true, if_false, ne_eq, not_true, not_false_iff, cf 0, h3]
  · intro b hb'
    by_cases c : b = nb
    · subst c
      refine ⟨?_, ?_, ?_, ?_, ⟨z, hz.1, hz.2, ?_, ?_, fun i hi => ?_⟩, ⟨v, hv.1, hv.2, ?_, ?_⟩⟩
      · rw [show lz ln b b = 0 from if_pos rfl]; omega
      · rw [show lz ln b b = 0 from if_pos rfl]; simp (disch := omega) only [zLet_e, zJn_e, zB1_s, zB2_s, zB3_s, zB4_s, zB5_s, zB6_s, zB7_s, zGd_in, zGd_b0, zGd_b1, rs_s, rs_n, upd_s, upd_n, ite_t, ite_f, if_true, if_false, ne_eq, not_true, not_false_iff]
      · rw [l1 b (Nat.le_refl _)]; simp (disch := omega) only [zLet_e, zJn_e, zB1_s, zB2_s, zB3_s, zB4_s, zB5_s, zB6_s, zB7_s, zGd_in, zGd_b0, zGd_b1, rs_s, rs_n, upd_s, upd_n, ite_t, ite_f, if_true, if_false, ne_eq, not_true, not_false_iff, a7]
      · rw [l2]; simp (disch := omega) only [zLet_e, zJn_e, zB1_s, zB2_s, zB3_s, zB4_s, zB5_s, zB6_s, zB7_s, zGd_in, zGd_b0, zGd_b1, rs_s, rs_n, upd_s, upd_n, ite_t, ite_f, if_true, if_false, ne_eq, not_true, not_false_iff, a7]
      · simp (disch := omega) only [zLet_e, zJn_e, zB1_s, zB2_s, zB3_s, zB4_s, zB5_s, zB6_s, zB7_s, zGd_in, zGd_b0, zGd_b1, rs_s, rs_n, upd_s, upd_n, ite_t, ite_f, if_true, if_false, ne_eq, not_true, not_false_iff, a5]
      · simp (disch := omega) only [zLet_e, zJn_e, zB1_s, zB2_s, zB3_s, zB4_s, zB5_s, zB6_s, zB7_s, zGd_in, zGd_b0, zGd_b1, rs_s, rs_n, upd_s, upd_n, ite_t, ite_f, if_true, if_false, ne_eq, not_true, not_false_iff, c3]
      · have := a4 i hi
        simp (disch := omega) only [zLet_e, zJn_e, zB1_s, zB2_s, zB3_s, zB4_s, zB5_s, zB6_s, zB7_s, zGd_in, zGd_b0, zGd_b1, rs_s, rs_n, upd_s, upd_n, ite_t, ite_f, if_true, if_false, ne_eq, not_true, not_false_iff, this]
      · simp (disch := omega) only [zLet_e, zJn_e, zB1_s, zB2_s, zB3_s, zB4_s, zB5_s, zB6_s, zB7_s, zGd_in, zGd_b0, zGd_b1, rs_s, rs_n, upd_s, upd_n, ite_t, ite_f, if_true, if_false, ne_eq, not_true, not_false_iff]
      · simp (disch := omega) only [zLet_e, zJn_e, zB1_s, zB2_s, zB3_s, zB4_s, zB5_s, zB6_s, zB7_s, zGd_in, zGd_b0, zGd_b1, rs_s, rs_n, upd_s, upd_n, ite_t, ite_f, if_true, if_false, ne_eq, not_true, not_false_iff]
    · obtain ⟨b1, b2, b3, b4, ⟨z', z1, z2, z3, z4, z5⟩, ⟨tt, t1, t2, t3, t4⟩⟩ := h4.2.1 b (by omega)
      have hl : lz ln nb b = ln b := if_neg c
      refine ⟨by rw [hl]; exact b1, ?_, ?_, ?_, ⟨z', z1, z2, ?_, ?_, fun i hi => ?_⟩, ⟨tt, t1, t2, ?_, ?_⟩⟩
      · rw [hl]; simp (disch := omega) only [zLet_e, zJn_e, zB1_s, zB2_s, zB3_s, zB4_s, zB5_s, zB6_s, zB7_s, zGd_in, zGd_b0, zGd_b1, rs_s, rs_n, upd_s, upd_n, ite_t, ite_f, if_true, if_false, ne_eq, not_true, not_false_iff, cf 5, b2]
      · rw [l1 b (by omega)]; simp (disch := omega) only [zLet_e, zJn_e, zB1_s, zB2_s, zB3_s, zB4_s, zB5_s, zB6_s, zB7_s, zGd_in, zGd_b0, zGd_b1, rs_s, rs_n, upd_s, upd_n, ite_t, ite_f, if_true, if_false, ne_eq, not_true, not_false_iff, a7, b3]
      · rw [l1 (b + 1) (by omega)]
        by_cases c' : b + 1 = nb
        · rw [c']; simp (disch := omega) only [zLet_e, zJn_e, zB1_s, zB2_s, zB3_s, zB4_s, zB5_s, zB6_s, zB7_s, zGd_in, zGd_b0, zGd_b1, rs_s, rs_n, upd_s, upd_n, ite_t, ite_f, if_true, if_false, ne_eq, not_true, not_false_iff, a7]
        · simp (disch := omega) only [zLet_e, zJn_e, zB1_s, zB2_s, zB3_s, zB4_s, zB5_s, zB6_s, zB7_s, zGd_in, zGd_b0, zGd_b1, rs_s, rs_n, upd_s, upd_n, ite_t, ite_f, if_true, if_false, ne_eq, not_true, not_false_iff, a7, b4]
      · simp (disch := omega) only [zLet_e, zJn_e, zB1_s, zB2_s, zB3_s, zB4_s, zB5_s, zB6_s, zB7_s, zGd_in, zGd_b0, zGd_b1, rs_s, rs_n, upd_s, upd_n, ite_t, ite_f, if_true, if_false, ne_eq, not_true, not_false_iff, a5, z3]
      · simp (disch := omega) only [zLet_e, zJn_e, zB1_s, zB2_s, zB3_s, zB4_s, zB5_s, zB6_s, zB7_s, zGd_in, zGd_b0, zGd_b1, rs_s, rs_n, upd_s, upd_n, ite_t, ite_f, if_true, if_false, ne_eq, not_true, not_false_iff, c3, z4]
      · have := z5 i hi
        have q1 := a4' (8 * b + i) (by omega)
        have q2 := c6 (8 * b + i) (by omega)
        simp (disch := omega) only [zLet_e, zJn_e, zB1_s, zB2_s, zB3_s, zB4_s, zB5_s, zB6_s, zB7_s, zGd_in, zGd_b0, zGd_b1, rs_s, rs_n, upd_s, upd_n, ite_t, ite_f, if_true, if_false, ne_eq, not_true, not_false_iff, q1, q2, this]
      · have := af 6 (by omega) (by omega) (by omega) (by omega)
        simp (disch := omega) only [zLet_e, zJn_e, zB1_s, zB2_s, zB3_s, zB4_s, zB5_s, zB6_s, zB7_s, zGd_in, zGd_b0, zGd_b1, rs_s, rs_n, upd_s, upd_n, ite_t, ite_f, if_true, if_false, ne_eq, not_true, not_false_iff, this, t3]
      · simp (disch := omega) only [zLet_e, zJn_e, zB1_s, zB2_s, zB3_s, zB4_s, zB5_s, zB6_s, zB7_s, zGd_in, zGd_b0, zGd_b1, rs_s, rs_n, upd_s, upd_n, ite_t, ite_f, if_true, if_false, ne_eq, not_true, not_false_iff, cf 4, t4]
  · intro b j hb' hj
    have c : b ≠ nb := by
      intro c
      subst c
      rw [show lz ln b b = 0 from if_pos rfl] at hj
      omega
    have hl : lz ln nb b = ln b := if_neg c
    rw [hl] at hj
    rw [l1 b (by omega)]
    have q8 := af 8 (by omega) (by omega) (by omega) (by omega)
    have q9 := af 9 (by omega) (by omega) (by omega) (by omega)
    have q10 := af 10 (by omega) (by omega) (by omega) (by omega)
    refine LnR_fr (h4.2.2 b j (by omega) hj) (Nat.le_refl _) ?_ ?_ ?_ ?_ ?_ ?_ ?_ ?_ (fun i hi => ?_)
    · simp (disch := omega) only [zLet_e, zJn_e, zB1_s, zB2_s, zB3_s, zB4_s, zB5_s, zB6_s, zB7_s, zGd_in, zGd_b0, zGd_b1, rs_s, rs_n, upd_s, upd_n, ite_t, ite_f, if_true, if_false, ne_eq, not_true, not_false_iff, q8]
    · simp (disch := omega) only [zLet_e, zJn_e, zB1_s, zB2_s, zB3_s, zB4_s, zB5_s, zB6_s, zB7_s, zGd_in, zGd_b0, zGd_b1, rs_s, rs_n, upd_s, upd_n, ite_t, ite_f, if_true, if_false, ne_eq, not_true, not_false_iff, q9]
    · simp (disch := omega) only [zLet_e, zJn_e, zB1_s, zB2_s, zB3_s, zB4_s, zB5_s, zB6_s, zB7_s, zGd_in, zGd_b0, zGd_b1, rs_s, rs_n, upd_s, upd_n, ite_t, ite_f, if_true, if_false, ne_eq, not_true, not_false_iff, q10]
    · simp (disch := omega) only [zLet_e, zJn_e, zB1_s, zB2_s, zB3_s, zB4_s, zB5_s, zB6_s, zB7_s, zGd_in, zGd_b0, zGd_b1, rs_s, rs_n, upd_s, upd_n, ite_t, ite_f, if_true, if_false, ne_eq, not_true, not_false_iff, q10]
    · simp (disch := omega) only [zLet_e, zJn_e, zB1_s, zB2_s, zB3_s, zB4_s, zB5_s, zB6_s, zB7_s, zGd_in, zGd_b0, zGd_b1, rs_s, rs_n, upd_s, upd_n, ite_t, ite_f, if_true, if_false, ne_eq, not_true, not_false_iff, cf 7]
    · simp (disch := omega) only [zLet_e, zJn_e, zB1_s, zB2_s, zB3_s, zB4_s, zB5_s, zB6_s, zB7_s, zGd_in, zGd_b0, zGd_b1, rs_s, rs_n, upd_s, upd_n, ite_t, ite_f, if_true, if_false, ne_eq, not_true, not_false_iff, cf 8]
    · simp (disch := omega) only [zLet_e, zJn_e, zB1_s, zB2_s, zB3_s, zB4_s, zB5_s, zB6_s, zB7_s, zGd_in, zGd_b0, zGd_b1, rs_s, rs_n, upd_s, upd_n, ite_t, ite_f, if_true, if_false, ne_eq, not_true, not_false_iff, cf 9]
    · simp (disch := omega) only [zLet_e, zJn_e, zB1_s, zB2_s, zB3_s, zB4_s, zB5_s, zB6_s, zB7_s, zGd_in, zGd_b0, zGd_b1, rs_s, rs_n, upd_s, upd_n, ite_t, ite_f, if_true, if_false, ne_eq, not_true, not_false_iff, cf 10]
    · simp (disch := omega) only [zLet_e, zJn_e, zB1_s, zB2_s, zB3_s, zB4_s, zB5_s, zB6_s, zB7_s, zGd_in, zGd_b0, zGd_b1, rs_s, rs_n, upd_s, upd_n, ite_t, ite_f, if_true, if_false, ne_eq, not_true, not_false_iff, cf 11]
  · rw [l2]
    have q := af 1 (by omega) (by omega) (by omega) (by omega)
    simp (disch := omega) only [zLet_e, zJn_e, zB1_s, zB2_s, zB3_s, zB4_s, zB5_s, zB6_s, zB7_s, zGd_in, zGd_b0, zGd_b1, rs_s, rs_n, upd_s, upd_n, ite_t, ite_f, if_true, if_false, ne_eq, not_true, not_false_iff, q, h5]
  · rw [l2]
    have q := af 10 (by omega) (by omega) (by omega) (by omega)
    simp (disch := omega) only [zLet_e, zJn_e, zB1_s, zB2_s, zB3_s, zB4_s, zB5_s, zB6_s, zB7_s, zGd_in, zGd_b0, zGd_b1, rs_s, rs_n, upd_s, upd_n, ite_t, ite_f, if_true, if_false, ne_eq, not_true, not_false_iff, q, h6]
  · obtain ⟨x1, x2, x3, x4, x5, x6, x7⟩ := h7
    have q2 := af 2 (by omega) (by omega) (by omega) (by omega)
    have q3 := af 3 (by omega) (by omega) (by omega) (by omega)
    have q11 := af 11 (by omega) (by omega) (by omega) (by omega)
    have q12 := af 12 (by omega) (by omega) (by omega) (by omega)
    refine ⟨?_, ?_, fun i hi => ?_, Hts_0 _ _, ?_, ?_, x7⟩
    · simp (disch := omega) only [zLet_e, zJn_e, zB1_s, zB2_s, zB3_s, zB4_s, zB5_s, zB6_s, zB7_s, zGd_in, zGd_b0, zGd_b1, rs_s, rs_n, upd_s, upd_n, ite_t, ite_f, if_true, if_false, ne_eq, not_true, not_false_iff, q2, x1]
    · simp (disch := omega) only [zLet_e, zJn_e, zB1_s, zB2_s, zB3_s, zB4_s, zB5_s, zB6_s, zB7_s, zGd_in, zGd_b0, zGd_b1, rs_s, rs_n, upd_s, upd_n, ite_t, ite_f, if_true, if_false, ne_eq, not_true, not_false_iff, cf 1, x2]
    · have := x3 i hi
      simp (disch := omega) only [zLet_e, zJn_e, zB1_s, zB2_s, zB3_s, zB4_s, zB5_s, zB6_s, zB7_s, zGd_in, zGd_b0, zGd_b1, rs_s, rs_n, upd_s, upd_n, ite_t, ite_f, if_true, if_false, ne_eq, not_true, not_false_iff, q11, q12, cf 11, cf 12]
      exact this
    · simp (disch := omega) only [zLet_e, zJn_e, zB1_s, zB2_s, zB3_s, zB4_s, zB5_s, zB6_s, zB7_s, zGd_in, zGd_b0, zGd_b1, rs_s, rs_n, upd_s, upd_n, ite_t, ite_f, if_true, if_false, ne_eq, not_true, not_false_iff, q3, x5]
    · simp (disch := omega) only [zLet_e, zJn_e, zB1_s, zB2_s, zB3_s, zB4_s, zB5_s, zB6_s, zB7_s, zGd_in, zGd_b0, zGd_b1, rs_s, rs_n, upd_s, upd_n, ite_t, ite_f, if_true, if_false, ne_eq, not_true, not_false_iff, cf 2, x6]
  · have q := af 10 (by omega) (by omega) (by omega) (by omega)
    simp (disch := omega) only [zLet_e, zJn_e, zB1_s, zB2_s, zB3_s, zB4_s, zB5_s, zB6_s, zB7_s, zGd_in, zGd_b0, zGd_b1, rs_s, rs_n, upd_s, upd_n, ite_t, ite_f, if_true, if_false, ne_eq, not_true, not_false_iff, q, h8]
set_option maxHeartbeats 8000000 in
theorem blockS {B : Nat → Nat} {e NN : Nat} {mB : Rc} (hN : 1000 ≤ NN) (he : e ≤ 600) (hB : ∀ i, B i < 256) (hM : ∀ i, i < 600 → mB 11 i = sx (B i)) {nb ns op i s nx k : Nat} {ln : Nat → Nat} {R : Option (Int32 × Rc × Rc × Rc)} {oR oT oS mL mS mW : Rc} (hR : R = CL NN i oR oT oS) (hc : CB B e i s nx k oR oT oS) (ht : Tk B e s nx k) (hl : T10 B e s nx k mL) (h20 : mL 20 0 = nI 0) (h4 : oR 4 0 = nI 0) (hI : BI nb oS mS ns ln op) (hns : ns ≤ s) (hk0 : k = 0 → nb = 0) : Sm B R (fX10_readBlock NN mB mL mS mW) (fun mL' mS' _ => BPost B e NN nb s R mL' mS') := by
  have hk := ht.2.2.2.1
  have hc' := hc
  obtain ⟨b0, ⟨t2, t3, t4, t5, t6, t7, t8, t9⟩, hr, hi, o10⟩ := hc
  have h12 := hI.2.2.1.1
  rw [readBlock_e]
  by_cases k2 : k = 2
  · subst k2
    have l15 : mL 15 0 = nI 2 := hl.2.2.2.1
    have l16 := hl.2.1
    have l19 := hl.2.2.2.2.1 rfl
    obtain ⟨w8, ww⟩ := ht.2.2.2.2.2.1 rfl
    have hsn := ht.2.2.1 (by omega)
    have hne := ht.2.1
    rw [if_pos (show mL 15 0 = (2 : Int32) from l15)]
    rcases hasNm (mW := mW) hN b0 hM (by omega) w8 ww t5 t6 l16 l19 h12 (fun b hb => (hI.2.2.1.2.1 b hb).2.2.2.2.1) hI.1 hI.2.1 with ⟨g1, g2⟩ | ⟨g1, g2⟩
    · rw [lq_0, g2]
      refine Sm_st l16 ?_
      rw [hR]
      exact cl_bad hN he hc' ht (by omega) (v := 3) (meet0t t4 h4 g1) (by omega) (by omega) o10
    · rw [lq_0, g2]
      by_cases n12 : nb = 12
      · subst n12
        rw [bU_5 hI.2.1]
        refine Sm_st l16 ?_
        rw [hR]
        exact cl_bad hN he hc' ht (by omega) (v := 5) (meet0m t4 h4 g1 hI.1) (by omega) (by omega) o10
      · have hb : nb < 12 := by omega
        rw [bU_o hI.2.1 hb l19]
        obtain ⟨oS1, p1, p2, p3, p4, p5, p6, p7⟩ := addBlk (NN := NN) hN b0 (by omega) w8 t5 t6 hb hI.1 hI.2.2.2.1
        obtain ⟨mS1, d1, d2, d3, d4⟩ := nameCp (mS := rs mS 3 (upd (mS 3) nb (nI (nx - s)))) hN hM (by omega) w8 ww l16 l19 hb
        rw [d1]
        have o10' : oS1 10 0 = nI 0 := by rw [p7 10 (by omega) (by omega) (by omega) (by omega)]; exact o10
        obtain ⟨oT1, q1, q2, q3, q4⟩ := cl_ok hN he hB hc' ht (by omega) (meet0o (NN := NN) t4 h4 g1 hI.1 hb p1) o10'
        obtain ⟨mL1, n1, n2, n3⟩ := adv10 (mB := mB) (NN := NN) he hB hM (by omega) hl (by omega) ht
        generalize tkS B e nx = s1 at *
        generalize tkN B e s1 = nx1 at *
        generalize tkK B e s1 = k1 at *
        have hk1 := q3.2.2.2.1
        by_cases k3 : k1 = 3
        · subst k3
          have l15' : mL1 15 0 = nI 3 := n2.2.2.2.1
          have l18' := n2.2.2.2.2.2.1 rfl
          have t7' := q2.2.1.2.2.2.2.2.1 rfl
          have hv := q3.2.2.2.2.2.2 rfl
          have t4' : oT1 4 0 = nI 3 := q2.2.1.2.2.1
          generalize dval B s1 (nx1 - s1) = v at *
          by_cases hvb : 1 ≤ v ∧ v ≤ 50
          · obtain ⟨mL2, m1, m2, m3⟩ := adv10 (mB := mB) (NN := NN) he hB hM (by omega) n2 (by omega) q3
            obtain ⟨oT2, r1, r2, r3, r4⟩ := cl_ok hN he hB q2 q3 (by omega) (meet1o (NN := NN) t4' (by simp (disch := omega) only [zLet_e, zJn_e, zB1_s, zB2_s, zB3_s, zB4_s, zB5_s, zB6_s, zB7_s, zGd_in, zGd_b0, zGd_b1, rs_s, rs_n, upd_s, upd_n, ite_t, ite_f, if_true, if_false, ne_eq, not_true, not_false_iff]) t7' hvb p6 hb) (by simp (disch := omega) only [zLet_e, zJn_e, zB1_s, zB2_s, zB3_s, zB4_s, zB5_s, zB6_s, zB7_s, zGd_in, zGd_b0, zGd_b1, rs_s, rs_n, upd_s, upd_n, ite_t, ite_f, if_true, if_false, ne_eq, not_true, not_false_iff, o10'])
            have hLI := LI_new (z := nx - s) hI hb hvb ⟨by omega, w8⟩ p2 (fun i hi => (p3 i hi).trans (d2 i hi).symm) p4 p5 p6 p7 (fun j hj => by rw [d3 j hj]; simp (disch := omega) only [zLet_e, zJn_e, zB1_s, zB2_s, zB3_s, zB4_s, zB5_s, zB6_s, zB7_s, zGd_in, zGd_b0, zGd_b1, rs_s, rs_n, upd_s, upd_n, ite_t, ite_f, if_true, if_false, ne_eq, not_true, not_false_iff]) (by rw [d4 3 (by omega)]; simp (disch := omega) only [zLet_e, zJn_e, zB1_s, zB2_s, zB3_s, zB4_s, zB5_s, zB6_s, zB7_s, zGd_in, zGd_b0, zGd_b1, rs_s, rs_n, upd_s, upd_n, ite_t, ite_f, if_true, if_false, ne_eq, not_true, not_false_iff]) (fun k h6 h3 => by rw [d4 k h6]; exact rs_n _ _ h3)
            have hsn1 := q3.2.2.1 (by omega)
            generalize tkS B e nx1 = s2 at *
            generalize tkN B e s2 = nx2 at *
            generalize tkK B e s2 = k2 at *
            have hk2 := r3.2.2.2.1
            have t4'' : oT2 4 0 = nI k2 := r2.2.1.2.2.1
            have his := is10 (c := 123) m2 hk2 (by omega) (by omega)
            by_cases k123 : k2 = 123
            · subst k123
              rw [if_pos rfl] at his
              obtain ⟨mL3, w1, w2, w3⟩ := adv10 (mB := mB) (NN := NN) he hB hM (by omega) m2 (by omega) r3
              obtain ⟨oT3, x1, x2, x3, x4⟩ := cl_ok hN he hB r2 r3 (by omega) (meet2o (NN := NN) t4'' (by simp (disch := omega) only [zLet_e, zJn_e, zB1_s, zB2_s, zB3_s, zB4_s, zB5_s, zB6_s, zB7_s, zGd_in, zGd_b0, zGd_b1, rs_s, rs_n, upd_s, upd_n, ite_t, ite_f, if_true, if_false, ne_eq, not_true, not_false_iff])) r2.2.2.2.2
              rw [bT_o hb n1 l15' l18' hv hvb m1 his w1]
              have hsn2 := r3.1
              exact lineLoop hN he hB hM NN _ _ _ _ _ oT3 _ mL3 _ mW ns op (lz ln nb) (by omega) (hR.trans (q1.trans (r1.trans x1))) x2 x3 w2 (by rw [w3, m3, n3]; exact h20) (by simp (disch := omega) only [zLet_e, zJn_e, zB1_s, zB2_s, zB3_s, zB4_s, zB5_s, zB6_s, zB7_s, zGd_in, zGd_b0, zGd_b1, rs_s, rs_n, upd_s, upd_n, ite_t, ite_f, if_true, if_false, ne_eq, not_true, not_false_iff]) hLI (by omega) (by omega)
            · rw [if_neg k123] at his
              rw [bT_b hb n1 l15' l18' hv hvb m1 his]
              refine Sm_st m2.2.1 ?_
              rw [hR, q1, r1]
              by_cases k0 : k2 = 0
              · subst k0
                exact cl_end hN he r2 r3 (a := 2) (by omega) (by simp (disch := omega) only [zLet_e, zJn_e, zB1_s, zB2_s, zB3_s, zB4_s, zB5_s, zB6_s, zB7_s, zGd_in, zGd_b0, zGd_b1, rs_s, rs_n, upd_s, upd_n, ite_t, ite_f, if_true, if_false, ne_eq, not_true, not_false_iff]) (Or.inl (by omega))
              · exact cl_bad hN he r2 r3 k0 (v := 1) (meet2b t4'' hk2 (by simp (disch := omega) only [zLet_e, zJn_e, zB1_s, zB2_s, zB3_s, zB4_s, zB5_s, zB6_s, zB7_s, zGd_in, zGd_b0, zGd_b1, rs_s, rs_n, upd_s, upd_n, ite_t, ite_f, if_true, if_false, ne_eq, not_true, not_false_iff]) k123) (by omega) (by omega) r2.2.2.2.2
          · rw [bT_v n1 l15' l18' hv hvb]
            refine Sm_st n2.2.1 ?_
            rw [hR, q1]
            exact cl_bad hN he q2 q3 (by omega) (v := 4) (meet1v t4' (by simp (disch := omega) only [zLet_e, zJn_e, zB1_s, zB2_s, zB3_s, zB4_s, zB5_s, zB6_s, zB7_s, zGd_in, zGd_b0, zGd_b1, rs_s, rs_n, upd_s, upd_n, ite_t, ite_f, if_true, if_false, ne_eq, not_true, not_false_iff]) t7' hv hvb) (by omega) (by omega) q2.2.2.2.2
        · have l15' : ¬ mL1 15 0 = nI 3 := by rw [n2.2.2.2.1]; exact fun h => k3 (srt3.mp h)
          rw [bT_n n1 l15']
          refine Sm_st n2.2.1 ?_
          rw [hR, q1]
          by_cases k0 : k1 = 0
          · subst k0
            exact cl_end hN he q2 q3 (a := 1) (by omega) (by simp (disch := omega) only [zLet_e, zJn_e, zB1_s, zB2_s, zB3_s, zB4_s, zB5_s, zB6_s, zB7_s, zGd_in, zGd_b0, zGd_b1, rs_s, rs_n, upd_s, upd_n, ite_t, ite_f, if_true, if_false, ne_eq, not_true, not_false_iff]) (Or.inl (by omega))
          · exact cl_bad hN he q2 q3 k0 (v := 1) (meet1b q2.2.1.2.2.1 hk1 (by simp (disch := omega) only [zLet_e, zJn_e, zB1_s, zB2_s, zB3_s, zB4_s, zB5_s, zB6_s, zB7_s, zGd_in, zGd_b0, zGd_b1, rs_s, rs_n, upd_s, upd_n, ite_t, ite_f, if_true, if_false, ne_eq, not_true, not_false_iff]) k3) (by omega) (by omega) q2.2.2.2.2
  · have l15 : ¬ mL 15 0 = (2 : Int32) := by rw [hl.2.2.2.1]; exact fun h => k2 (srt2.mp h)
    rw [if_neg l15, lq_1, stop_e, zB1_s]
    refine Sm_st hl.2.1 ?_
    rw [hR]
    by_cases k0 : k = 0
    · have := hk0 k0
      subst k0
      subst this
      exact cl_end hN he hc' ht (by omega) h4 (Or.inr hI.1)
    · exact cl_bad hN he hc' ht k0 (v := 1) (meet0b t4 hk h4 k2) (by omega) (by omega) o10
/-- what a read program leaves -/
def RPost (B : Nat → Nat) (R : Option (Int32 × Rc × Rc × Rc)) (mS' : Rc) : Prop := ∃ oR' oT' oS' nb ns ln op, R = some (nI 1, oR', oT', oS') ∧ 1 ≤ nb ∧ BI nb oS' mS' ns ln op ∧ ns ≤ 600 ∧ oR' 2 0 = nI 0 ∧ (∀ i, i < 600 → oT' 0 i = nI (B i)) ∧ oT' 1 0 = nI 0
theorem cl_fin {B : Nat → Nat} {NN e i s nx nb : Nat} {oR oT oS : Rc} (hN : 1000 ≤ NN) (he : e ≤ 600) (hc : CB B e i s nx 0 oR oT oS) (ht : Tk B e s nx 0) (h4 : oR 4 0 = nI 0) (hb : oS 0 0 = nI nb) (hb1 : 1 ≤ nb) (hb' : nb ≤ 12) : CL NN i oR oT oS = some (nI 1, rs oR 3 (fun _ => oT 5 0), rs oT 1 (fun _ => nI 0), oS) := by
  obtain ⟨h0, ⟨t2, t3, t4, t5, t6, t7, t8, t9⟩, hr, hi, h10⟩ := hc
  have hs : s ≤ 600 := by have := ht.1; have := ht.2.1; omega
  show fX5_read_L27 NN cJ (NN - i) (nI i) oR oT oS = _
  rw [show NN - i = (NN - i - 1) + 1 by omega, fX5_read_L27_s]
  by_cases hi6 : i < 600
  · simp (disch := omega) only [zLet_e, zJn_e, zB1_s, zB2_s, zB3_s, zB4_s, zB5_s, zB6_s, zB7_s, zGd_in, zGd_b0, zGd_b1, rs_s, rs_n, upd_s, upd_n, ite_t, ite_f, if_true, if_false, ne_eq, not_true, not_false_iff, nI_1, nI_add, nI_mul, nI_sub, nIc, nI_leI, nI_ltI, nI_eq, nI_m1, nI_m1', nI_lt0, nI_m2, ↓lq_m1, ↓lq_m2, ↓lq_m8, ↓lq_mm, lq_0, lq_1, lq_2, lq_3, lq_4, lq_5, lq_6, lq_7, lq_8, lq_9, lq_10, lq_12, lq_16, lq_20, lq_24, lq_31, lq_32, lq_40, lq_41, lq_42, lq_43, lq_45, lq_38, lq_48, lq_50, lq_57, lq_59, lq_60, lq_61, lq_63, lq_94, lq_96, lq_97, lq_100, lq_102, lq_104, lq_105, lq_120, lq_122, lq_123, lq_124, lq_125, lq_126, lq_255, lq_257, lq_600, lq_1000, lq_4096, lq_65535, lq_1000000, hr, t4]
    exact cJ_ok hr h4 hb (by omega) (by omega)
  · simp (disch := omega) only [zLet_e, zJn_e, zB1_s, zB2_s, zB3_s, zB4_s, zB5_s, zB6_s, zB7_s, zGd_in, zGd_b0, zGd_b1, rs_s, rs_n, upd_s, upd_n, ite_t, ite_f, if_true, if_false, ne_eq, not_true, not_false_iff, nI_1, nI_add, nI_mul, nI_sub, nIc, nI_leI, nI_ltI, nI_eq, nI_m1, nI_m1', nI_lt0, nI_m2, ↓lq_m1, ↓lq_m2, ↓lq_m8, ↓lq_mm, lq_0, lq_1, lq_2, lq_3, lq_4, lq_5, lq_6, lq_7, lq_8, lq_9, lq_10, lq_12, lq_16, lq_20, lq_24, lq_31, lq_32, lq_40, lq_41, lq_42, lq_43, lq_45, lq_38, lq_48, lq_50, lq_57, lq_59, lq_60, lq_61, lq_63, lq_94, lq_96, lq_97, lq_100, lq_102, lq_104, lq_105, lq_120, lq_122, lq_123, lq_124, lq_125, lq_126, lq_255, lq_257, lq_600, lq_1000, lq_4096, lq_65535, lq_1000000, hr, t4]
    exact cJ_ok hr h4 hb (by omega) (by omega)
theorem L35_e {NN n : Nat} {mB mL mS mW : Rc} {J : Rc → Rc → Rc → Option (Int32 × Rc × Rc × Rc)} : fX10_reads_L35 mB NN J (n + 1) (nI 1) mL mS mW = zB4 (fX10_readBlock NN mB mL mS mW) (fun fl a b c => if fl = nI 1 then some (nI 1, a, b, c) else if a 15 0 = nI 1 then fX10_reads_L35 mB NN J n (nI 0) a b c else fX10_reads_L35 mB NN J n (nI 1) a b c) := by
  rw [fX10_reads_L35_s]
  rw [if_neg (by decide)]
  rfl
theorem L35_0 {NN n : Nat} {mB mL mS mW : Rc} {J : Rc → Rc → Rc → Option (Int32 × Rc × Rc × Rc)} : fX10_reads_L35 mB NN J (n + 1) (nI 0) mL mS mW = J mL mS mW := by
  rw [fX10_reads_L35_s]
  exact if_pos rfl
theorem readsLoop {B : Nat → Nat} {e NN : Nat} {mB : Rc} {R : Option (Int32 × Rc × Rc × Rc)} (hN : 1000 ≤ NN) (he : e ≤ 600) (hB : ∀ i, B i < 256) (hM : ∀ i, i < 600 → mB 11 i = sx (B i)) : ∀ (n i s nx k : Nat) (oR oT oS mL mS mW : Rc) (nb ns op : Nat) (ln : Nat → Nat), e - s + 1 < n → R = CL NN i oR oT oS → CB B e i s nx k oR oT oS → Tk B e s nx k → T10 B e s nx k mL → mL 20 0 = nI 0 → oR 4 0 = nI 0 → BI nb oS mS ns ln op → ns ≤ s → (k = 0 → nb = 0) → Sm B R (fX10_reads_L35 mB NN (fun a b c => some (nI 0, a, b, c)) n (nI 1) mL mS mW) (fun _ mS' _ => RPost B R mS') := by
  intro n
  induction n with
  | zero => intro i s nx k oR oT oS mL mS mW nb ns op ln hn; omega
  | succ n ih =>
    intro i s nx k oR oT oS mL mS mW nb ns op ln hn hR hc ht hl h20 h4 hI hns hk0
    rw [L35_e]
    refine Sm_b4 (blockS hN he hB hM hR hc ht hl h20 h4 hI hns hk0) ?_ (fun a b d => if_pos rfl)
    intro mL2 mS2 mW2 ⟨i', s', nx', k', oR', oT', oS', ns', ln', op', e1, e2, e3, e4, e5, e6, e7, e8, e9⟩
    show Sm B R (if nI 0 = nI 1 then _ else _) _
    rw [if_neg (by decide)]
    have hs1 := e3.1
    have hs2 := e3.2.1
    by_cases k0 : k' = 0
    · subst k0
      rw [if_pos (show mL2 15 0 = nI 1 from e4.2.2.2.1)]
      obtain ⟨n, rfl⟩ : ∃ n', n = n' + 1 := ⟨n - 1, by omega⟩
      rw [L35_0]
      refine Sm_ok ⟨_, _, oS', nb + 1, ns', ln', op', e1.trans (cl_fin hN he e2 e3 e6 e7.1 (by omega) e7.2.2.1.1), by omega, e7, by omega, ?_, ?_, ?_⟩
      · simp (disch := omega) only [zLet_e, zJn_e, zB1_s, zB2_s, zB3_s, zB4_s, zB5_s, zB6_s, zB7_s, zGd_in, zGd_b0, zGd_b1, rs_s, rs_n, upd_s, upd_n, ite_t, ite_f, if_true, if_false, ne_eq, not_true, not_false_iff, e2.2.2.1]
      · intro j hj; simp (disch := omega) only [zLet_e, zJn_e, zB1_s, zB2_s, zB3_s, zB4_s, zB5_s, zB6_s, zB7_s, zGd_in, zGd_b0, zGd_b1, rs_s, rs_n, upd_s, upd_n, ite_t, ite_f, if_true, if_false, ne_eq, not_true, not_false_iff, e2.1 j hj]
      · simp (disch := omega) only [zLet_e, zJn_e, zB1_s, zB2_s, zB3_s, zB4_s, zB5_s, zB6_s, zB7_s, zGd_in, zGd_b0, zGd_b1, rs_s, rs_n, upd_s, upd_n, ite_t, ite_f, if_true, if_false, ne_eq, not_true, not_false_iff]
    · rw [if_neg (fun h => k0 (srt0.mp (e4.2.2.2.1.symm.trans h)))]
      exact ih i' s' nx' k' oR' oT' oS' mL2 mS2 mW2 (nb + 1) ns' op' ln' (by omega) e1 e2 e3 e4 e5 e6 e7 e9 (fun h => absurd h k0)
set_option maxHeartbeats 8000000 in
theorem readProg {B : Nat → Nat} {NN n0 len : Nat} {mB oR oT oS mL mS mW : Rc} (hN : 1000 ≤ NN) (hB : ∀ i, B i < 256) (hM : ∀ i, i < 600 → mB 11 i = sx (B i)) (b0 : ∀ i, i < 600 → oT 0 i = nI (B i)) (o1 : oT 1 0 = nI len) (hlen : len ≤ 600) (hn0 : n0 ≤ len) (o10 : oS 10 0 = nI 0) (l13 : mL 13 0 = nI n0) (l14 : mL 14 0 = nI 0) : ∃ R, fX5_read NN oR oT oS (nI n0) = R ∧ Sm B R (fX10_reads NN mB mL mS mW) (fun _ mS' _ => RPost B R mS') := by
  refine ⟨_, rfl, ?_⟩
  rw [read_cl]
  unfold fX4_forget fX6_open fX10_reads
  have hx1 : (if (oT 1 0) < nI n0 then (oT 1 0) else nI n0) = nI n0 := by
    rw [o1]
    by_cases c : len < n0
    · omega
    · exact if_neg (fun h => c ((nI_ltI (by omega) (by omega)).mp h))
  have hx2 : (if (0 : Int32) < nI n0 then nI n0 else (0 : Int32)) = nI n0 := by
    by_cases c : 0 < n0
    · exact if_pos ((nI_ltI (a := 0) (by omega) (by omega)).mpr c)
    · rw [show n0 = 0 by omega]; rfl
  obtain ⟨oT1, s1, s2, s3, s4⟩ := step6 (oT := rs (rs oT 2 (fun _ => nI n0)) 3 (fun _ => nI 0)) (e := n0) (p := 0) (NN := NN) (by omega) hB (by omega) (fun i hi => by simp (disch := omega) only [zLet_e, zJn_e, zB1_s, zB2_s, zB3_s, zB4_s, zB5_s, zB6_s, zB7_s, zGd_in, zGd_b0, zGd_b1, rs_s, rs_n, upd_s, upd_n, ite_t, ite_f, if_true, if_false, ne_eq, not_true, not_false_iff, b0 i hi]) (by simp (disch := omega) only [zLet_e, zJn_e, zB1_s, zB2_s, zB3_s, zB4_s, zB5_s, zB6_s, zB7_s, zGd_in, zGd_b0, zGd_b1, rs_s, rs_n, upd_s, upd_n, ite_t, ite_f, if_true, if_false, ne_eq, not_true, not_false_iff]) (by simp (disch := omega) only [zLet_e, zJn_e, zB1_s, zB2_s, zB3_s, zB4_s, zB5_s, zB6_s, zB7_s, zGd_in, zGd_b0, zGd_b1, rs_s, rs_n, upd_s, upd_n, ite_t, ite_f, if_true, if_false, ne_eq, not_true, not_false_iff]) (by omega)
  obtain ⟨mL1, m1, m2, m3⟩ := next10 (mB := mB) (mL := rs mL 20 (fun _ => nI 0)) (e := n0) (p := 0) (NN := NN) (by omega) hB hM (by omega) (by simp (disch := omega) only [zLet_e, zJn_e, zB1_s, zB2_s, zB3_s, zB4_s, zB5_s, zB6_s, zB7_s, zGd_in, zGd_b0, zGd_b1, rs_s, rs_n, upd_s, upd_n, ite_t, ite_f, if_true, if_false, ne_eq, not_true, not_false_iff, l13]) (by simp (disch := omega) only [zLet_e, zJn_e, zB1_s, zB2_s, zB3_s, zB4_s, zB5_s, zB6_s, zB7_s, zGd_in, zGd_b0, zGd_b1, rs_s, rs_n, upd_s, upd_n, ite_t, ite_f, if_true, if_false, ne_eq, not_true, not_false_iff, l14]) (by omega)
  obtain ⟨u1, u2⟩ := tk_tk (e := n0) (p := 0) hB (by omega)
  simp only [zLet_e, zJn_e, zB1_s, hx1, hx2]
  simp only [lq_0, lq_1, s1, m1, zB1_s]
  have hcl : ∀ oR oS, fX5_read_L27 NN cJ NN (nI 0) oR oT1 oS = CL NN 0 oR oT1 oS := fun _ _ => rfl
  rw [hcl]
  refine readsLoop hN (by omega) hB hM NN 0 _ _ _ _ oT1 _ mL1 _ mW 0 0 0 (fun _ => 0) ?_ rfl ⟨?_, s4, ?_, by omega, ?_⟩ u2 m2 ?_ ?_ ⟨?_, ?_, ⟨by omega, fun b hb => by omega, fun b j hb => by omega⟩, ?_, ?_, ⟨?_, ?_, fun i hi => by omega, Hts_0 _ _, ?_, ?_, by omega⟩, ?_⟩ (by omega) (fun _ => rfl)
  · omega
  · intro i hi; rw [s2]; simp (disch := omega) only [zLet_e, zJn_e, zB1_s, zB2_s, zB3_s, zB4_s, zB5_s, zB6_s, zB7_s, zGd_in, zGd_b0, zGd_b1, rs_s, rs_n, upd_s, upd_n, ite_t, ite_f, if_true, if_false, ne_eq, not_true, not_false_iff, b0 i hi]
  · simp (disch := omega) only [zLet_e, zJn_e, zB1_s, zB2_s, zB3_s, zB4_s, zB5_s, zB6_s, zB7_s, zGd_in, zGd_b0, zGd_b1, rs_s, rs_n, upd_s, upd_n, ite_t, ite_f, if_true, if_false, ne_eq, not_true, not_false_iff]
  · simp (disch := omega) only [zLet_e, zJn_e, zB1_s, zB2_s, zB3_s, zB4_s, zB5_s, zB6_s, zB7_s, zGd_in, zGd_b0, zGd_b1, rs_s, rs_n, upd_s, upd_n, ite_t, ite_f, if_true, if_false, ne_eq, not_true, not_false_iff, o10]
  · rw [m3]; simp (disch := omega) only [zLet_e, zJn_e, zB1_s, zB2_s, zB3_s, zB4_s, zB5_s, zB6_s, zB7_s, zGd_in, zGd_b0, zGd_b1, rs_s, rs_n, upd_s, upd_n, ite_t, ite_f, if_true, if_false, ne_eq, not_true, not_false_iff]
  · simp (disch := omega) only [zLet_e, zJn_e, zB1_s, zB2_s, zB3_s, zB4_s, zB5_s, zB6_s, zB7_s, zGd_in, zGd_b0, zGd_b1, rs_s, rs_n, upd_s, upd_n, ite_t, ite_f, if_true, if_false, ne_eq, not_true, not_false_iff]
  · simp (disch := omega) only [zLet_e, zJn_e, zB1_s, zB2_s, zB3_s, zB4_s, zB5_s, zB6_s, zB7_s, zGd_in, zGd_b0, zGd_b1, rs_s, rs_n, upd_s, upd_n, ite_t, ite_f, if_true, if_false, ne_eq, not_true, not_false_iff]
  · simp (disch := omega) only [zLet_e, zJn_e, zB1_s, zB2_s, zB3_s, zB4_s, zB5_s, zB6_s, zB7_s, zGd_in, zGd_b0, zGd_b1, rs_s, rs_n, upd_s, upd_n, ite_t, ite_f, if_true, if_false, ne_eq, not_true, not_false_iff]
  · simp (disch := omega) only [zLet_e, zJn_e, zB1_s, zB2_s, zB3_s, zB4_s, zB5_s, zB6_s, zB7_s, zGd_in, zGd_b0, zGd_b1, rs_s, rs_n, upd_s, upd_n, ite_t, ite_f, if_true, if_false, ne_eq, not_true, not_false_iff]; rfl
  · show rs (rs (rs (rs oS 0 _) 1 _) 2 _) 3 _ 10 0 = _
    simp (disch := omega) only [zLet_e, zJn_e, zB1_s, zB2_s, zB3_s, zB4_s, zB5_s, zB6_s, zB7_s, zGd_in, zGd_b0, zGd_b1, rs_s, rs_n, upd_s, upd_n, ite_t, ite_f, if_true, if_false, ne_eq, not_true, not_false_iff, o10]
  · simp (disch := omega) only [zLet_e, zJn_e, zB1_s, zB2_s, zB3_s, zB4_s, zB5_s, zB6_s, zB7_s, zGd_in, zGd_b0, zGd_b1, rs_s, rs_n, upd_s, upd_n, ite_t, ite_f, if_true, if_false, ne_eq, not_true, not_false_iff]
  · simp (disch := omega) only [zLet_e, zJn_e, zB1_s, zB2_s, zB3_s, zB4_s, zB5_s, zB6_s, zB7_s, zGd_in, zGd_b0, zGd_b1, rs_s, rs_n, upd_s, upd_n, ite_t, ite_f, if_true, if_false, ne_eq, not_true, not_false_iff]
  · simp (disch := omega) only [zLet_e, zJn_e, zB1_s, zB2_s, zB3_s, zB4_s, zB5_s, zB6_s, zB7_s, zGd_in, zGd_b0, zGd_b1, rs_s, rs_n, upd_s, upd_n, ite_t, ite_f, if_true, if_false, ne_eq, not_true, not_false_iff]
  · simp (disch := omega) only [zLet_e, zJn_e, zB1_s, zB2_s, zB3_s, zB4_s, zB5_s, zB6_s, zB7_s, zGd_in, zGd_b0, zGd_b1, rs_s, rs_n, upd_s, upd_n, ite_t, ite_f, if_true, if_false, ne_eq, not_true, not_false_iff]
  · simp (disch := omega) only [zLet_e, zJn_e, zB1_s, zB2_s, zB3_s, zB4_s, zB5_s, zB6_s, zB7_s, zGd_in, zGd_b0, zGd_b1, rs_s, rs_n, upd_s, upd_n, ite_t, ite_f, if_true, if_false, ne_eq, not_true, not_false_iff, o10]
