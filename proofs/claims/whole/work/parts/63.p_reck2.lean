/-! own part (pure): reckon whole; the reference's needs whole -/
theorem FE_t {a b c : Rc} {n : Nat} (h : FE a b n) (h' : FE b c n) : FE a c n := ⟨fun k j hj hk => (h'.1 k j hj hk).trans (h.1 k j hj hk), h'.2.1.trans h.2.1, h'.2.2.trans h.2.2⟩
theorem FE_r (a : Rc) (n : Nat) : FE a a n := ⟨fun _ _ _ _ => rfl, rfl, rfl⟩
theorem r32_go {oP oE oQ oE1 oQ1 : Rc} {J : Rc → Rc → Option (Rc × Rc)} {NN n b lc e : Nat} (hb : b < 12) (o7 : oP 7 (b + 1) = nI e) (hl : lc < e) (he : e ≤ 96) (hr : fX2_reckonLine NN oP oE oQ (nI b) (nI lc) = some (oE1, oQ1)) : fX2_reckon_L32 oP NN (nI b) J (n + 1) (nI lc) oE oQ = fX2_reckon_L32 oP NN (nI b) J n (nI (lc + 1)) oE1 oQ1 := by
  rw [fX2_reckon_L32_s]
  simp (disch := omega) only [↓zLet_q, ↓zJn_q, ↓reduceIte, zB1_q, zB2_q, zB3_q, zB4_q, zB5_q, zB6_q, zB7_q, zGd_in, zGd_b0, zGd_b1, rs_s, rs_n, upd_s, upd_n, ne_eq, not_true, not_false_iff, ↓imax_e, nI_1, nI_add, nI_mul, nI_sub, nIc, nI_le_t, nI_le_f, nI_lt_t, nI_lt_f, nI_eq_t, nI_eq_f, nI_m1, nI_m1', nI_m2, nI_lt0, ↓lr_m1, ↓lr_m2, ↓lr_m8, ↓lr_mm, lr_0, lr_1, lr_2, lr_3, lr_4, lr_5, lr_6, lr_7, lr_8, lr_9, lr_10, lr_12, lr_16, lr_20, lr_24, lr_31, lr_32, lr_40, lr_41, lr_42, lr_43, lr_45, lr_38, lr_48, lr_50, lr_57, lr_59, lr_60, lr_61, lr_63, lr_94, lr_96, lr_97, lr_100, lr_102, lr_104, lr_105, lr_120, lr_122, lr_123, lr_124, lr_125, lr_126, lr_255, lr_257, lr_600, lr_1000, lr_4096, lr_65535, lr_1000000, o7, hr]
theorem r32_end {oP oE oQ : Rc} {J : Rc → Rc → Option (Rc × Rc)} {NN n b e : Nat} (hb : b < 12) (o7 : oP 7 (b + 1) = nI e) (he : e ≤ 96) : fX2_reckon_L32 oP NN (nI b) J (n + 1) (nI e) oE oQ = J oE oQ := by
  rw [fX2_reckon_L32_s]
  simp (disch := omega) only [↓zLet_q, ↓zJn_q, ↓reduceIte, zB1_q, zB2_q, zB3_q, zB4_q, zB5_q, zB6_q, zB7_q, zGd_in, zGd_b0, zGd_b1, rs_s, rs_n, upd_s, upd_n, ne_eq, not_true, not_false_iff, ↓imax_e, nI_1, nI_add, nI_mul, nI_sub, nIc, nI_le_t, nI_le_f, nI_lt_t, nI_lt_f, nI_eq_t, nI_eq_f, nI_m1, nI_m1', nI_m2, nI_lt0, ↓lr_m1, ↓lr_m2, ↓lr_m8, ↓lr_mm, lr_0, lr_1, lr_2, lr_3, lr_4, lr_5, lr_6, lr_7, lr_8, lr_9, lr_10, lr_12, lr_16, lr_20, lr_24, lr_31, lr_32, lr_40, lr_41, lr_42, lr_43, lr_45, lr_38, lr_48, lr_50, lr_57, lr_59, lr_60, lr_61, lr_63, lr_94, lr_96, lr_97, lr_100, lr_102, lr_104, lr_105, lr_120, lr_122, lr_123, lr_124, lr_125, lr_126, lr_255, lr_257, lr_600, lr_1000, lr_4096, lr_65535, lr_1000000, o7]
theorem reckLines {oP mP : Rc} {W : Int32} {nb ns b NN : Nat} {ln : Nat → Nat} (hN : 1000 ≤ NN) (h : PG oP mP nb ns ln) (hb : b < nb) : ∀ (n j : Nat) (oE oQ : Rc) (dp : Ar), ln b - j < n → j ≤ ln b → oE 9 0 = W → (∀ i, i < 8 → oE 7 i = dp i) → ∃ oE' oQ', (∀ J, fX2_reckon_L32 oP NN (nI b) J n (nI (sm ln b + j)) oE oQ = J oE' oQ') ∧ oE' 0 b = oE 0 b + sw (opW mP) (8 * b + j) (8 * b + ln b - (8 * b + j)) ∧ oE' 1 b = oE 1 b + sw (cdW W mP) (8 * b + j) (8 * b + ln b - (8 * b + j)) ∧ oE' 2 b = oE 2 b + sw (gtW W mP) (8 * b + j) (8 * b + ln b - (8 * b + j)) ∧ oE' 3 b = (dpF W mP (8 * b + j) (8 * b + ln b - (8 * b + j)) dp (oE 3 b)).2 ∧ oE' 5 b = (rdF mP (8 * b + j) (8 * b + ln b - (8 * b + j)) (oE 5 b) (oE 10 0)).1 ∧ oE' 6 b = oE 6 b ||| so (wrW mP) (8 * b + j) (8 * b + ln b - (8 * b + j)) ∧ FE oE oE' b := by
  have h12 := h.1.1
  obtain ⟨l8, _, _, o7', _⟩ := h.1.2.1 b hb
  have hsm : sm ln (b + 1) = sm ln b + ln b := rfl
  have h96 : sm ln b ≤ 8 * b := sm_le b (fun x hx => (h.1.2.1 x (by omega)).1)
  rw [hsm] at o7'
  intro n
  induction n with
  | zero => intro j oE oQ dp hn; omega
  | succ n ih =>
    intro j oE oQ dp hn hj hW ha
    by_cases c : j < ln b
    · obtain ⟨t, f, g, a1, a2, a3, a4, a5, a6, a7, a8, a9, a10, a11, a12⟩ := h.1.2.2 b j hb c
      obtain ⟨oE1, oQ1, r1, r2, r3, r4, r5, r6, r7, r8, r9, r10⟩ := reckLine (oE := oE) (oQ := oQ) (W := W) (dp := dp) (b := b) hN (by omega) (by omega) h.2.2.1 h.2.1 a1 a2 a3 a4 a5 a6 a7 a8 a9 a10 a11 a12 hW ha
      obtain ⟨oE2, oQ2, s1, s2, s3, s4, s5, s6, s7, s8⟩ := ih (j + 1) oE1 oQ1 (upd dp (mP 8 (8 * b + j)).toNatClampNeg (dLn W mP dp (8 * b + j))) (by omega) (by omega) (r10.2.2.trans hW) r9
      have cl : 8 * b + j < 8 * b + ln b := by omega
      rw [swc cl, swc cl, swc cl, soc cl, rdFc cl, dpFc cl]
      refine ⟨oE2, oQ2, fun J => ?_, ?_, ?_, ?_, ?_, ?_, ?_, FE_t r10 s8⟩
      · rw [r32_go (by omega) o7' (by omega) (by omega) r1]
        exact s1 J
      · rw [s2, r2, Int32.add_assoc]; rfl
      · rw [s3, r3, Int32.add_assoc]; rfl
      · rw [s4, r4, Int32.add_assoc]; rfl
      · rw [s5, r5]; rfl
      · rw [s6, r6, r8]; rfl
      · rw [s7, r7, Int32.or_assoc]; rfl
    · have : j = ln b := by omega
      subst this
      rw [sw0, sw0, sw0, so0, rdF0, dpF0]
      refine ⟨oE, oQ, fun J => r32_end (by omega) o7' (by omega), ?_, ?_, ?_, rfl, rfl, ?_, FE_r _ _⟩
      · rw [Int32.add_zero]
      · rw [Int32.add_zero]
      · rw [Int32.add_zero]
      · rw [Int32.or_zero]
theorem begB {oE : Rc} {b NN : Nat} (hN : 1000 ≤ NN) (hb : b < 12) : ∃ oE', fX2_beginBlock NN oE (nI b) = some oE' ∧ oE' 0 b = 0 ∧ oE' 1 b = 0 ∧ oE' 2 b = 0 ∧ oE' 3 b = 0 ∧ oE' 5 b = 0 ∧ oE' 6 b = 0 ∧ oE' 10 0 = 0 ∧ (∀ i, i < 8 → oE' 7 i = 0) ∧ FE oE oE' b := by
  have key : ∀ (n i : Nat) (oE : Rc), 8 - i < n → i ≤ 8 → (∀ x, x < i → oE 7 x = 0) → ∃ oE', (∀ J, fX2_beginBlock_L49 J n (nI i) oE = J oE') ∧ (∀ x, x < 8 → oE' 7 x = 0) ∧ ∀ k, k ≠ 7 → oE' k = oE k := by
    intro n
    induction n with
    | zero => intro i oE h; omega
    | succ n ih =>
      intro i oE h1 h2 h3
      by_cases c : i < 8
      · obtain ⟨oE', e1, e2, e3⟩ := ih (i + 1) (rs oE 7 (upd (oE 7) i (nI 0))) (by omega) (by omega) (fun x hx => by
          by_cases c' : x = i
          · subst c'; rw [rs_s, upd_s]; rfl
          · rw [rs_s, upd_n c']; exact h3 x (by omega))
        refine ⟨oE', fun J => ?_, e2, fun k hk => (e3 k hk).trans (rs_n _ _ hk)⟩
        rw [fX2_beginBlock_L49_s]
        simp (disch := omega) only [↓zLet_q, ↓zJn_q, ↓reduceIte, zB1_q, zB2_q, zB3_q, zB4_q, zB5_q, zB6_q, zB7_q, zGd_in, zGd_b0, zGd_b1, rs_s, rs_n, upd_s, upd_n, ne_eq, not_true, not_false_iff, ↓imax_e, nI_1, nI_add, nI_mul, nI_sub, nIc, nI_le_t, nI_le_f, nI_lt_t, nI_lt_f, nI_eq_t, nI_eq_f, nI_m1, nI_m1', nI_m2, nI_lt0, ↓lr_m1, ↓lr_m2, ↓lr_m8, ↓lr_mm, lr_0, lr_1, lr_2, lr_3, lr_4, lr_5, lr_6, lr_7, lr_8, lr_9, lr_10, lr_12, lr_16, lr_20, lr_24, lr_31, lr_32, lr_40, lr_41, lr_42, lr_43, lr_45, lr_38, lr_48, lr_50, lr_57, lr_59, lr_60, lr_61, lr_63, lr_94, lr_96, lr_97, lr_100, lr_102, lr_104, lr_105, lr_120, lr_122, lr_123, lr_124, lr_125, lr_126, lr_255, lr_257, lr_600, lr_1000, lr_4096, lr_65535, lr_1000000]
        exact e1 J
      · refine ⟨oE, fun J => ?_, fun x hx => h3 x (by omega), fun _ _ => rfl⟩
        rw [fX2_beginBlock_L49_s]
        simp (disch := omega) only [↓zLet_q, ↓zJn_q, ↓reduceIte, zB1_q, zB2_q, zB3_q, zB4_q, zB5_q, zB6_q, zB7_q, zGd_in, zGd_b0, zGd_b1, rs_s, rs_n, upd_s, upd_n, ne_eq, not_true, not_false_iff, ↓imax_e, nI_1, nI_add, nI_mul, nI_sub, nIc, nI_le_t, nI_le_f, nI_lt_t, nI_lt_f, nI_eq_t, nI_eq_f, nI_m1, nI_m1', nI_m2, nI_lt0, ↓lr_m1, ↓lr_m2, ↓lr_m8, ↓lr_mm, lr_0, lr_1, lr_2, lr_3, lr_4, lr_5, lr_6, lr_7, lr_8, lr_9, lr_10, lr_12, lr_16, lr_20, lr_24, lr_31, lr_32, lr_40, lr_41, lr_42, lr_43, lr_45, lr_38, lr_48, lr_50, lr_57, lr_59, lr_60, lr_61, lr_63, lr_94, lr_96, lr_97, lr_100, lr_102, lr_104, lr_105, lr_120, lr_122, lr_123, lr_124, lr_125, lr_126, lr_255, lr_257, lr_600, lr_1000, lr_4096, lr_65535, lr_1000000]
  obtain ⟨oE', e1, e2, e3⟩ := key NN 0 (rs (rs (rs (rs (rs (rs (rs oE 0 (upd (oE 0) b (nI 0))) 1 (upd (oE 1) b (nI 0))) 2 (upd (oE 2) b (nI 0))) 3 (upd (oE 3) b (nI 0))) 5 (upd (oE 5) b (nI 0))) 6 (upd (oE 6) b (nI 0))) 10 (fun _ => nI 0)) (by omega) (by omega) (fun x hx => by omega)
  refine ⟨oE', ?_, ?_, ?_, ?_, ?_, ?_, ?_, ?_, e2, ⟨fun k j hj hk => ?_, ?_, ?_⟩⟩
  · unfold fX2_beginBlock
    simp (disch := omega) only [↓zLet_q, ↓zJn_q, ↓reduceIte, zB1_q, zB2_q, zB3_q, zB4_q, zB5_q, zB6_q, zB7_q, zGd_in, zGd_b0, zGd_b1, rs_s, rs_n, upd_s, upd_n, ne_eq, not_true, not_false_iff, ↓imax_e, nI_1, nI_add, nI_mul, nI_sub, nIc, nI_le_t, nI_le_f, nI_lt_t, nI_lt_f, nI_eq_t, nI_eq_f, nI_m1, nI_m1', nI_m2, nI_lt0, ↓lr_m1, ↓lr_m2, ↓lr_m8, ↓lr_mm, lr_0, lr_1, lr_2, lr_3, lr_4, lr_5, lr_6, lr_7, lr_8, lr_9, lr_10, lr_12, lr_16, lr_20, lr_24, lr_31, lr_32, lr_40, lr_41, lr_42, lr_43, lr_45, lr_38, lr_48, lr_50, lr_57, lr_59, lr_60, lr_61, lr_63, lr_94, lr_96, lr_97, lr_100, lr_102, lr_104, lr_105, lr_120, lr_122, lr_123, lr_124, lr_125, lr_126, lr_255, lr_257, lr_600, lr_1000, lr_4096, lr_65535, lr_1000000, e1]
  · rw [e3 0 (by omega)]; simp (disch := omega) only [zLet_e, zJn_e, zB1_s, zB2_s, zB3_s, zB4_s, zB5_s, zB6_s, zB7_s, zGd_in, zGd_b0, zGd_b1, rs_s, rs_n, upd_s, upd_n, ite_t, ite_f, if_true, if_false, ne_eq, not_true, not_false_iff]; rfl
  · rw [e3 1 (by omega)]; simp (disch := omega) only [zLet_e, zJn_e, zB1_s, zB2_s, zB3_s, zB4_s, zB5_s, zB6_s, zB7_s, zGd_in, zGd_b0, zGd_b1, rs_s, rs_n, upd_s, upd_n, ite_t, ite_f, if_true, if_false, ne_eq, not_true, not_false_iff]; rfl
  · rw [e3 2 (by omega)]; simp (disch := omega) only [zLet_e, zJn_e, zB1_s, zB2_s, zB3_s, zB4_s, zB5_s, zB6_s, zB7_s, zGd_in, zGd_b0, zGd_b1, rs_s, rs_n, upd_s, upd_n, ite_t, ite_f, if_true, if_false, ne_eq, not_true, not_false_iff]; rfl
  · rw [e3 3 (by omega)]; simp (disch := omega) only [zLet_e, zJn_e, zB1_s, zB2_s, zB3_s, zB4_s, zB5_s, zB6_s, zB7_s, zGd_in, zGd_b0, zGd_b1, rs_s, rs_n, upd_s, upd_n, ite_t, ite_f, if_true, if_false, ne_eq, not_true, not_false_iff]; rfl
  · rw [e3 5 (by omega)]; simp (disch := omega) only [zLet_e, zJn_e, zB1_s, zB2_s, zB3_s, zB4_s, zB5_s, zB6_s, zB7_s, zGd_in, zGd_b0, zGd_b1, rs_s, rs_n, upd_s, upd_n, ite_t, ite_f, if_true, if_false, ne_eq, not_true, not_false_iff]; rfl
  · rw [e3 6 (by omega)]; simp (disch := omega) only [zLet_e, zJn_e, zB1_s, zB2_s, zB3_s, zB4_s, zB5_s, zB6_s, zB7_s, zGd_in, zGd_b0, zGd_b1, rs_s, rs_n, upd_s, upd_n, ite_t, ite_f, if_true, if_false, ne_eq, not_true, not_false_iff]; rfl
  · rw [e3 10 (by omega)]; simp (disch := omega) only [zLet_e, zJn_e, zB1_s, zB2_s, zB3_s, zB4_s, zB5_s, zB6_s, zB7_s, zGd_in, zGd_b0, zGd_b1, rs_s, rs_n, upd_s, upd_n, ite_t, ite_f, if_true, if_false, ne_eq, not_true, not_false_iff]; rfl
  · rw [e3 k (by omega)]
    have : k = 0 ∨ k = 1 ∨ k = 2 ∨ k = 3 ∨ k = 4 ∨ k = 5 ∨ k = 6 := by omega
    rcases this with rfl | rfl | rfl | rfl | rfl | rfl | rfl <;> simp (disch := omega) only [zLet_e, zJn_e, zB1_s, zB2_s, zB3_s, zB4_s, zB5_s, zB6_s, zB7_s, zGd_in, zGd_b0, zGd_b1, rs_s, rs_n, upd_s, upd_n, ite_t, ite_f, if_true, if_false, ne_eq, not_true, not_false_iff]
  · rw [e3 4 (by omega)]; simp (disch := omega) only [zLet_e, zJn_e, zB1_s, zB2_s, zB3_s, zB4_s, zB5_s, zB6_s, zB7_s, zGd_in, zGd_b0, zGd_b1, rs_s, rs_n, upd_s, upd_n, ite_t, ite_f, if_true, if_false, ne_eq, not_true, not_false_iff]
  · rw [e3 9 (by omega)]; simp (disch := omega) only [zLet_e, zJn_e, zB1_s, zB2_s, zB3_s, zB4_s, zB5_s, zB6_s, zB7_s, zGd_in, zGd_b0, zGd_b1, rs_s, rs_n, upd_s, upd_n, ite_t, ite_f, if_true, if_false, ne_eq, not_true, not_false_iff]
theorem r8_go {oP oE oQ oE1 oE2 oQ2 : Rc} {J : Rc → Rc → Option (Rc × Rc)} {NN n nb b f t p : Nat} (hnb : nb ≤ 12) (o0 : oP 0 0 = nI nb) (hb : b < nb) (hp : 1 ≤ p) (hp' : p ≤ 1000) (h1 : fX2_beginBlock NN oE (nI b) = some oE1) (o7 : oP 7 b = nI f) (o6 : oP 6 b = nI t) (h2 : ∀ J, fX2_reckon_L32 oP NN (nI b) J NN (nI f) oE1 oQ = J oE2 oQ2) : fX2_reckon_L8 oP (nI p) NN J (n + 1) (nI b) oE oQ = fX2_reckon_L8 oP (nI p) NN J n (nI (b + 1)) (rs (rs oE2 1 (upd (oE2 1) b (oE2 1 b * nI t))) 4 (upd (oE2 4) b (nI 1 + nI t * imax (nI 1) ((oE2 3 b + nI p - nI 1) / nI p)))) oQ2 := by
  have hp0 : ¬ nI p = nI 0 := by rw [nI_eq (by omega) (by omega)]; omega
  rw [fX2_reckon_L8_s]
  simp (disch := omega) only [↓zLet_q, ↓zJn_q, ↓reduceIte, zB1_q, zB2_q, zB3_q, zB4_q, zB5_q, zB6_q, zB7_q, zGd_in, zGd_b0, zGd_b1, rs_s, rs_n, upd_s, upd_n, ne_eq, not_true, not_false_iff, ↓imax_e, nI_1, nI_add, nI_mul, nI_sub, nIc, nI_le_t, nI_le_f, nI_lt_t, nI_lt_f, nI_eq_t, nI_eq_f, nI_m1, nI_m1', nI_m2, nI_lt0, ↓lr_m1, ↓lr_m2, ↓lr_m8, ↓lr_mm, lr_0, lr_1, lr_2, lr_3, lr_4, lr_5, lr_6, lr_7, lr_8, lr_9, lr_10, lr_12, lr_16, lr_20, lr_24, lr_31, lr_32, lr_40, lr_41, lr_42, lr_43, lr_45, lr_38, lr_48, lr_50, lr_57, lr_59, lr_60, lr_61, lr_63, lr_94, lr_96, lr_97, lr_100, lr_102, lr_104, lr_105, lr_120, lr_122, lr_123, lr_124, lr_125, lr_126, lr_255, lr_257, lr_600, lr_1000, lr_4096, lr_65535, lr_1000000, o0, h1, o7, o6]
  rw [h2]
  exact zGd_t trivial
theorem r8_end {oP oE oQ : Rc} {J : Rc → Rc → Option (Rc × Rc)} {NN n nb : Nat} {p : Int32} (hnb : nb ≤ 12) (o0 : oP 0 0 = nI nb) : fX2_reckon_L8 oP p NN J (n + 1) (nI nb) oE oQ = J oE oQ := by
  rw [fX2_reckon_L8_s]
  simp (disch := omega) only [↓zLet_q, ↓zJn_q, ↓reduceIte, zB1_q, zB2_q, zB3_q, zB4_q, zB5_q, zB6_q, zB7_q, zGd_in, zGd_b0, zGd_b1, rs_s, rs_n, upd_s, upd_n, ne_eq, not_true, not_false_iff, ↓imax_e, nI_1, nI_add, nI_mul, nI_sub, nIc, nI_le_t, nI_le_f, nI_lt_t, nI_lt_f, nI_eq_t, nI_eq_f, nI_m1, nI_m1', nI_m2, nI_lt0, ↓lr_m1, ↓lr_m2, ↓lr_m8, ↓lr_mm, lr_0, lr_1, lr_2, lr_3, lr_4, lr_5, lr_6, lr_7, lr_8, lr_9, lr_10, lr_12, lr_16, lr_20, lr_24, lr_31, lr_32, lr_40, lr_41, lr_42, lr_43, lr_45, lr_38, lr_48, lr_50, lr_57, lr_59, lr_60, lr_61, lr_63, lr_94, lr_96, lr_97, lr_100, lr_102, lr_104, lr_105, lr_120, lr_122, lr_123, lr_124, lr_125, lr_126, lr_255, lr_257, lr_600, lr_1000, lr_4096, lr_65535, lr_1000000, o0]
theorem reckon6 {oP mP oE oQ : Rc} {w p nb ns NN : Nat} {ln : Nat → Nat} (hN : 1000 ≤ NN) (h : PG oP mP nb ns ln) (hp : 1 ≤ p) (hp' : p ≤ 1000) : ∃ oE' oQ', fX2_reckon NN oP oE oQ (nI w) (nI p) = some (oE', oQ') ∧ ∀ b, b < nb → NR oE' (nI w) (nI p) mP b := by
  have h12 := h.1.1
  have key : ∀ (n b : Nat) (oE oQ : Rc), nb - b < n → b ≤ nb → oE 9 0 = nI w → (∀ x, x < b → NR oE (nI w) (nI p) mP x) → ∃ oE' oQ', fX2_reckon_L8 oP (nI p) NN (fun a b => some (a, b)) n (nI b) oE oQ = some (oE', oQ') ∧ ∀ x, x < nb → NR oE' (nI w) (nI p) mP x := by
    intro n
    induction n with
    | zero => intro b oE oQ h; omega
    | succ n ih =>
      intro b oE oQ hn hb hW hI
      by_cases c : b < nb
      · obtain ⟨l8, m5, o7, o7', nm, ⟨t, t1, t2, t3, t4⟩⟩ := h.1.2.1 b c
        obtain ⟨oE1, e0, e1, e2, e3, e4, e5, e6, e7, e8, e9⟩ := begB (oE := oE) (b := b) hN (by omega)
        obtain ⟨oE2, oQ2, s1, s2, s3, s4, s5, s6, s7, s8⟩ := reckLines (W := nI w) hN h c NN 0 oE1 oQ (fun _ => 0) (by omega) (by omega) (e9.2.2.trans hW) (fun i hi => e8 i hi)
        rw [Nat.add_zero] at s1
        rw [Nat.add_zero, show 8 * b + ln b - 8 * b = ln b by omega] at s2 s3 s4 s5 s6 s7
        rw [e1, Int32.zero_add] at s2
        rw [e2, Int32.zero_add] at s3
        rw [e3, Int32.zero_add] at s4
        rw [e4] at s5
        rw [e5, e7] at s6
        rw [e6, Int32.zero_or] at s7
        have hl : (mP 5 b).toNatClampNeg = ln b := by rw [m5]; exact nIc (by omega)
        have fe := FE_t e9 s8
        rw [r8_go (oQ := oQ) h12 h.2.2.2.1 c hp hp' e0 o7 t3 s1]
        refine ih (b + 1) _ oQ2 (by omega) (by omega) ?_ ?_
        · rw [rs_n _ _ (by omega), rs_n _ _ (by omega), fe.2.2]; exact hW
        · intro x hx
          by_cases cx : x = b
          · subst cx
            have hD : oE2 3 x = xD (nI w) mP x := by rw [s5]; unfold xD; rw [hl]
            refine ⟨?_, ?_, ?_, ?_, ?_, ?_, ?_⟩
            · simp (disch := omega) only [zLet_e, zJn_e, zB1_s, zB2_s, zB3_s, zB4_s, zB5_s, zB6_s, zB7_s, zGd_in, zGd_b0, zGd_b1, rs_s, rs_n, upd_s, upd_n, ite_t, ite_f, if_true, if_false, ne_eq, not_true, not_false_iff, s2]; unfold xO; rw [hl]
            · simp (disch := omega) only [zLet_e, zJn_e, zB1_s, zB2_s, zB3_s, zB4_s, zB5_s, zB6_s, zB7_s, zGd_in, zGd_b0, zGd_b1, rs_s, rs_n, upd_s, upd_n, ite_t, ite_f, if_true, if_false, ne_eq, not_true, not_false_iff, s3]; unfold xC; rw [hl, t4]
            · simp (disch := omega) only [zLet_e, zJn_e, zB1_s, zB2_s, zB3_s, zB4_s, zB5_s, zB6_s, zB7_s, zGd_in, zGd_b0, zGd_b1, rs_s, rs_n, upd_s, upd_n, ite_t, ite_f, if_true, if_false, ne_eq, not_true, not_false_iff, s4]; unfold xG; rw [hl]
            · simp (disch := omega) only [zLet_e, zJn_e, zB1_s, zB2_s, zB3_s, zB4_s, zB5_s, zB6_s, zB7_s, zGd_in, zGd_b0, zGd_b1, rs_s, rs_n, upd_s, upd_n, ite_t, ite_f, if_true, if_false, ne_eq, not_true, not_false_iff, hD]
            · simp (disch := omega) only [zLet_e, zJn_e, zB1_s, zB2_s, zB3_s, zB4_s, zB5_s, zB6_s, zB7_s, zGd_in, zGd_b0, zGd_b1, rs_s, rs_n, upd_s, upd_n, ite_t, ite_f, if_true, if_false, ne_eq, not_true, not_false_iff, hD]; unfold xK; rw [t4]; rfl
            · simp (disch := omega) only [zLet_e, zJn_e, zB1_s, zB2_s, zB3_s, zB4_s, zB5_s, zB6_s, zB7_s, zGd_in, zGd_b0, zGd_b1, rs_s, rs_n, upd_s, upd_n, ite_t, ite_f, if_true, if_false, ne_eq, not_true, not_false_iff, s6]; unfold xR; rw [hl]
            · simp (disch := omega) only [zLet_e, zJn_e, zB1_s, zB2_s, zB3_s, zB4_s, zB5_s, zB6_s, zB7_s, zGd_in, zGd_b0, zGd_b1, rs_s, rs_n, upd_s, upd_n, ite_t, ite_f, if_true, if_false, ne_eq, not_true, not_false_iff, s7]; unfold xW; rw [hl]
          · obtain ⟨n0, n1, n2, n3, n4, n5, n6⟩ := hI x (by omega)
            refine ⟨?_, ?_, ?_, ?_, ?_, ?_, ?_⟩
            · simp (disch := omega) only [zLet_e, zJn_e, zB1_s, zB2_s, zB3_s, zB4_s, zB5_s, zB6_s, zB7_s, zGd_in, zGd_b0, zGd_b1, rs_s, rs_n, upd_s, upd_n, ite_t, ite_f, if_true, if_false, ne_eq, not_true, not_false_iff, fe.1 0 x cx, n0]
            · simp (disch := omega) only [zLet_e, zJn_e, zB1_s, zB2_s, zB3_s, zB4_s, zB5_s, zB6_s, zB7_s, zGd_in, zGd_b0, zGd_b1, rs_s, rs_n, upd_s, upd_n, ite_t, ite_f, if_true, if_false, ne_eq, not_true, not_false_iff, fe.1 1 x cx, n1]
            · simp (disch := omega) only [zLet_e, zJn_e, zB1_s, zB2_s, zB3_s, zB4_s, zB5_s, zB6_s, zB7_s, zGd_in, zGd_b0, zGd_b1, rs_s, rs_n, upd_s, upd_n, ite_t, ite_f, if_true, if_false, ne_eq, not_true, not_false_iff, fe.1 2 x cx, n2]
            · simp (disch := omega) only [zLet_e, zJn_e, zB1_s, zB2_s, zB3_s, zB4_s, zB5_s, zB6_s, zB7_s, zGd_in, zGd_b0, zGd_b1, rs_s, rs_n, upd_s, upd_n, ite_t, ite_f, if_true, if_false, ne_eq, not_true, not_false_iff, fe.1 3 x cx, n3]
            · simp (disch := omega) only [zLet_e, zJn_e, zB1_s, zB2_s, zB3_s, zB4_s, zB5_s, zB6_s, zB7_s, zGd_in, zGd_b0, zGd_b1, rs_s, rs_n, upd_s, upd_n, ite_t, ite_f, if_true, if_false, ne_eq, not_true, not_false_iff, fe.1 4 x cx, n4]
            · simp (disch := omega) only [zLet_e, zJn_e, zB1_s, zB2_s, zB3_s, zB4_s, zB5_s, zB6_s, zB7_s, zGd_in, zGd_b0, zGd_b1, rs_s, rs_n, upd_s, upd_n, ite_t, ite_f, if_true, if_false, ne_eq, not_true, not_false_iff, fe.1 5 x cx, n5]
            · simp (disch := omega) only [zLet_e, zJn_e, zB1_s, zB2_s, zB3_s, zB4_s, zB5_s, zB6_s, zB7_s, zGd_in, zGd_b0, zGd_b1, rs_s, rs_n, upd_s, upd_n, ite_t, ite_f, if_true, if_false, ne_eq, not_true, not_false_iff, fe.1 6 x cx, n6]
      · have : b = nb := by omega
        subst this
        exact ⟨oE, oQ, r8_end h12 h.2.2.2.1, hI⟩
  unfold fX2_reckon
  obtain ⟨oE', oQ', k1, k2⟩ := key NN 0 (rs oE 9 (fun _ => nI w)) oQ (by omega) (by omega) (by simp (disch := omega) only [zLet_e, zJn_e, zB1_s, zB2_s, zB3_s, zB4_s, zB5_s, zB6_s, zB7_s, zGd_in, zGd_b0, zGd_b1, rs_s, rs_n, upd_s, upd_n, ite_t, ite_f, if_true, if_false, ne_eq, not_true, not_false_iff]) (fun x hx => by omega)
  exact ⟨oE', oQ', k1, k2⟩
/-- the reference's needs -/
def NJ (mJ : Rc) (W P : Int32) (mP : Rc) (b : Nat) : Prop := mJ 25 b = xC W mP b ∧ mJ 26 b = xK W P mP b ∧ mJ 27 b = xG W mP b ∧ mJ 28 b = xR mP b ∧ mJ 29 b = xW mP b
theorem blk10 {oP mP mY mU : Rc} {p nb ns b NN : Nat} {ln : Nat → Nat} (hN : 1000 ≤ NN) (h : PG oP mP nb ns ln) (hb : b < nb) (hp : 1 ≤ p) (hp' : p ≤ 1000) (y5 : mY 5 0 = nI p) : fX10_opsOf NN mP (nI b) = some (xO mP b) ∧ fX10_codeTicks NN mY mP (nI b) = some (xC (mY 4 0) mP b) ∧ fX10_gatesFor NN mY mP (nI b) = some (xG (mY 4 0) mP b) ∧ (∃ mU', fX10_depthFor NN mY mU mP (nI b) = some (xD (mY 4 0) mP b, mU')) ∧ (∃ mU', fX10_circuitTicks NN mY mU mP (nI b) = some (xK (mY 4 0) (nI p) mP b, mU')) ∧ fX10_readsOf NN mP (nI b) = some (xR mP b) ∧ fX10_writesOf NN mP (nI b) = some (xW mP b) := by
  have h12 := h.1.1
  obtain ⟨l8, m5, o7, o7', nm, ⟨t, t1, t2, t3, t4⟩⟩ := h.1.2.1 b hb
  have hl : (mP 5 b).toNatClampNeg = ln b := by rw [m5]; exact nIc (by omega)
  have hL : ∀ j, j < ln b → LW mP (8 * b + j) := fun j hj => PG_LW h hb hj
  obtain ⟨mU', hd⟩ := depth_b (mY := mY) (mU := mU) hN (by omega) l8 m5 hL
  have hd' : fX10_depthFor NN mY mU mP (nI b) = some (xD (mY 4 0) mP b, mU') := by unfold xD; rw [hl]; exact hd
  refine ⟨?_, ?_, ?_, ⟨mU', hd'⟩, ⟨mU', ?_⟩, ?_, ?_⟩
  · unfold xO; rw [hl]; exact ops_b hN (by omega) l8 m5 hL
  · unfold xC; rw [hl, t4]; exact code_b hN (by omega) l8 m5 t4 hL
  · unfold xG; rw [hl]; exact gate_b hN (by omega) l8 m5 hL
  · unfold fX10_circuitTicks xK
    have hp0 : ¬ nI p = (0 : Int32) := by rw [lq_0, nI_eq (by omega) (by omega)]; omega
    rw [zGd_in (by omega) (by omega), hd', zB2_s, y5, zGd_t hp0, zLet_e, nIc (by omega), imax_e]
  · unfold xR; rw [hl]; exact reads_b hN (by omega) l8 m5 hL
  · unfold xW; rw [hl]; exact writes_b hN (by omega) l8 m5
theorem n2_go {mY mP mU mJ mU1 : Rc} {J : Rc → Rc → Option (Rc × Rc)} {NN n nb b : Nat} {v1 v2 v3 v4 v5 : Int32} (hnb : nb ≤ 12) (m0 : mP 0 0 = nI nb) (hb : b < nb) (h1 : fX10_codeTicks NN mY mP (nI b) = some v1) (h2 : fX10_circuitTicks NN mY mU mP (nI b) = some (v2, mU1)) (h3 : fX10_gatesFor NN mY mP (nI b) = some v3) (h4 : fX10_readsOf NN mP (nI b) = some v4) (h5 : fX10_writesOf NN mP (nI b) = some v5) : fX10_needs_L2 mY mP NN J (n + 1) (nI b) mU mJ = fX10_needs_L2 mY mP NN J n (nI (b + 1)) mU1 (rs (rs (rs (rs (rs mJ 25 (upd (mJ 25) b v1)) 26 (upd (mJ 26) b v2)) 27 (upd (mJ 27) b v3)) 28 (upd (mJ 28) b v4)) 29 (upd (mJ 29) b v5)) := by
  rw [fX10_needs_L2_s]
  simp (disch := omega) only [↓zLet_q, ↓zJn_q, ↓reduceIte, zB1_q, zB2_q, zB3_q, zB4_q, zB5_q, zB6_q, zB7_q, zGd_in, zGd_b0, zGd_b1, rs_s, rs_n, upd_s, upd_n, ne_eq, not_true, not_false_iff, ↓imax_e, nI_1, nI_add, nI_mul, nI_sub, nIc, nI_le_t, nI_le_f, nI_lt_t, nI_lt_f, nI_eq_t, nI_eq_f, nI_m1, nI_m1', nI_m2, nI_lt0, ↓lr_m1, ↓lr_m2, ↓lr_m8, ↓lr_mm, lr_0, lr_1, lr_2, lr_3, lr_4, lr_5, lr_6, lr_7, lr_8, lr_9, lr_10, lr_12, lr_16, lr_20, lr_24, lr_31, lr_32, lr_40, lr_41, lr_42, lr_43, lr_45, lr_38, lr_48, lr_50, lr_57, lr_59, lr_60, lr_61, lr_63, lr_94, lr_96, lr_97, lr_100, lr_102, lr_104, lr_105, lr_120, lr_122, lr_123, lr_124, lr_125, lr_126, lr_255, lr_257, lr_600, lr_1000, lr_4096, lr_65535, lr_1000000, m0, h1, h2, h3, h4, h5]
theorem needs10 {oP mP mY mU mJ : Rc} {p nb ns NN : Nat} {ln : Nat → Nat} (hN : 1000 ≤ NN) (h : PG oP mP nb ns ln) (hp : 1 ≤ p) (hp' : p ≤ 1000) (y5 : mY 5 0 = nI p) : ∃ mU' mJ', fX10_needs NN mY mU mJ mP = some (mU', mJ') ∧ ∀ b, b < nb → NJ mJ' (mY 4 0) (nI p) mP b := by
  have h12 := h.1.1
  have key : ∀ (n b : Nat) (mU mJ : Rc), nb - b < n → b ≤ nb → (∀ x, x < b → NJ mJ (mY 4 0) (nI p) mP x) → ∃ mU' mJ', fX10_needs_L2 mY mP NN (fun a b => some (a, b)) n (nI b) mU mJ = some (mU', mJ') ∧ ∀ x, x < nb → NJ mJ' (mY 4 0) (nI p) mP x := by
    intro n
    induction n with
    | zero => intro b mU mJ h; omega
    | succ n ih =>
      intro b mU mJ hn hb hI
      by_cases c : b < nb
      · obtain ⟨b0, b1, b2, _, ⟨mU1, b3⟩, b4, b5⟩ := blk10 (mU := mU) hN h c hp hp' y5
        rw [n2_go h12 h.2.2.2.2 c b1 b3 b2 b4 b5]
        refine ih (b + 1) _ _ (by omega) (by omega) (fun x hx => ?_)
        by_cases cx : x = b
        · subst cx
          refine ⟨?_, ?_, ?_, ?_, ?_⟩ <;> simp (disch := omega) only [zLet_e, zJn_e, zB1_s, zB2_s, zB3_s, zB4_s, zB5_s, zB6_s, zB7_s, zGd_in, zGd_b0, zGd_b1, rs_s, rs_n, upd_s, upd_n, ite_t, ite_f, if_true, if_false, ne_eq, not_true, not_false_iff]
        · obtain ⟨n0, n1, n2, n3, n4⟩ := hI x (by omega)
          refine ⟨?_, ?_, ?_, ?_, ?_⟩
          · simp (disch := omega) only [zLet_e, zJn_e, zB1_s, zB2_s, zB3_s, zB4_s, zB5_s, zB6_s, zB7_s, zGd_in, zGd_b0, zGd_b1, rs_s, rs_n, upd_s, upd_n, ite_t, ite_f, if_true, if_false, ne_eq, not_true, not_false_iff, n0]
          · simp (disch := omega) only [zLet_e, zJn_e, zB1_s, zB2_s, zB3_s, zB4_s, zB5_s, zB6_s, zB7_s, zGd_in, zGd_b0, zGd_b1, rs_s, rs_n, upd_s, upd_n, ite_t, ite_f, if_true, if_false, ne_eq, not_true, not_false_iff, n1]
          · simp (disch := omega) only [zLet_e, zJn_e, zB1_s, zB2_s, zB3_s, zB4_s, zB5_s, zB6_s, zB7_s, zGd_in, zGd_b0, zGd_b1, rs_s, rs_n, upd_s, upd_n, ite_t, ite_f, if_true, if_false, ne_eq, not_true, not_false_iff, n2]
          · simp (disch := omega) only [zLet_e, zJn_e, zB1_s, zB2_s, zB3_s, zB4_s, zB5_s, zB6_s, zB7_s, zGd_in, zGd_b0, zGd_b1, rs_s, rs_n, upd_s, upd_n, ite_t, ite_f, if_true, if_false, ne_eq, not_true, not_false_iff, n3]
          · simp (disch := omega) only [zLet_e, zJn_e, zB1_s, zB2_s, zB3_s, zB4_s, zB5_s, zB6_s, zB7_s, zGd_in, zGd_b0, zGd_b1, rs_s, rs_n, upd_s, upd_n, ite_t, ite_f, if_true, if_false, ne_eq, not_true, not_false_iff, n4]
      · have : b = nb := by omega
        subst this
        refine ⟨mU, mJ, ?_, hI⟩
        rw [fX10_needs_L2_s]
        simp (disch := omega) only [↓zLet_q, ↓zJn_q, ↓reduceIte, zB1_q, zB2_q, zB3_q, zB4_q, zB5_q, zB6_q, zB7_q, zGd_in, zGd_b0, zGd_b1, rs_s, rs_n, upd_s, upd_n, ne_eq, not_true, not_false_iff, ↓imax_e, nI_1, nI_add, nI_mul, nI_sub, nIc, nI_le_t, nI_le_f, nI_lt_t, nI_lt_f, nI_eq_t, nI_eq_f, nI_m1, nI_m1', nI_m2, nI_lt0, ↓lr_m1, ↓lr_m2, ↓lr_m8, ↓lr_mm, lr_0, lr_1, lr_2, lr_3, lr_4, lr_5, lr_6, lr_7, lr_8, lr_9, lr_10, lr_12, lr_16, lr_20, lr_24, lr_31, lr_32, lr_40, lr_41, lr_42, lr_43, lr_45, lr_38, lr_48, lr_50, lr_57, lr_59, lr_60, lr_61, lr_63, lr_94, lr_96, lr_97, lr_100, lr_102, lr_104, lr_105, lr_120, lr_122, lr_123, lr_124, lr_125, lr_126, lr_255, lr_257, lr_600, lr_1000, lr_4096, lr_65535, lr_1000000, h.2.2.2.2]
  unfold fX10_needs
  exact key NN 0 mU mJ (by omega) (by omega) (fun x hx => by omega)
