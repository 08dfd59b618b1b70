/-! own part (pure): the class's going through a sum -/
theorem bit1 (x m : Int32) : x ||| (0 &&& m) = x := by
  apply Int32.toBitVec_inj.mp
  simp
theorem bit2 (x r1 r2 m : Int32) : (x ||| (r1 &&& m)) ||| (r2 &&& m) = x ||| ((r1 ||| r2) &&& m) := by
  apply Int32.toBitVec_inj.mp
  simp only [Int32.toBitVec_or, Int32.toBitVec_and]
  apply BitVec.eq_of_getLsbD_eq
  intro i hi
  simp only [BitVec.getLsbD_or, BitVec.getLsbD_and]
  cases x.toBitVec.getLsbD i <;> cases r1.toBitVec.getLsbD i <;> cases r2.toBitVec.getLsbD i <;> cases m.toBitVec.getLsbD i <;> rfl
def CE (oE oE' : Rc) (b : Nat) (o c g r : Int32) : Prop := oE' 0 b = oE 0 b + o ∧ oE' 1 b = oE 1 b + c ∧ oE' 2 b = oE 2 b + g ∧ oE' 5 b = oE 5 b ||| (r &&& (oE 10 0 ^^^ (-1))) ∧ (∀ j, j ≠ b → oE' 0 j = oE 0 j ∧ oE' 1 j = oE 1 j ∧ oE' 2 j = oE 2 j ∧ oE' 5 j = oE 5 j) ∧ ∀ k, k ≠ 0 → k ≠ 1 → k ≠ 2 → k ≠ 5 → oE' k = oE k
theorem CE_r (oE : Rc) (b : Nat) : CE oE oE b 0 0 0 0 := ⟨(Int32.add_zero _).symm, (Int32.add_zero _).symm, (Int32.add_zero _).symm, (bit1 _ _).symm, fun _ _ => ⟨rfl, rfl, rfl, rfl⟩, fun _ _ _ _ _ => rfl⟩
theorem CE_t {oE oE1 oE2 : Rc} {b : Nat} {o1 c1 g1 r1 o2 c2 g2 r2 : Int32} (h : CE oE oE1 b o1 c1 g1 r1) (h' : CE oE1 oE2 b o2 c2 g2 r2) : CE oE oE2 b (o1 + o2) (c1 + c2) (g1 + g2) (r1 ||| r2) := by
  obtain ⟨a1, a2, a3, a4, a5, a6⟩ := h
  obtain ⟨b1, b2, b3, b4, b5, b6⟩ := h'
  refine ⟨by rw [b1, a1, Int32.add_assoc], by rw [b2, a2, Int32.add_assoc], by rw [b3, a3, Int32.add_assoc], ?_, fun j hj => ?_, fun k h0 h1 h2 h5 => (b6 k h0 h1 h2 h5).trans (a6 k h0 h1 h2 h5)⟩
  · rw [b4, a4, a6 10 (by omega) (by omega) (by omega) (by omega), bit2]
  · obtain ⟨x1, x2, x3, x4⟩ := a5 j hj
    obtain ⟨y1, y2, y3, y4⟩ := b5 j hj
    exact ⟨y1.trans x1, y2.trans x2, y3.trans x3, y4.trans x4⟩
theorem CE_c {oE oE' : Rc} {b : Nat} {o c g r o' c' g' r' : Int32} (h : CE oE oE' b o c g r) (e1 : o = o') (e2 : c = c') (e3 : g = g') (e4 : r = r') : CE oE oE' b o' c' g' r' := by subst e1 e2 e3 e4; exact h
theorem ask6 {oE : Rc} {b : Nat} {x : Int32} (hb : b < 12) : ∃ oE1, fX2_ask oE (nI b) x = some oE1 ∧ CE oE oE1 b 0 0 0 ((1 : Int32) <<< (x &&& 31)) := by
  refine ⟨rs oE 5 (upd (oE 5) b ((oE 5 b) ||| (((1 : Int32) <<< (x &&& 31)) &&& ((oE 10 0) ^^^ (-1 : Int32))))), ?_, ?_⟩
  · unfold fX2_ask
    simp (disch := omega) only [zLet_e, zGd_in, nIc]
  · refine ⟨?_, ?_, ?_, ?_, fun j hj => ⟨?_, ?_, ?_, ?_⟩, fun k h0 h1 h2 h5 => rs_n _ _ h5⟩
    · rw [rs_n _ _ (by omega), Int32.add_zero]
    · rw [rs_n _ _ (by omega), Int32.add_zero]
    · rw [rs_n _ _ (by omega), Int32.add_zero]
    · rw [rs_s, upd_s]
    · rw [rs_n _ _ (by omega)]
    · rw [rs_n _ _ (by omega)]
    · rw [rs_n _ _ (by omega)]
    · rw [rs_s, upd_n hj]
theorem KO42 {a s : Int32} (h : KO a s) : (if a = (42 : Int32) then (1 : Int32) else 0) = (if s = (2 : Int32) then 1 else 0) := by
  rcases h with ⟨rfl, rfl⟩ | ⟨rfl, rfl⟩ | ⟨c, hc, rfl, rfl⟩
  · decide
  · decide
  · rcases sg_cs hc with rfl | rfl | rfl | rfl | rfl | rfl | rfl <;> decide +kernel
theorem KO_lt {a s : Int32} (h : KO a s) : ¬ (9 : Int32) ≤ s := by
  rcases h with ⟨rfl, rfl⟩ | ⟨rfl, rfl⟩ | ⟨c, hc, rfl, rfl⟩
  · decide
  · decide
  · rcases sg_cs hc with rfl | rfl | rfl | rfl | rfl | rfl | rfl <;> decide +kernel
theorem takeOp6 {oE : Rc} {b : Nat} {a s : Int32} (hb : b < 12) (hk : KO a s) : ∃ oE1, fX2_takeOp oE (nI b) a = some oE1 ∧ CE oE oE1 b 1 (wC (oE 9 0) s) (gO (oE 9 0) s) 0 := by
  have h42 := KO42 hk
  have hlt := KO_lt hk
  refine ⟨rs (rs (rs oE 0 (upd (oE 0) b (oE 0 b + 1))) 1 (upd (oE 1) b (oE 1 b + wC (oE 9 0) s))) 2 (upd (oE 2) b (oE 2 b + gO (oE 9 0) s)), ?_, ?_⟩
  · unfold fX2_takeOp
    have hg : ∀ r : Rc, r 9 0 = oE 9 0 → fX2_gatesOfOp r a = some (gO (oE 9 0) s) := fun r h => by rw [← h]; exact gates6 hk
    have hg' := hg (rs (rs oE 0 (upd (oE 0) b (oE 0 b + 1))) 1 (upd (oE 1) b (oE 1 b + wC (oE 9 0) s))) (by simp (disch := omega) only [rs_n])
    by_cases c : a = (42 : Int32)
    · have c' : s = (2 : Int32) := by
        by_cases c' : s = (2 : Int32)
        · exact c'
        · rw [if_pos c, if_neg c'] at h42; exact absurd h42 (by decide)
      have hw : wC (oE 9 0) s = oE 9 0 := if_pos c'
      rw [hw] at hg' ⊢
      simp (disch := omega) only [zLet_e, zJn_e, zGd_in, nIc, if_pos c, rs_n, hg', zB1_s]
    · have c' : ¬ s = (2 : Int32) := fun c' => by rw [if_neg c, if_pos c'] at h42; exact absurd h42 (by decide)
      have hw : wC (oE 9 0) s = 1 := by unfold wC; rw [if_neg c', if_neg hlt]
      rw [hw] at hg' ⊢
      simp (disch := omega) only [zLet_e, zJn_e, zGd_in, nIc, if_neg c, rs_n, hg', zB1_s]
  · refine ⟨?_, ?_, ?_, ?_, fun j hj => ⟨?_, ?_, ?_, ?_⟩, fun k h0 h1 h2 h5 => by rw [rs_n _ _ h2, rs_n _ _ h1, rs_n _ _ h0]⟩
    · rw [rs_n _ _ (by omega), rs_n _ _ (by omega), rs_s, upd_s]
    · rw [rs_n _ _ (by omega), rs_s, upd_s]
    · rw [rs_s, upd_s]
    · rw [rs_n _ _ (by omega), rs_n _ _ (by omega), rs_n _ _ (by omega), bit1]
    · rw [rs_n _ _ (by omega), rs_n _ _ (by omega), rs_s, upd_n hj]
    · rw [rs_n _ _ (by omega), rs_s, upd_n hj]
    · rw [rs_s, upd_n hj]
    · rw [rs_n _ _ (by omega), rs_n _ _ (by omega), rs_n _ _ (by omega)]
theorem cd_of {oP oE oQ oE1 oQ1 : Rc} {J : Rc → Rc → Option (Int32 × Rc × Rc)} {n b lc g k v : Nat} (hlc : lc < 96) (o10 : oP 10 (lc + 1) = nI g) (hk : k < g) (hg : g ≤ 600) (s : oP 11 k = nI 4) (hv : oP 12 k = nI v) (v8 : v < 8) (ha : fX2_ask oE (nI b) (nI v) = some oE1) (hp : fX3_push oQ (oE1 7 v) = some oQ1) : fX2_sumDepth_L15 oP (nI b) (nI lc) J (n + 1) (nI k) oE oQ = fX2_sumDepth_L15 oP (nI b) (nI lc) J n (nI (k + 1)) oE1 oQ1 := by
  rw [fX2_sumDepth_L15_s]
  simp (disch := omega) only [↓zLet_e, ↓zJn_e, ↓reduceIte, zB1_s, zB2_s, zB3_s, zB4_s, zB5_s, zB6_s, zB7_s, zGd_in, zGd_b0, zGd_b1, rs_s, rs_n, upd_s, upd_n, ne_eq, not_true, not_false_iff, nI_1, nI_add, nI_mul, nI_sub, nIc, nI_le_t, nI_le_f, nI_lt_t, nI_lt_f, nI_eq_t, nI_eq_f, nI_m1, nI_m1', nI_m2, nI_lt0, ↓lq_m1, ↓lq_m2, ↓lq_m8, ↓lq_mm, lq_0, lq_1, lq_2, lq_3, lq_4, lq_5, lq_6, lq_7, lq_8, lq_9, lq_10, lq_12, lq_16, lq_20, lq_24, lq_31, lq_32, lq_40, lq_41, lq_42, lq_43, lq_45, lq_38, lq_48, lq_50, lq_57, lq_59, lq_60, lq_61, lq_63, lq_94, lq_96, lq_97, lq_100, lq_102, lq_104, lq_105, lq_120, lq_122, lq_123, lq_124, lq_125, lq_126, lq_255, lq_257, lq_600, lq_1000, lq_4096, lq_65535, lq_1000000, o10, s, hv, ha, hp]
theorem cd_wh {oP oE oQ oQ1 : Rc} {J : Rc → Rc → Option (Int32 × Rc × Rc)} {n b lc g k : Nat} (hlc : lc < 96) (o10 : oP 10 (lc + 1) = nI g) (hk : k < g) (hg : g ≤ 600) (s : oP 11 k = nI 3) (hp : fX3_push oQ (nI 0) = some oQ1) : fX2_sumDepth_L15 oP (nI b) (nI lc) J (n + 1) (nI k) oE oQ = fX2_sumDepth_L15 oP (nI b) (nI lc) J n (nI (k + 1)) oE oQ1 := by
  rw [fX2_sumDepth_L15_s]
  simp (disch := omega) only [↓zLet_e, ↓zJn_e, ↓reduceIte, zB1_s, zB2_s, zB3_s, zB4_s, zB5_s, zB6_s, zB7_s, zGd_in, zGd_b0, zGd_b1, rs_s, rs_n, upd_s, upd_n, ne_eq, not_true, not_false_iff, nI_1, nI_add, nI_mul, nI_sub, nIc, nI_le_t, nI_le_f, nI_lt_t, nI_lt_f, nI_eq_t, nI_eq_f, nI_m1, nI_m1', nI_m2, nI_lt0, ↓lq_m1, ↓lq_m2, ↓lq_m8, ↓lq_mm, lq_0, lq_1, lq_2, lq_3, lq_4, lq_5, lq_6, lq_7, lq_8, lq_9, lq_10, lq_12, lq_16, lq_20, lq_24, lq_31, lq_32, lq_40, lq_41, lq_42, lq_43, lq_45, lq_38, lq_48, lq_50, lq_57, lq_59, lq_60, lq_61, lq_63, lq_94, lq_96, lq_97, lq_100, lq_102, lq_104, lq_105, lq_120, lq_122, lq_123, lq_124, lq_125, lq_126, lq_255, lq_257, lq_600, lq_1000, lq_4096, lq_65535, lq_1000000, o10, s, hp]
theorem cd_not {oP oE oQ oE1 oQ1 oQ2 : Rc} {J : Rc → Rc → Option (Int32 × Rc × Rc)} {x d : Int32} {n b lc g k : Nat} (hlc : lc < 96) (o10 : oP 10 (lc + 1) = nI g) (hk : k < g) (hg : g ≤ 600) (s : oP 11 k = nI 126) (ha : fX2_takeOp oE (nI b) (nI 126) = some oE1) (hd : fX2_depthOfOp oE1 (nI 126) = some d) (hp : fX3_pop oQ = some (x, oQ1)) (hp' : fX3_push oQ1 (x + d) = some oQ2) : fX2_sumDepth_L15 oP (nI b) (nI lc) J (n + 1) (nI k) oE oQ = fX2_sumDepth_L15 oP (nI b) (nI lc) J n (nI (k + 1)) oE1 oQ2 := by
  rw [fX2_sumDepth_L15_s]
  simp (disch := omega) only [↓zLet_e, ↓zJn_e, ↓reduceIte, zB1_s, zB2_s, zB3_s, zB4_s, zB5_s, zB6_s, zB7_s, zGd_in, zGd_b0, zGd_b1, rs_s, rs_n, upd_s, upd_n, ne_eq, not_true, not_false_iff, nI_1, nI_add, nI_mul, nI_sub, nIc, nI_le_t, nI_le_f, nI_lt_t, nI_lt_f, nI_eq_t, nI_eq_f, nI_m1, nI_m1', nI_m2, nI_lt0, ↓lq_m1, ↓lq_m2, ↓lq_m8, ↓lq_mm, lq_0, lq_1, lq_2, lq_3, lq_4, lq_5, lq_6, lq_7, lq_8, lq_9, lq_10, lq_12, lq_16, lq_20, lq_24, lq_31, lq_32, lq_40, lq_41, lq_42, lq_43, lq_45, lq_38, lq_48, lq_50, lq_57, lq_59, lq_60, lq_61, lq_63, lq_94, lq_96, lq_97, lq_100, lq_102, lq_104, lq_105, lq_120, lq_122, lq_123, lq_124, lq_125, lq_126, lq_255, lq_257, lq_600, lq_1000, lq_4096, lq_65535, lq_1000000, o10, s, ha, hd, hp, hp']
theorem cd_sg {oP oE oQ oE1 oQ1 oQ2 oQ3 : Rc} {J : Rc → Rc → Option (Int32 × Rc × Rc)} {x y d : Int32} {n b lc g k c : Nat} (hlc : lc < 96) (o10 : oP 10 (lc + 1) = nI g) (hk : k < g) (hg : g ≤ 600) (s : oP 11 k = nI c) (hc : isSg c = true) (ha : fX2_takeOp oE (nI b) (nI c) = some oE1) (hd : fX2_depthOfOp oE1 (nI c) = some d) (hp : fX3_pop oQ = some (x, oQ1)) (hp' : fX3_pop oQ1 = some (y, oQ2)) (hp2 : fX3_push oQ2 (imax x y + d) = some oQ3) : fX2_sumDepth_L15 oP (nI b) (nI lc) J (n + 1) (nI k) oE oQ = fX2_sumDepth_L15 oP (nI b) (nI lc) J n (nI (k + 1)) oE1 oQ3 := by
  have hcc := sg_cs hc
  rw [fX2_sumDepth_L15_s]
  simp (disch := omega) only [↓zLet_e, ↓zJn_e, ↓reduceIte, zB1_s, zB2_s, zB3_s, zB4_s, zB5_s, zB6_s, zB7_s, zGd_in, zGd_b0, zGd_b1, rs_s, rs_n, upd_s, upd_n, ne_eq, not_true, not_false_iff, nI_1, nI_add, nI_mul, nI_sub, nIc, nI_le_t, nI_le_f, nI_lt_t, nI_lt_f, nI_eq_t, nI_eq_f, nI_m1, nI_m1', nI_m2, nI_lt0, ↓lq_m1, ↓lq_m2, ↓lq_m8, ↓lq_mm, lq_0, lq_1, lq_2, lq_3, lq_4, lq_5, lq_6, lq_7, lq_8, lq_9, lq_10, lq_12, lq_16, lq_20, lq_24, lq_31, lq_32, lq_40, lq_41, lq_42, lq_43, lq_45, lq_38, lq_48, lq_50, lq_57, lq_59, lq_60, lq_61, lq_63, lq_94, lq_96, lq_97, lq_100, lq_102, lq_104, lq_105, lq_120, lq_122, lq_123, lq_124, lq_125, lq_126, lq_255, lq_257, lq_600, lq_1000, lq_4096, lq_65535, lq_1000000, o10, s, ha, hd, hp, hp', ↓imax_e, hp2]
theorem cd_end {oP oE oQ : Rc} {J : Rc → Rc → Option (Int32 × Rc × Rc)} {n b lc g : Nat} (hlc : lc < 96) (o10 : oP 10 (lc + 1) = nI g) (hg : g ≤ 600) : fX2_sumDepth_L15 oP (nI b) (nI lc) J (n + 1) (nI g) oE oQ = J oE oQ := by
  rw [fX2_sumDepth_L15_s]
  simp (disch := omega) only [↓zLet_e, ↓zJn_e, ↓reduceIte, zB1_s, zB2_s, zB3_s, zB4_s, zB5_s, zB6_s, zB7_s, zGd_in, zGd_b0, zGd_b1, rs_s, rs_n, upd_s, upd_n, ne_eq, not_true, not_false_iff, nI_1, nI_add, nI_mul, nI_sub, nIc, nI_le_t, nI_le_f, nI_lt_t, nI_lt_f, nI_eq_t, nI_eq_f, nI_m1, nI_m1', nI_m2, nI_lt0, ↓lq_m1, ↓lq_m2, ↓lq_m8, ↓lq_mm, lq_0, lq_1, lq_2, lq_3, lq_4, lq_5, lq_6, lq_7, lq_8, lq_9, lq_10, lq_12, lq_16, lq_20, lq_24, lq_31, lq_32, lq_40, lq_41, lq_42, lq_43, lq_45, lq_38, lq_48, lq_50, lq_57, lq_59, lq_60, lq_61, lq_63, lq_94, lq_96, lq_97, lq_100, lq_102, lq_104, lq_105, lq_120, lq_122, lq_123, lq_124, lq_125, lq_126, lq_255, lq_257, lq_600, lq_1000, lq_4096, lq_65535, lq_1000000, o10]
theorem wO_op {a s : Int32} (h : KO a s) : wO s = 1 := if_neg (KO_lt h)
theorem wG_op {W a s : Int32} (h : KO a s) : wG W s = gO W s := if_neg (KO_lt h)
theorem wA_op {a s v : Int32} (h : KO a s) : wA s v = 0 := if_neg (fun e => KO_lt h (by rw [e]; decide))
set_option maxHeartbeats 4000000 in
theorem sumD6 {oP mP : Rc} {W : Int32} {dp : Ar} {b lc g : Nat} (hlc : lc < 96) (hb : b < 12) (o10 : oP 10 (lc + 1) = nI g) (hg : g ≤ 600) (hst : StR oP mP g) : ∀ (n k h : Nat) (st : List Int32) (oE oQ : Rc), g - k < n → k ≤ g → HS mP k g h → st.length = h → h ≤ 11 → Stk st (oQ 0) → oQ 1 0 = nI h → oE 9 0 = W → oE 7 = dp → ∃ oE' oQ', (∀ J, fX2_sumDepth_L15 oP (nI b) (nI lc) J n (nI k) oE oQ = J oE' oQ') ∧ CE oE oE' b (sw (fun i => wO (mP 11 i)) k (g - k)) (sw (fun i => wC W (mP 11 i)) k (g - k)) (sw (fun i => wG W (mP 11 i)) k (g - k)) (so (fun i => wA (mP 11 i) (mP 12 i)) k (g - k)) ∧ Stk (ev (FD W dp) mP k (g - k) st) (oQ' 0) ∧ oQ' 1 0 = nI 1 ∧ (ev (FD W dp) mP k (g - k) st).length = 1 := by
  intro n
  induction n with
  | zero => intro k h st oE oQ h; omega
  | succ n ih =>
    intro k h st oE oQ hn hk hh hl hl11 hs h1 hW hdp
    by_cases c : k < g
    · obtain ⟨l', s1, s2, s3⟩ := HS_next hh c
      obtain ⟨hK, hV, hV8⟩ := hst k c
      rw [evc c, swc c, swc c, swc c, soc c]
      have frE : ∀ {oE1 : Rc} {o cc g' r : Int32}, CE oE oE1 b o cc g' r → oE1 9 0 = W ∧ oE1 7 = dp := fun h => by
        refine ⟨?_, ?_⟩
        · rw [h.2.2.2.2.2 9 (by omega) (by omega) (by omega) (by omega)]; exact hW
        · rw [h.2.2.2.2.2 7 (by omega) (by omega) (by omega) (by omega)]; exact hdp
      rcases step_cases hK s1 with ⟨ka, kb, e⟩ | ⟨ka, kb, e⟩ | ⟨ka, kb, e1, e2⟩ | ⟨c', hc', ka, kb, e1, e2⟩
      · obtain ⟨v, v8, hv'⟩ := hV8 ka
        obtain ⟨oE1, a1, a2⟩ := ask6 (oE := oE) (x := nI v) hb
        obtain ⟨f9, f7⟩ := frE a2
        subst hl
        obtain ⟨oQ1, p1, p2, p3⟩ := push6 (v := dp v) hs h1 (by omega)
        rw [kb, ← hV, hv', FD_of, nIc (by omega)]
        obtain ⟨oE', oQ', r1, r2, r3, r4, r5⟩ := ih (k + 1) l' (dp v :: st) oE1 oQ1 (by omega) (by omega) s3 e.symm s2 p2 (by rw [p3, e]) f9 f7
        refine ⟨oE', oQ', fun J => ?_, CE_t (CE_c a2 ?_ ?_ ?_ ?_) r2, r3, r4, r5⟩
        · rw [cd_of hlc o10 c hg ka hv' v8 a1 (by rw [f7]; exact p1)]; exact r1 J
        · rfl
        · rfl
        · rfl
        · rfl
      · subst hl
        obtain ⟨oQ1, p1, p2, p3⟩ := push6 (v := nI 0) hs h1 (by omega)
        rw [kb, FD_wh]
        obtain ⟨oE', oQ', r1, r2, r3, r4, r5⟩ := ih (k + 1) l' (nI 0 :: st) oE oQ1 (by omega) (by omega) s3 e.symm s2 p2 (by rw [p3, e]) hW hdp
        refine ⟨oE', oQ', fun J => ?_, CE_t (CE_c (CE_r oE b) ?_ ?_ ?_ ?_) r2, r3, r4, r5⟩
        · rw [cd_wh hlc o10 c hg ka p1]; exact r1 J
        · rfl
        · rfl
        · rfl
        · rfl
      · have hko : KO (nI 126) (nI 7) := Or.inl ⟨rfl, rfl⟩
        obtain ⟨oE1, a1, a2⟩ := takeOp6 (oE := oE) hb hko
        obtain ⟨f9, f7⟩ := frE a2
        obtain ⟨a, t, rfl⟩ := one_of (st := st) (by omega)
        have hl' : t.length + 1 = h := hl
        obtain ⟨oQ1, p1, p2, p3⟩ := pop6 hs (by rw [h1, hl']) (by omega)
        obtain ⟨oQ2, q1, q2, q3⟩ := push6 (v := a + dO W (nI 7)) p2 p3 (by omega)
        rw [kb, FD_not]
        have hd := depth6 (oE := oE1) hko
        rw [f9] at hd
        obtain ⟨oE', oQ', r1, r2, r3, r4, r5⟩ := ih (k + 1) l' ((a + dO W (nI 7)) :: t) oE1 oQ2 (by omega) (by omega) s3 (by show t.length + 1 = l'; omega) s2 q2 (by rw [q3, hl', e2]) f9 f7
        rw [hW] at a2
        refine ⟨oE', oQ', fun J => ?_, CE_t (CE_c a2 ?_ ?_ ?_ ?_) r2, r3, r4, r5⟩
        · rw [cd_not hlc o10 c hg ka a1 hd p1 q1]; exact r1 J
        · exact (wO_op hko).symm
        · rfl
        · exact (wG_op hko).symm
        · exact (wA_op hko).symm
      · have hko : KO (nI c') (sgN c') := Or.inr (Or.inr ⟨c', hc', rfl, rfl⟩)
        obtain ⟨oE1, a1, a2⟩ := takeOp6 (oE := oE) hb hko
        obtain ⟨f9, f7⟩ := frE a2
        obtain ⟨bb, a, t, rfl⟩ := two_of (st := st) (by omega)
        have hl' : t.length + 2 = h := hl
        obtain ⟨oQ1, p1, p2, p3⟩ := pop6 hs (by rw [h1, ← hl']; rfl) (by show t.length + 1 < 12; omega)
        obtain ⟨oQ2, p1', p2', p3'⟩ := pop6 p2 p3 (by omega)
        obtain ⟨oQ3, q1, q2, q3⟩ := push6 (v := imax bb a + dO W (sgN c')) p2' p3' (by omega)
        rw [kb, FD_sg hc', imax_comm a bb]
        have hd := depth6 (oE := oE1) hko
        rw [f9] at hd
        obtain ⟨oE', oQ', r1, r2, r3, r4, r5⟩ := ih (k + 1) l' ((imax bb a + dO W (sgN c')) :: t) oE1 oQ3 (by omega) (by omega) s3 (by show t.length + 1 = l'; omega) s2 q2 (by rw [q3, show t.length + 1 = l' by omega]) f9 f7
        rw [hW] at a2
        refine ⟨oE', oQ', fun J => ?_, CE_t (CE_c a2 ?_ ?_ ?_ ?_) r2, r3, r4, r5⟩
        · rw [cd_sg hlc o10 c hg ka hc' a1 hd p1 p1' q1]; exact r1 J
        · exact (wO_op hko).symm
        · rfl
        · exact (wG_op hko).symm
        · exact (wA_op hko).symm
    · have : k = g := by omega
      subst this
      rw [ev0, sw0, sw0, sw0, so0]
      have := HS_end hh
      exact ⟨oE, oQ, fun J => cd_end hlc o10 hg, CE_r oE b, hs, by rw [h1, this], hl.trans this⟩
