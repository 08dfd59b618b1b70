/-! own part (pure): PART and SUM, the class's loop against the reference's calls -/
def Sm (B : Nat → Nat) (R x : Option (Int32 × Rc × Rc × Rc)) (ok : Rc → Rc → Rc → Prop) : Prop := (∃ mL' mS' mW', x = some (nI 0, mL', mS', mW') ∧ ok mL' mS' mW') ∨ (∃ mL' mS' mW' v s, x = some (nI 1, mL', mS', mW') ∧ mW' 6 0 = nI v ∧ mW' 7 0 = nI s ∧ Bd B R v s)
theorem Sm_e {B : Nat → Nat} {R x y : Option (Int32 × Rc × Rc × Rc)} {ok : Rc → Rc → Rc → Prop} (e : x = y) (h : Sm B R y ok) : Sm B R x ok := by rw [e]; exact h
theorem Sm_ok {B : Nat → Nat} {R : Option (Int32 × Rc × Rc × Rc)} {ok : Rc → Rc → Rc → Prop} {mL mS mW : Rc} (h : ok mL mS mW) : Sm B R (some (nI 0, mL, mS, mW)) ok := Or.inl ⟨mL, mS, mW, rfl, h⟩
theorem Sm_st {B : Nat → Nat} {R : Option (Int32 × Rc × Rc × Rc)} {ok : Rc → Rc → Rc → Prop} {mL mL' mS mW : Rc} {v s : Nat} (h : mL 16 0 = nI s) (hb : Bd B R v s) : Sm B R (some (nI 1, mL', mS, rs (rs mW 6 (fun _ => nI v)) 7 (fun _ => mL 16 0))) ok := Or.inr ⟨mL', mS, _, v, s, rfl, by simp (disch := omega) only [zLet_e, zJn_e, zB1_s, zB2_s, zB3_s, zB4_s, zB5_s, zB6_s, zB7_s, zGd_in, zGd_b0, zGd_b1, rs_s, rs_n, upd_s, upd_n, ite_t, ite_f, if_true, if_false, ne_eq, not_true, not_false_iff, nI_1, nI_add, nI_mul, nI_sub, nIc, nI_leI, nI_ltI, nI_eq, nI_m1, nI_m1', nI_lt0, nI_m2, ↓lq_m1, ↓lq_m2, ↓lq_m8, ↓lq_mm, lq_0, lq_1, lq_2, lq_3, lq_4, lq_5, lq_6, lq_7, lq_8, lq_9, lq_10, lq_12, lq_16, lq_20, lq_24, lq_31, lq_32, lq_40, lq_41, lq_42, lq_43, lq_45, lq_38, lq_48, lq_50, lq_57, lq_59, lq_60, lq_61, lq_63, lq_94, lq_96, lq_97, lq_100, lq_102, lq_104, lq_105, lq_120, lq_122, lq_123, lq_124, lq_125, lq_126, lq_255, lq_257, lq_600, lq_1000, lq_4096, lq_65535, lq_1000000], by simp (disch := omega) only [zLet_e, zJn_e, zB1_s, zB2_s, zB3_s, zB4_s, zB5_s, zB6_s, zB7_s, zGd_in, zGd_b0, zGd_b1, rs_s, rs_n, upd_s, upd_n, ite_t, ite_f, if_true, if_false, ne_eq, not_true, not_false_iff, nI_1, nI_add, nI_mul, nI_sub, nIc, nI_leI, nI_ltI, nI_eq, nI_m1, nI_m1', nI_lt0, nI_m2, ↓lq_m1, ↓lq_m2, ↓lq_m8, ↓lq_mm, lq_0, lq_1, lq_2, lq_3, lq_4, lq_5, lq_6, lq_7, lq_8, lq_9, lq_10, lq_12, lq_16, lq_20, lq_24, lq_31, lq_32, lq_40, lq_41, lq_42, lq_43, lq_45, lq_38, lq_48, lq_50, lq_57, lq_59, lq_60, lq_61, lq_63, lq_94, lq_96, lq_97, lq_100, lq_102, lq_104, lq_105, lq_120, lq_122, lq_123, lq_124, lq_125, lq_126, lq_255, lq_257, lq_600, lq_1000, lq_4096, lq_65535, lq_1000000, h], hb⟩
theorem Sm_m {B : Nat → Nat} {R x : Option (Int32 × Rc × Rc × Rc)} {ok ok' : Rc → Rc → Rc → Prop} (h : Sm B R x ok) (hm : ∀ a b c, ok a b c → ok' a b c) : Sm B R x ok' := by
  rcases h with ⟨a, b, c, e, o⟩ | h
  · exact Or.inl ⟨a, b, c, e, hm _ _ _ o⟩
  · exact Or.inr h
theorem Sm_b4 {B : Nat → Nat} {R x : Option (Int32 × Rc × Rc × Rc)} {k : Int32 → Rc → Rc → Rc → Option (Int32 × Rc × Rc × Rc)} {ok ok' : Rc → Rc → Rc → Prop} (h : Sm B R x ok') (hk : ∀ a b c, ok' a b c → Sm B R (k (nI 0) a b c) ok) (h1 : ∀ a b c, k (nI 1) a b c = some (nI 1, a, b, c)) : Sm B R (zB4 x k) ok := by
  rcases h with ⟨a, b, c, e, o⟩ | ⟨a, b, c, v, s, e, w1, w2, hb⟩
  · rw [e]; exact hk a b c o
  · rw [e]; exact Or.inr ⟨a, b, c, v, s, h1 a b c, w1, w2, hb⟩
theorem zB3_id {α1 α2 α3 : Type} (x : Option (α1 × α2 × α3)) : (zB3 x fun a b c => some (a, b, c)) = x := by cases x <;> rfl
theorem zB2_id {α1 α2 : Type} (x : Option (α1 × α2)) : (zB2 x fun a b => some (a, b)) = x := by cases x <;> rfl
theorem is10 {B : Nat → Nat} {e s nx k c : Nat} {mL : Rc} (h : T10 B e s nx k mL) (hk : k < 256) (hc : 4 ≤ c) (hc' : c < 256) : fX10_is mL (nI c) = some (if k = c then nI 1 else nI 0) := by
  obtain ⟨l13, l16, l14, l15, l19, l18, l17⟩ := h
  unfold fX10_is
  by_cases h4 : 4 ≤ k
  · have := srt4.mpr h4
    simp (disch := omega) only [zLet_e, zJn_e, zB1_s, zB2_s, zB3_s, zB4_s, zB5_s, zB6_s, zB7_s, zGd_in, zGd_b0, zGd_b1, rs_s, rs_n, upd_s, upd_n, ite_t, ite_f, if_true, if_false, ne_eq, not_true, not_false_iff, nI_1, nI_add, nI_mul, nI_sub, nIc, nI_leI, nI_ltI, nI_eq, nI_m1, nI_m1', nI_lt0, nI_m2, ↓lq_m1, ↓lq_m2, ↓lq_m8, ↓lq_mm, lq_0, lq_1, lq_2, lq_3, lq_4, lq_5, lq_6, lq_7, lq_8, lq_9, lq_10, lq_12, lq_16, lq_20, lq_24, lq_31, lq_32, lq_40, lq_41, lq_42, lq_43, lq_45, lq_38, lq_48, lq_50, lq_57, lq_59, lq_60, lq_61, lq_63, lq_94, lq_96, lq_97, lq_100, lq_102, lq_104, lq_105, lq_120, lq_122, lq_123, lq_124, lq_125, lq_126, lq_255, lq_257, lq_600, lq_1000, lq_4096, lq_65535, lq_1000000, l15, this, l17 h4]
    by_cases hh : k = c
    · simp (disch := omega) only [zLet_e, zJn_e, zB1_s, zB2_s, zB3_s, zB4_s, zB5_s, zB6_s, zB7_s, zGd_in, zGd_b0, zGd_b1, rs_s, rs_n, upd_s, upd_n, ite_t, ite_f, if_true, if_false, ne_eq, not_true, not_false_iff, nI_1, nI_add, nI_mul, nI_sub, nIc, nI_leI, nI_ltI, nI_eq, nI_m1, nI_m1', nI_lt0, nI_m2, ↓lq_m1, ↓lq_m2, ↓lq_m8, ↓lq_mm, lq_0, lq_1, lq_2, lq_3, lq_4, lq_5, lq_6, lq_7, lq_8, lq_9, lq_10, lq_12, lq_16, lq_20, lq_24, lq_31, lq_32, lq_40, lq_41, lq_42, lq_43, lq_45, lq_38, lq_48, lq_50, lq_57, lq_59, lq_60, lq_61, lq_63, lq_94, lq_96, lq_97, lq_100, lq_102, lq_104, lq_105, lq_120, lq_122, lq_123, lq_124, lq_125, lq_126, lq_255, lq_257, lq_600, lq_1000, lq_4096, lq_65535, lq_1000000]
    · simp (disch := omega) only [zLet_e, zJn_e, zB1_s, zB2_s, zB3_s, zB4_s, zB5_s, zB6_s, zB7_s, zGd_in, zGd_b0, zGd_b1, rs_s, rs_n, upd_s, upd_n, ite_t, ite_f, if_true, if_false, ne_eq, not_true, not_false_iff, nI_1, nI_add, nI_mul, nI_sub, nIc, nI_leI, nI_ltI, nI_eq, nI_m1, nI_m1', nI_lt0, nI_m2, ↓lq_m1, ↓lq_m2, ↓lq_m8, ↓lq_mm, lq_0, lq_1, lq_2, lq_3, lq_4, lq_5, lq_6, lq_7, lq_8, lq_9, lq_10, lq_12, lq_16, lq_20, lq_24, lq_31, lq_32, lq_40, lq_41, lq_42, lq_43, lq_45, lq_38, lq_48, lq_50, lq_57, lq_59, lq_60, lq_61, lq_63, lq_94, lq_96, lq_97, lq_100, lq_102, lq_104, lq_105, lq_120, lq_122, lq_123, lq_124, lq_125, lq_126, lq_255, lq_257, lq_600, lq_1000, lq_4096, lq_65535, lq_1000000]
  · have : ¬ srt k = nI 4 := fun h => h4 (srt4.mp h)
    rw [l15, lq_4, if_neg this, if_neg (by omega)]
    rfl
def PPost (B : Nat → Nat) (e NN D s f ns h q c : Nat) (R : Option (Int32 × Rc × Rc × Rc)) (oR oS mS mL' mS' : Rc) : Prop := ∃ i' s' nx' k' oR' oT' oS' mS'' ns' op', R = CL NN i' oR' oT' oS' ∧ CB B e i' s' nx' k' oR' oT' oS' ∧ Tk B e s' nx' k' ∧ T10 B e s' nx' k' mL' ∧ mL' 20 0 = nI D ∧ oR' 4 0 = nI 8 ∧ oR' 7 0 = nI D ∧ oR' 9 D = nI 0 ∧ oR' 8 D = nI c ∧ (∀ j, j < D → oR' 8 j = oR 8 j ∧ oR' 9 j = oR 9 j) ∧ oR' 5 = oR 5 ∧ oR' 6 = oR 6 ∧ (c = 0 → mS'' = mS') ∧ (c ≠ 0 → fX8_put mS' (sgN c) (nI 0) = some mS'') ∧ SS oS' mS'' f (ns' + pc c) (h + 1 - pc c) op' ∧ FO oS oS' ns ∧ FM mS mS'' ns ∧ ns' + q ≤ s' ∧ s < s' ∧ ns ≤ ns'
def SPost (B : Nat → Nat) (e NN D s f ns h q : Nat) (R : Option (Int32 × Rc × Rc × Rc)) (oR oS mS mL' mS' : Rc) : Prop := ∃ i' s' nx' k' oR' oT' oS' ns' op', R = CL NN i' oR' oT' oS' ∧ CB B e i' s' nx' k' oR' oT' oS' ∧ Tk B e s' nx' k' ∧ T10 B e s' nx' k' mL' ∧ mL' 20 0 = nI D ∧ isSg k' = false ∧ oR' 4 0 = nI 8 ∧ oR' 7 0 = nI D ∧ (∀ j, j < D → oR' 8 j = oR 8 j ∧ oR' 9 j = oR 9 j) ∧ oR' 5 = oR 5 ∧ oR' 6 = oR 6 ∧ SS oS' mS' f ns' (h + 1) op' ∧ FO oS oS' ns ∧ FM mS mS' ns ∧ ns' + q ≤ s' ∧ s < s' ∧ ns ≤ ns'
def PartS (B : Nat → Nat) (e NN : Nat) (mB : Rc) (part : Rc → Rc → Rc → Rc → Option (Int32 × Rc × Rc × Rc)) (D : Nat) : Prop := ∀ (i s nx k : Nat) (oR oT oS mL mS mW : Rc) (f ns h op q c : Nat), CB B e i s nx k oR oT oS → Tk B e s nx k → T10 B e s nx k mL → mL 20 0 = nI D → oR 4 0 = nI 7 → oR 7 0 = nI D → oR 9 D = nI 0 → oR 8 D = nI c → (c = 0 ∨ (isSg c = true ∧ 1 ≤ q ∧ 1 ≤ h)) → SS oS mS f ns h op → h ≤ D + 1 → ns + q ≤ s → Sm B (CL NN i oR oT oS) (part mB mL mS mW) (fun mL' mS' _ => PPost B e NN D s f ns h q c (CL NN i oR oT oS) oR oS mS mL' mS')
def SumS (B : Nat → Nat) (e NN : Nat) (mB : Rc) (sum : Rc → Rc → Rc → Rc → Option (Int32 × Rc × Rc × Rc)) (D : Nat) : Prop := ∀ (i s nx k : Nat) (oR oT oS mL mS mW : Rc) (f ns h op q : Nat), CB B e i s nx k oR oT oS → Tk B e s nx k → T10 B e s nx k mL → mL 20 0 = nI D → oR 4 0 = nI 7 → oR 7 0 = nI D → oR 9 D = nI 0 → oR 8 D = nI 0 → SS oS mS f ns h op → h ≤ D → ns + q ≤ s → Sm B (CL NN i oR oT oS) (sum mB mL mS mW) (fun mL' mS' _ => SPost B e NN D s f ns h q (CL NN i oR oT oS) oR oS mS mL' mS')
theorem part_fin {B : Nat → Nat} {e NN D i s nx k c t f ns ns1 h op1 q s0 : Nat} {oR oR0 oT oS oS0 oR1 oS1 mS0 mS1 mL' : Rc} {R : Option (Int32 × Rc × Rc × Rc)} (hN : 1000 ≤ NN) (he : e ≤ 600) (hB : ∀ i, B i < 256) (hR : R = CL NN i oR oT oS) (hc : CB B e i s nx k oR oT oS) (ht : Tk B e s nx k) (hk : k ≠ 0) (hm : fX5_meet NN oR oT oS = zB2 (fX5_endPart NN oR1 oS1) fun a b => some (nI 0, a, b)) (h7 : oR1 7 0 = nI D) (hD : D ≤ 8) (h9 : oR1 9 D = nI t) (h8 : oR1 8 D = nI c) (hcc : c = 0 ∨ (isSg c = true ∧ 1 ≤ q ∧ 1 ≤ h)) (hh : h ≤ 10) (hfr : ∀ j, j < D → oR1 8 j = oR0 8 j ∧ oR1 9 j = oR0 9 j) (h5 : oR1 5 = oR0 5) (h6 : oR1 6 = oR0 6) (hs : SS oS1 mS1 f ns1 (h + 1) op1) (hfo : FO oS0 oS1 ns) (hfm : FM mS0 mS1 ns) (hns : ns ≤ ns1) (hq : ns1 + t + q ≤ nx) (h10 : oS0 10 0 = nI 0) (hs0 : s0 < nx) (hl : T10 B e (tkS B e nx) (tkN B e (tkS B e nx)) (tkK B e (tkS B e nx)) mL') (h20 : mL' 20 0 = nI D) : ∃ mS', (∀ J, fX10_readPart_L148 (nI t) J NN (nI 0) mS1 = J mS') ∧ PPost B e NN D s0 f ns h q c R oR0 oS0 mS0 mL' mS' := by
  have hnx : nx ≤ 600 := by have := ht.2.1; omega
  have hpc : pc c ≤ q := by unfold pc; split <;> omega
  have hcc' : c = 0 ∨ (isSg c = true ∧ 2 ≤ h + 1) := by
    rcases hcc with a | ⟨a, b, d⟩
    · exact Or.inl a
    · exact Or.inr ⟨a, by omega⟩
  obtain ⟨oR2, oS2, mS', mS'', p1, p2, p3, p4, p5, p6, p7, p8, p9, p10, p11⟩ := endP hN h7 hD h9 h8 hcc' (by omega) (by omega) (by omega) (by omega) hs
  rw [p1] at hm
  have o10 : oS2 10 0 = nI 0 := by rw [p6.1 10 (by omega) (by omega) (by omega) (by omega), hfo.1 10 (by omega) (by omega) (by omega) (by omega)]; exact h10
  obtain ⟨oT', q1, q2, q3, q4⟩ := cl_ok hN he hB hc ht hk hm o10
  refine ⟨mS', p2, _, _, _, _, _, oT', oS2, mS'', ns1 + t, op1, hR.trans q1, q2, q3, hl, h20, ?_, ?_, ?_, ?_, ?_, ?_, ?_, p3, p4, p5, FO_t hfo p6 hns, FM_t hfm p7 hns, by omega, by omega, by omega⟩
  · simp (disch := omega) only [zLet_e, zJn_e, zB1_s, zB2_s, zB3_s, zB4_s, zB5_s, zB6_s, zB7_s, zGd_in, zGd_b0, zGd_b1, rs_s, rs_n, upd_s, upd_n, ite_t, ite_f, if_true, if_false, ne_eq, not_true, not_false_iff, nI_1, nI_add, nI_mul, nI_sub, nIc, nI_leI, nI_ltI, nI_eq, nI_m1, nI_m1', nI_lt0, nI_m2, ↓lq_m1, ↓lq_m2, ↓lq_m8, ↓lq_mm, lq_0, lq_1, lq_2, lq_3, lq_4, lq_5, lq_6, lq_7, lq_8, lq_9, lq_10, lq_12, lq_16, lq_20, lq_24, lq_31, lq_32, lq_40, lq_41, lq_42, lq_43, lq_45, lq_38, lq_48, lq_50, lq_57, lq_59, lq_60, lq_61, lq_63, lq_94, lq_96, lq_97, lq_100, lq_102, lq_104, lq_105, lq_120, lq_122, lq_123, lq_124, lq_125, lq_126, lq_255, lq_257, lq_600, lq_1000, lq_4096, lq_65535, lq_1000000, p8]
  · simp (disch := omega) only [zLet_e, zJn_e, zB1_s, zB2_s, zB3_s, zB4_s, zB5_s, zB6_s, zB7_s, zGd_in, zGd_b0, zGd_b1, rs_s, rs_n, upd_s, upd_n, ite_t, ite_f, if_true, if_false, ne_eq, not_true, not_false_iff, nI_1, nI_add, nI_mul, nI_sub, nIc, nI_leI, nI_ltI, nI_eq, nI_m1, nI_m1', nI_lt0, nI_m2, ↓lq_m1, ↓lq_m2, ↓lq_m8, ↓lq_mm, lq_0, lq_1, lq_2, lq_3, lq_4, lq_5, lq_6, lq_7, lq_8, lq_9, lq_10, lq_12, lq_16, lq_20, lq_24, lq_31, lq_32, lq_40, lq_41, lq_42, lq_43, lq_45, lq_38, lq_48, lq_50, lq_57, lq_59, lq_60, lq_61, lq_63, lq_94, lq_96, lq_97, lq_100, lq_102, lq_104, lq_105, lq_120, lq_122, lq_123, lq_124, lq_125, lq_126, lq_255, lq_257, lq_600, lq_1000, lq_4096, lq_65535, lq_1000000, p11 7, h7]
  · simp (disch := omega) only [zLet_e, zJn_e, zB1_s, zB2_s, zB3_s, zB4_s, zB5_s, zB6_s, zB7_s, zGd_in, zGd_b0, zGd_b1, rs_s, rs_n, upd_s, upd_n, ite_t, ite_f, if_true, if_false, ne_eq, not_true, not_false_iff, nI_1, nI_add, nI_mul, nI_sub, nIc, nI_leI, nI_ltI, nI_eq, nI_m1, nI_m1', nI_lt0, nI_m2, ↓lq_m1, ↓lq_m2, ↓lq_m8, ↓lq_mm, lq_0, lq_1, lq_2, lq_3, lq_4, lq_5, lq_6, lq_7, lq_8, lq_9, lq_10, lq_12, lq_16, lq_20, lq_24, lq_31, lq_32, lq_40, lq_41, lq_42, lq_43, lq_45, lq_38, lq_48, lq_50, lq_57, lq_59, lq_60, lq_61, lq_63, lq_94, lq_96, lq_97, lq_100, lq_102, lq_104, lq_105, lq_120, lq_122, lq_123, lq_124, lq_125, lq_126, lq_255, lq_257, lq_600, lq_1000, lq_4096, lq_65535, lq_1000000, p9]
  · simp (disch := omega) only [zLet_e, zJn_e, zB1_s, zB2_s, zB3_s, zB4_s, zB5_s, zB6_s, zB7_s, zGd_in, zGd_b0, zGd_b1, rs_s, rs_n, upd_s, upd_n, ite_t, ite_f, if_true, if_false, ne_eq, not_true, not_false_iff, nI_1, nI_add, nI_mul, nI_sub, nIc, nI_leI, nI_ltI, nI_eq, nI_m1, nI_m1', nI_lt0, nI_m2, ↓lq_m1, ↓lq_m2, ↓lq_m8, ↓lq_mm, lq_0, lq_1, lq_2, lq_3, lq_4, lq_5, lq_6, lq_7, lq_8, lq_9, lq_10, lq_12, lq_16, lq_20, lq_24, lq_31, lq_32, lq_40, lq_41, lq_42, lq_43, lq_45, lq_38, lq_48, lq_50, lq_57, lq_59, lq_60, lq_61, lq_63, lq_94, lq_96, lq_97, lq_100, lq_102, lq_104, lq_105, lq_120, lq_122, lq_123, lq_124, lq_125, lq_126, lq_255, lq_257, lq_600, lq_1000, lq_4096, lq_65535, lq_1000000, p11 8, h8]
  · intro j hj
    have a1 := p11 8 (by omega) (by omega)
    have a2 := p10 j (by omega)
    have a3 := hfr j hj
    simp (disch := omega) only [zLet_e, zJn_e, zB1_s, zB2_s, zB3_s, zB4_s, zB5_s, zB6_s, zB7_s, zGd_in, zGd_b0, zGd_b1, rs_s, rs_n, upd_s, upd_n, ite_t, ite_f, if_true, if_false, ne_eq, not_true, not_false_iff, nI_1, nI_add, nI_mul, nI_sub, nIc, nI_leI, nI_ltI, nI_eq, nI_m1, nI_m1', nI_lt0, nI_m2, ↓lq_m1, ↓lq_m2, ↓lq_m8, ↓lq_mm, lq_0, lq_1, lq_2, lq_3, lq_4, lq_5, lq_6, lq_7, lq_8, lq_9, lq_10, lq_12, lq_16, lq_20, lq_24, lq_31, lq_32, lq_40, lq_41, lq_42, lq_43, lq_45, lq_38, lq_48, lq_50, lq_57, lq_59, lq_60, lq_61, lq_63, lq_94, lq_96, lq_97, lq_100, lq_102, lq_104, lq_105, lq_120, lq_122, lq_123, lq_124, lq_125, lq_126, lq_255, lq_257, lq_600, lq_1000, lq_4096, lq_65535, lq_1000000, a1, a2]
    exact a3
  · have a1 := p11 5 (by omega) (by omega)
    simp (disch := omega) only [zLet_e, zJn_e, zB1_s, zB2_s, zB3_s, zB4_s, zB5_s, zB6_s, zB7_s, zGd_in, zGd_b0, zGd_b1, rs_s, rs_n, upd_s, upd_n, ite_t, ite_f, if_true, if_false, ne_eq, not_true, not_false_iff, nI_1, nI_add, nI_mul, nI_sub, nIc, nI_leI, nI_ltI, nI_eq, nI_m1, nI_m1', nI_lt0, nI_m2, ↓lq_m1, ↓lq_m2, ↓lq_m8, ↓lq_mm, lq_0, lq_1, lq_2, lq_3, lq_4, lq_5, lq_6, lq_7, lq_8, lq_9, lq_10, lq_12, lq_16, lq_20, lq_24, lq_31, lq_32, lq_40, lq_41, lq_42, lq_43, lq_45, lq_38, lq_48, lq_50, lq_57, lq_59, lq_60, lq_61, lq_63, lq_94, lq_96, lq_97, lq_100, lq_102, lq_104, lq_105, lq_120, lq_122, lq_123, lq_124, lq_125, lq_126, lq_255, lq_257, lq_600, lq_1000, lq_4096, lq_65535, lq_1000000, a1, h5]
  · have a1 := p11 6 (by omega) (by omega)
    simp (disch := omega) only [zLet_e, zJn_e, zB1_s, zB2_s, zB3_s, zB4_s, zB5_s, zB6_s, zB7_s, zGd_in, zGd_b0, zGd_b1, rs_s, rs_n, upd_s, upd_n, ite_t, ite_f, if_true, if_false, ne_eq, not_true, not_false_iff, nI_1, nI_add, nI_mul, nI_sub, nIc, nI_leI, nI_ltI, nI_eq, nI_m1, nI_m1', nI_lt0, nI_m2, ↓lq_m1, ↓lq_m2, ↓lq_m8, ↓lq_mm, lq_0, lq_1, lq_2, lq_3, lq_4, lq_5, lq_6, lq_7, lq_8, lq_9, lq_10, lq_12, lq_16, lq_20, lq_24, lq_31, lq_32, lq_40, lq_41, lq_42, lq_43, lq_45, lq_38, lq_48, lq_50, lq_57, lq_59, lq_60, lq_61, lq_63, lq_94, lq_96, lq_97, lq_100, lq_102, lq_104, lq_105, lq_120, lq_122, lq_123, lq_124, lq_125, lq_126, lq_255, lq_257, lq_600, lq_1000, lq_4096, lq_65535, lq_1000000, a1, h6]
def pT (NN : Nat) (sum : Rc → Rc → Rc → Rc → Option (Int32 × Rc × Rc × Rc)) (mB : Rc) : Int32 → Rc → Rc → Rc → Option (Int32 × Rc × Rc × Rc) := fun (x1 : Int32) (mL_2 : Rc) (mS_3 : Rc) (mW_4 : Rc) =>
      zB1 (fX10_is mL_2 (40 : Int32)) fun v6 =>
      zJn (fun (mL_7 : Rc) (mS_8 : Rc) (mW_9 : Rc) =>
          zJn (fun (mS_11 : Rc) =>
              some ((0 : Int32), mL_7, mS_11, mW_9)
            ) fun J169_12 =>
          fX10_readPart_L148 x1 J169_12 NN (0 : Int32) mS_8
        ) fun J146_10 =>
      if v6 = 0 then (
        if (mL_2 15 0) = (3 : Int32) then (
          if (mL_2 18 0) ≤ (65535 : Int32) then (
            zB1 (fX8_put mS_3 (10 : Int32) (mL_2 18 0)) fun mS_23 =>
            zB1 (fX10_next NN mB mL_2) fun mL_24 =>
            J146_10 mL_24 mS_23 mW_4
          ) else (
            zB1 (fX10_stop mL_2 mW_4 (4 : Int32)) fun mW_25 =>
            some ((1 : Int32), mL_2, mS_3, mW_25)
          )
        ) else (
          zB3 (fX10_nameHere mB mL_2 mW_4) fun fl18 v19 mW_20 =>
          if fl18 = 1 then (
            some ((1 : Int32), mL_2, mS_3, mW_20)
          ) else (
            zB1 (fX8_put mS_3 (9 : Int32) v19) fun mS_21 =>
            zB1 (fX10_next NN mB mL_2) fun mL_22 =>
            J146_10 mL_22 mS_21 mW_20
          )
        )
      ) else (
        if (mL_2 20 0) = (8 : Int32) then (
          zB1 (fX10_stop mL_2 mW_4 (5 : Int32)) fun mW_36 =>
          some ((1 : Int32), mL_2, mS_3, mW_36)
        ) else (
          zLet (rs mL_2 20 (fun _ => ((mL_2 20 0) + (1 : Int32)))) fun mL_26 =>
          zB1 (fX10_next NN mB mL_26) fun mL_27 =>
          zB4 (sum mB mL_27 mS_3 mW_4) fun fl28 mL_29 mS_30 mW_31 =>
          if fl28 = 1 then (
            some ((1 : Int32), mL_29, mS_30, mW_31)
          ) else (
            zB3 (fX10_need NN mB mL_29 mW_31 (41 : Int32)) fun fl32 mL_33 mW_34 =>
            if fl32 = 1 then (
              some ((1 : Int32), mL_33, mS_30, mW_34)
            ) else (
              zLet (rs mL_33 20 (fun _ => ((mL_33 20 0) - (1 : Int32)))) fun mL_35 =>
              J146_10 mL_35 mS_30 mW_34
            )
          )
        )
      )
theorem readPartB_e (NN : Nat) (sum : Rc → Rc → Rc → Rc → Option (Int32 × Rc × Rc × Rc)) (mB mL mS mW : Rc) : fX10_readPartB NN sum mB mL mS mW = fX10_readPart_L2 mB NN (pT NN sum mB) NN (0 : Int32) mL mS mW := rfl
theorem nameHere10 {B : Nat → Nat} {e s nx k : Nat} {mB mL mW : Rc} (hM : ∀ i, i < 600 → mB 11 i = sx (B i)) (he : e ≤ 600) (h : T10 B e s nx k mL) (ht : Tk B e s nx k) : fX10_nameHere mB mL mW = (if k = 2 ∧ nx = s + 1 ∧ B s < 105 then some (nI 0, nI (B s - 97), mW) else some (nI 1, nI 0, rs (rs mW 6 (fun _ => if k = 2 then nI 2 else nI 1)) 7 (fun _ => mL 16 0))) := by
  obtain ⟨l13, l16, l14, l15, l19, l18, l17⟩ := h
  unfold fX10_nameHere
  by_cases hk : k = 2
  · subst hk
    obtain ⟨h8, hl⟩ := ht.2.2.2.2.2.1 rfl
    have hsn := ht.2.2.1 (by omega)
    have hne := ht.2.1
    have hb := isLt_b (hl s (by omega) hsn)
    have hm := hM s (by omega)
    rw [sx_lo (by omega)] at hm
    have l15' : mL 15 0 = nI 2 := l15
    by_cases c1 : nx = s + 1
    · by_cases c2 : B s < 105
      · simp (disch := omega) only [zLet_e, zJn_e, zB1_s, zB2_s, zB3_s, zB4_s, zB5_s, zB6_s, zB7_s, zGd_in, zGd_b0, zGd_b1, rs_s, rs_n, upd_s, upd_n, ite_t, ite_f, if_true, if_false, ne_eq, not_true, not_false_iff, nI_1, nI_add, nI_mul, nI_sub, nIc, nI_leI, nI_ltI, nI_eq, nI_m1, nI_m1', nI_lt0, nI_m2, ↓lq_m1, ↓lq_m2, ↓lq_m8, ↓lq_mm, lq_0, lq_1, lq_2, lq_3, lq_4, lq_5, lq_6, lq_7, lq_8, lq_9, lq_10, lq_12, lq_16, lq_20, lq_24, lq_31, lq_32, lq_40, lq_41, lq_42, lq_43, lq_45, lq_38, lq_48, lq_50, lq_57, lq_59, lq_60, lq_61, lq_63, lq_94, lq_96, lq_97, lq_100, lq_102, lq_104, lq_105, lq_120, lq_122, lq_123, lq_124, lq_125, lq_126, lq_255, lq_257, lq_600, lq_1000, lq_4096, lq_65535, lq_1000000, l15', l19, l16, hm, c1]
        rw [if_pos ⟨trivial, trivial, c2⟩]
      · simp (disch := omega) only [zLet_e, zJn_e, zB1_s, zB2_s, zB3_s, zB4_s, zB5_s, zB6_s, zB7_s, zGd_in, zGd_b0, zGd_b1, rs_s, rs_n, upd_s, upd_n, ite_t, ite_f, if_true, if_false, ne_eq, not_true, not_false_iff, nI_1, nI_add, nI_mul, nI_sub, nIc, nI_leI, nI_ltI, nI_eq, nI_m1, nI_m1', nI_lt0, nI_m2, ↓lq_m1, ↓lq_m2, ↓lq_m8, ↓lq_mm, lq_0, lq_1, lq_2, lq_3, lq_4, lq_5, lq_6, lq_7, lq_8, lq_9, lq_10, lq_12, lq_16, lq_20, lq_24, lq_31, lq_32, lq_40, lq_41, lq_42, lq_43, lq_45, lq_38, lq_48, lq_50, lq_57, lq_59, lq_60, lq_61, lq_63, lq_94, lq_96, lq_97, lq_100, lq_102, lq_104, lq_105, lq_120, lq_122, lq_123, lq_124, lq_125, lq_126, lq_255, lq_257, lq_600, lq_1000, lq_4096, lq_65535, lq_1000000, l15', l19, l16, hm, c1, stop_e]
    · simp (disch := omega) only [zLet_e, zJn_e, zB1_s, zB2_s, zB3_s, zB4_s, zB5_s, zB6_s, zB7_s, zGd_in, zGd_b0, zGd_b1, rs_s, rs_n, upd_s, upd_n, ite_t, ite_f, if_true, if_false, ne_eq, not_true, not_false_iff, nI_1, nI_add, nI_mul, nI_sub, nIc, nI_leI, nI_ltI, nI_eq, nI_m1, nI_m1', nI_lt0, nI_m2, ↓lq_m1, ↓lq_m2, ↓lq_m8, ↓lq_mm, lq_0, lq_1, lq_2, lq_3, lq_4, lq_5, lq_6, lq_7, lq_8, lq_9, lq_10, lq_12, lq_16, lq_20, lq_24, lq_31, lq_32, lq_40, lq_41, lq_42, lq_43, lq_45, lq_38, lq_48, lq_50, lq_57, lq_59, lq_60, lq_61, lq_63, lq_94, lq_96, lq_97, lq_100, lq_102, lq_104, lq_105, lq_120, lq_122, lq_123, lq_124, lq_125, lq_126, lq_255, lq_257, lq_600, lq_1000, lq_4096, lq_65535, lq_1000000, l15', l19, stop_e]
  · have : ¬ srt k = nI 2 := fun h => hk (srt2.mp h)
    rw [l15, lq_2, if_neg this, if_neg (by omega), if_neg hk]
    rfl
