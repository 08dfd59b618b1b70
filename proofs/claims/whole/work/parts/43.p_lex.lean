/-! own part (pure): the class's lexer -/
def bl (B : Nat → Nat) (i : Nat) : Bool := B i == 32 || B i == 10
def lw (B : Nat → Nat) (i : Nat) : Bool := isLt (B i)
def dw (B : Nat → Nat) (i : Nat) : Bool := isDg (B i)
def dval (B : Nat → Nat) (s : Nat) : Nat → Nat
  | 0 => 0
  | n + 1 => dval B s n * 10 + (B (s + n) - 48)
def tkS (B : Nat → Nat) (e p : Nat) : Nat := rn (bl B) e p
def tkN (B : Nat → Nat) (e s : Nat) : Nat := if s < e then (if isLt (B s) = true then rn (lw B) e s else if isDg (B s) = true then rn (dw B) e s else s + 1) else s
def tkK (B : Nat → Nat) (e s : Nat) : Nat := if s < e then (if isLt (B s) = true then (if rn (lw B) e s - s ≤ 8 then 2 else 1) else if isDg (B s) = true then (if rn (dw B) e s - s ≤ 5 then 3 else 1) else if isSi (B s) = true then B s else 1) else 0
def nmI (B : Nat → Nat) (s nx k : Nat) : Int32 := if k = 2 ∧ nx = s + 1 ∧ B s < 105 then nI (B s - 97) else nM 1
def ifI (B : Nat → Nat) (s nx k : Nat) : Int32 := if k = 2 ∧ nx = s + 2 ∧ B s = 105 ∧ B (s + 1) = 102 then nI 1 else nI 0
def srt (k : Nat) : Int32 := if k = 0 then nI 1 else if k = 1 then nI 0 else if k = 2 then nI 2 else if k = 3 then nI 3 else nI 4
def T6 (B : Nat → Nat) (e s nx k : Nat) (oT : Rc) : Prop := oT 2 0 = nI e ∧ oT 3 0 = nI nx ∧ oT 4 0 = nI k ∧ oT 5 0 = nI s ∧ oT 6 0 = nI (nx - s) ∧ (k = 3 → oT 7 0 = nI (dval B s (nx - s))) ∧ oT 8 0 = nmI B s nx k ∧ oT 9 0 = ifI B s nx k
def T10 (B : Nat → Nat) (e s nx k : Nat) (mL : Rc) : Prop := mL 13 0 = nI e ∧ mL 16 0 = nI s ∧ (k ≠ 1 → mL 14 0 = nI nx) ∧ mL 15 0 = srt k ∧ (k = 2 → mL 19 0 = nI (nx - s)) ∧ (k = 3 → mL 18 0 = nI (dval B s (nx - s))) ∧ (4 ≤ k → mL 17 0 = nI k)
theorem isLt_b {b : Nat} (h : isLt b = true) : 97 ≤ b ∧ b ≤ 122 := of_decide_eq_true h
theorem isDg_b {b : Nat} (h : isDg b = true) : 48 ≤ b ∧ b ≤ 57 := of_decide_eq_true h
theorem bI_t : bI true = nI 1 := rfl
theorem bI_f : bI false = nI 0 := rfl
theorem skip6 (J : Rc → Option Rc) {B : Nat → Nat} {e : Nat} (he : e ≤ 600) (hB : ∀ i, B i < 256) : ∀ (n p : Nat) (oT : Rc), (∀ i, i < 600 → oT 0 i = nI (B i)) → oT 2 0 = nI e → oT 3 0 = nI p → p ≤ e → e - p < n → ∃ oT', fX6_skipBlanks_L0 J n oT = J oT' ∧ oT' 3 0 = nI (rn (bl B) e p) ∧ ∀ j, j ≠ 3 → oT' j = oT j := by
  intro n
  induction n with
  | zero => intro p oT h0 h2 h3 hp hn; omega
  | succ n ih =>
    intro p oT h0 h2 h3 hp hn
    rw [fX6_skipBlanks_L0_s]
    by_cases hc : p < e
    · have hb := h0 p (by omega)
      have hB' := hB p
      by_cases hq : bl B p = true
      · obtain ⟨oT', e1, e2, e3⟩ := ih (p + 1) (rs oT 3 (fun _ => nI (p + 1))) h0 h2 rfl (by omega) (by omega)
        refine ⟨oT', ?_, ?_, fun j hj => (e3 j hj).trans (rs_n oT _ hj)⟩
        · have hq' : B p = 32 ∨ B p = 10 := by unfold bl at hq; simpa using hq
          rw [← e1]
          rcases hq' with h | h
          · rw [h] at hb
            simp (disch := omega) only [zLet_e, zJn_e, zB1_s, zB2_s, zB3_s, zB4_s, zB5_s, zB6_s, zB7_s, zGd_in, zGd_b0, zGd_b1, rs_s, rs_n, upd_s, upd_n, ite_t, ite_f, if_true, if_false, ne_eq, not_true, not_false_iff, nI_1, nI_add, nI_mul, nI_sub, nIc, nI_leI, nI_ltI, nI_eq, nI_m1, nI_m1', nI_lt0, nI_m2, ↓lq_m1, ↓lq_m2, ↓lq_m8, ↓lq_mm, lq_0, lq_1, lq_2, lq_3, lq_4, lq_5, lq_6, lq_7, lq_8, lq_9, lq_10, lq_12, lq_16, lq_20, lq_24, lq_31, lq_32, lq_40, lq_41, lq_42, lq_43, lq_45, lq_38, lq_48, lq_50, lq_57, lq_59, lq_60, lq_61, lq_63, lq_94, lq_96, lq_97, lq_100, lq_102, lq_104, lq_105, lq_120, lq_122, lq_123, lq_124, lq_125, lq_126, lq_255, lq_257, lq_600, lq_1000, lq_4096, lq_65535, lq_1000000, h2, h3, hb]
          · rw [h] at hb
            simp (disch := omega) only [zLet_e, zJn_e, zB1_s, zB2_s, zB3_s, zB4_s, zB5_s, zB6_s, zB7_s, zGd_in, zGd_b0, zGd_b1, rs_s, rs_n, upd_s, upd_n, ite_t, ite_f, if_true, if_false, ne_eq, not_true, not_false_iff, nI_1, nI_add, nI_mul, nI_sub, nIc, nI_leI, nI_ltI, nI_eq, nI_m1, nI_m1', nI_lt0, nI_m2, ↓lq_m1, ↓lq_m2, ↓lq_m8, ↓lq_mm, lq_0, lq_1, lq_2, lq_3, lq_4, lq_5, lq_6, lq_7, lq_8, lq_9, lq_10, lq_12, lq_16, lq_20, lq_24, lq_31, lq_32, lq_40, lq_41, lq_42, lq_43, lq_45, lq_38, lq_48, lq_50, lq_57, lq_59, lq_60, lq_61, lq_63, lq_94, lq_96, lq_97, lq_100, lq_102, lq_104, lq_105, lq_120, lq_122, lq_123, lq_124, lq_125, lq_126, lq_255, lq_257, lq_600, lq_1000, lq_4096, lq_65535, lq_1000000, h2, h3, hb]
        · rw [e2, rn_step hc hq]
      · have hq' : B p ≠ 32 ∧ B p ≠ 10 := by unfold bl at hq; simpa using hq
        refine ⟨oT, ?_, ?_, fun j hj => rfl⟩
        · simp (disch := omega) only [zLet_e, zJn_e, zB1_s, zB2_s, zB3_s, zB4_s, zB5_s, zB6_s, zB7_s, zGd_in, zGd_b0, zGd_b1, rs_s, rs_n, upd_s, upd_n, ite_t, ite_f, if_true, if_false, ne_eq, not_true, not_false_iff, nI_1, nI_add, nI_mul, nI_sub, nIc, nI_leI, nI_ltI, nI_eq, nI_m1, nI_m1', nI_lt0, nI_m2, ↓lq_m1, ↓lq_m2, ↓lq_m8, ↓lq_mm, lq_0, lq_1, lq_2, lq_3, lq_4, lq_5, lq_6, lq_7, lq_8, lq_9, lq_10, lq_12, lq_16, lq_20, lq_24, lq_31, lq_32, lq_40, lq_41, lq_42, lq_43, lq_45, lq_38, lq_48, lq_50, lq_57, lq_59, lq_60, lq_61, lq_63, lq_94, lq_96, lq_97, lq_100, lq_102, lq_104, lq_105, lq_120, lq_122, lq_123, lq_124, lq_125, lq_126, lq_255, lq_257, lq_600, lq_1000, lq_4096, lq_65535, lq_1000000, h2, h3, hb]
        · rw [h3, rn_stop (e := e) (p := p) (fun h => hq h.2)]
    · refine ⟨oT, ?_, ?_, fun j hj => rfl⟩
      · simp (disch := omega) only [zLet_e, zJn_e, zB1_s, zB2_s, zB3_s, zB4_s, zB5_s, zB6_s, zB7_s, zGd_in, zGd_b0, zGd_b1, rs_s, rs_n, upd_s, upd_n, ite_t, ite_f, if_true, if_false, ne_eq, not_true, not_false_iff, nI_1, nI_add, nI_mul, nI_sub, nIc, nI_leI, nI_ltI, nI_eq, nI_m1, nI_m1', nI_lt0, nI_m2, ↓lq_m1, ↓lq_m2, ↓lq_m8, ↓lq_mm, lq_0, lq_1, lq_2, lq_3, lq_4, lq_5, lq_6, lq_7, lq_8, lq_9, lq_10, lq_12, lq_16, lq_20, lq_24, lq_31, lq_32, lq_40, lq_41, lq_42, lq_43, lq_45, lq_38, lq_48, lq_50, lq_57, lq_59, lq_60, lq_61, lq_63, lq_94, lq_96, lq_97, lq_100, lq_102, lq_104, lq_105, lq_120, lq_122, lq_123, lq_124, lq_125, lq_126, lq_255, lq_257, lq_600, lq_1000, lq_4096, lq_65535, lq_1000000, h2, h3]
      · rw [h3, rn_stop (e := e) (p := p) (fun h => hc h.1)]
theorem word6 (J : Rc → Option Rc) {B : Nat → Nat} {e : Nat} (he : e ≤ 600) (hB : ∀ i, B i < 256) : ∀ (n p : Nat) (oT : Rc), (∀ i, i < 600 → oT 0 i = nI (B i)) → oT 2 0 = nI e → oT 3 0 = nI p → p ≤ e → e - p < n → ∃ oT', fX6_takeWord_L0 J n oT = J oT' ∧ oT' 3 0 = nI (rn (lw B) e p) ∧ ∀ j, j ≠ 3 → oT' j = oT j := by
  intro n
  induction n with
  | zero => intro p oT h0 h2 h3 hp hn; omega
  | succ n ih =>
    intro p oT h0 h2 h3 hp hn
    rw [fX6_takeWord_L0_s]
    by_cases hc : p < e
    · have hb := h0 p (by omega)
      have hl := isLetter6 (hB p)
      by_cases hq : isLt (B p) = true
      · obtain ⟨oT', e1, e2, e3⟩ := ih (p + 1) (rs oT 3 (fun _ => nI (p + 1))) h0 h2 rfl (by omega) (by omega)
        refine ⟨oT', ?_, ?_, fun j hj => (e3 j hj).trans (rs_n oT _ hj)⟩
        · rw [← e1]
          simp (disch := omega) only [zLet_e, zJn_e, zB1_s, zB2_s, zB3_s, zB4_s, zB5_s, zB6_s, zB7_s, zGd_in, zGd_b0, zGd_b1, rs_s, rs_n, upd_s, upd_n, ite_t, ite_f, if_true, if_false, ne_eq, not_true, not_false_iff, nI_1, nI_add, nI_mul, nI_sub, nIc, nI_leI, nI_ltI, nI_eq, nI_m1, nI_m1', nI_lt0, nI_m2, ↓lq_m1, ↓lq_m2, ↓lq_m8, ↓lq_mm, lq_0, lq_1, lq_2, lq_3, lq_4, lq_5, lq_6, lq_7, lq_8, lq_9, lq_10, lq_12, lq_16, lq_20, lq_24, lq_31, lq_32, lq_40, lq_41, lq_42, lq_43, lq_45, lq_38, lq_48, lq_50, lq_57, lq_59, lq_60, lq_61, lq_63, lq_94, lq_96, lq_97, lq_100, lq_102, lq_104, lq_105, lq_120, lq_122, lq_123, lq_124, lq_125, lq_126, lq_255, lq_257, lq_600, lq_1000, lq_4096, lq_65535, lq_1000000, h2, h3, hb, hl, hq, bI_t]
        · rw [e2, rn_step hc hq]
      · refine ⟨oT, ?_, ?_, fun j hj => rfl⟩
        · have hq' : isLt (B p) = false := by simpa using hq
          simp (disch := omega) only [zLet_e, zJn_e, zB1_s, zB2_s, zB3_s, zB4_s, zB5_s, zB6_s, zB7_s, zGd_in, zGd_b0, zGd_b1, rs_s, rs_n, upd_s, upd_n, ite_t, ite_f, if_true, if_false, ne_eq, not_true, not_false_iff, nI_1, nI_add, nI_mul, nI_sub, nIc, nI_leI, nI_ltI, nI_eq, nI_m1, nI_m1', nI_lt0, nI_m2, ↓lq_m1, ↓lq_m2, ↓lq_m8, ↓lq_mm, lq_0, lq_1, lq_2, lq_3, lq_4, lq_5, lq_6, lq_7, lq_8, lq_9, lq_10, lq_12, lq_16, lq_20, lq_24, lq_31, lq_32, lq_40, lq_41, lq_42, lq_43, lq_45, lq_38, lq_48, lq_50, lq_57, lq_59, lq_60, lq_61, lq_63, lq_94, lq_96, lq_97, lq_100, lq_102, lq_104, lq_105, lq_120, lq_122, lq_123, lq_124, lq_125, lq_126, lq_255, lq_257, lq_600, lq_1000, lq_4096, lq_65535, lq_1000000, h2, h3, hb, hl, hq', bI_f]
        · rw [h3, rn_stop (e := e) (p := p) (fun h => hq h.2)]
    · refine ⟨oT, ?_, ?_, fun j hj => rfl⟩
      · simp (disch := omega) only [zLet_e, zJn_e, zB1_s, zB2_s, zB3_s, zB4_s, zB5_s, zB6_s, zB7_s, zGd_in, zGd_b0, zGd_b1, rs_s, rs_n, upd_s, upd_n, ite_t, ite_f, if_true, if_false, ne_eq, not_true, not_false_iff, nI_1, nI_add, nI_mul, nI_sub, nIc, nI_leI, nI_ltI, nI_eq, nI_m1, nI_m1', nI_lt0, nI_m2, ↓lq_m1, ↓lq_m2, ↓lq_m8, ↓lq_mm, lq_0, lq_1, lq_2, lq_3, lq_4, lq_5, lq_6, lq_7, lq_8, lq_9, lq_10, lq_12, lq_16, lq_20, lq_24, lq_31, lq_32, lq_40, lq_41, lq_42, lq_43, lq_45, lq_38, lq_48, lq_50, lq_57, lq_59, lq_60, lq_61, lq_63, lq_94, lq_96, lq_97, lq_100, lq_102, lq_104, lq_105, lq_120, lq_122, lq_123, lq_124, lq_125, lq_126, lq_255, lq_257, lq_600, lq_1000, lq_4096, lq_65535, lq_1000000, h2, h3]
      · rw [h3, rn_stop (e := e) (p := p) (fun h => hc h.1)]
theorem whole6 (J : Rc → Option Rc) {B : Nat → Nat} {e s : Nat} (he : e ≤ 600) (hB : ∀ i, B i < 256) : ∀ (n p : Nat) (oT : Rc), (∀ i, i < 600 → oT 0 i = nI (B i)) → oT 2 0 = nI e → oT 3 0 = nI p → s ≤ p → p ≤ e → oT 7 0 = nI (dval B s (p - s)) → e - p < n → ∃ oT', fX6_takeWhole_L0 J n oT = J oT' ∧ oT' 3 0 = nI (rn (dw B) e p) ∧ oT' 7 0 = nI (dval B s (rn (dw B) e p - s)) ∧ ∀ j, j ≠ 3 → j ≠ 7 → oT' j = oT j := by
  intro n
  induction n with
  | zero => intro p oT h0 h2 h3 hs hp h7 hn; omega
  | succ n ih =>
    intro p oT h0 h2 h3 hs hp h7 hn
    rw [fX6_takeWhole_L0_s]
    by_cases hc : p < e
    · have hb := h0 p (by omega)
      have hl := isDigit6 (hB p)
      by_cases hq : isDg (B p) = true
      · have hd := isDg_b hq
        have hv : nI (dval B s (p - s) * 10 + B p - 48) = nI (dval B s (p + 1 - s)) := by
          have : p + 1 - s = (p - s) + 1 := by omega
          rw [this]
          show _ = nI (dval B s (p - s) * 10 + (B (s + (p - s)) - 48))
          rw [show s + (p - s) = p by omega]
          congr 1
          omega
        obtain ⟨oT', e1, e2, e4, e3⟩ := ih (p + 1) (rs (rs oT 7 (fun _ => nI (dval B s (p - s) * 10 + B p - 48))) 3 (fun _ => nI (p + 1))) h0 h2 rfl (by omega) (by omega) hv (by omega)
        refine ⟨oT', ?_, ?_, ?_, fun j hj hj' => (e3 j hj hj').trans ((rs_n _ _ hj).trans (rs_n oT _ hj'))⟩
        · rw [← e1]
          simp (disch := omega) only [zLet_e, zJn_e, zB1_s, zB2_s, zB3_s, zB4_s, zB5_s, zB6_s, zB7_s, zGd_in, zGd_b0, zGd_b1, rs_s, rs_n, upd_s, upd_n, ite_t, ite_f, if_true, if_false, ne_eq, not_true, not_false_iff, nI_1, nI_add, nI_mul, nI_sub, nIc, nI_leI, nI_ltI, nI_eq, nI_m1, nI_m1', nI_lt0, nI_m2, ↓lq_m1, ↓lq_m2, ↓lq_m8, ↓lq_mm, lq_0, lq_1, lq_2, lq_3, lq_4, lq_5, lq_6, lq_7, lq_8, lq_9, lq_10, lq_12, lq_16, lq_20, lq_24, lq_31, lq_32, lq_40, lq_41, lq_42, lq_43, lq_45, lq_38, lq_48, lq_50, lq_57, lq_59, lq_60, lq_61, lq_63, lq_94, lq_96, lq_97, lq_100, lq_102, lq_104, lq_105, lq_120, lq_122, lq_123, lq_124, lq_125, lq_126, lq_255, lq_257, lq_600, lq_1000, lq_4096, lq_65535, lq_1000000, h2, h3, h7, hb, hl, hq, bI_t]
        · rw [e2, rn_step hc hq]
        · rw [e4, rn_step hc hq]
      · refine ⟨oT, ?_, ?_, ?_, fun j hj hj' => rfl⟩
        · have hq' : isDg (B p) = false := by simpa using hq
          simp (disch := omega) only [zLet_e, zJn_e, zB1_s, zB2_s, zB3_s, zB4_s, zB5_s, zB6_s, zB7_s, zGd_in, zGd_b0, zGd_b1, rs_s, rs_n, upd_s, upd_n, ite_t, ite_f, if_true, if_false, ne_eq, not_true, not_false_iff, nI_1, nI_add, nI_mul, nI_sub, nIc, nI_leI, nI_ltI, nI_eq, nI_m1, nI_m1', nI_lt0, nI_m2, ↓lq_m1, ↓lq_m2, ↓lq_m8, ↓lq_mm, lq_0, lq_1, lq_2, lq_3, lq_4, lq_5, lq_6, lq_7, lq_8, lq_9, lq_10, lq_12, lq_16, lq_20, lq_24, lq_31, lq_32, lq_40, lq_41, lq_42, lq_43, lq_45, lq_38, lq_48, lq_50, lq_57, lq_59, lq_60, lq_61, lq_63, lq_94, lq_96, lq_97, lq_100, lq_102, lq_104, lq_105, lq_120, lq_122, lq_123, lq_124, lq_125, lq_126, lq_255, lq_257, lq_600, lq_1000, lq_4096, lq_65535, lq_1000000, h2, h3, hb, hl, hq', bI_f]
        · rw [h3, rn_stop (e := e) (p := p) (fun h => hq h.2)]
        · rw [h7, rn_stop (e := e) (p := p) (fun h => hq h.2)]
    · refine ⟨oT, ?_, ?_, ?_, fun j hj hj' => rfl⟩
      · simp (disch := omega) only [zLet_e, zJn_e, zB1_s, zB2_s, zB3_s, zB4_s, zB5_s, zB6_s, zB7_s, zGd_in, zGd_b0, zGd_b1, rs_s, rs_n, upd_s, upd_n, ite_t, ite_f, if_true, if_false, ne_eq, not_true, not_false_iff, nI_1, nI_add, nI_mul, nI_sub, nIc, nI_leI, nI_ltI, nI_eq, nI_m1, nI_m1', nI_lt0, nI_m2, ↓lq_m1, ↓lq_m2, ↓lq_m8, ↓lq_mm, lq_0, lq_1, lq_2, lq_3, lq_4, lq_5, lq_6, lq_7, lq_8, lq_9, lq_10, lq_12, lq_16, lq_20, lq_24, lq_31, lq_32, lq_40, lq_41, lq_42, lq_43, lq_45, lq_38, lq_48, lq_50, lq_57, lq_59, lq_60, lq_61, lq_63, lq_94, lq_96, lq_97, lq_100, lq_102, lq_104, lq_105, lq_120, lq_122, lq_123, lq_124, lq_125, lq_126, lq_255, lq_257, lq_600, lq_1000, lq_4096, lq_65535, lq_1000000, h2, h3]
      · rw [h3, rn_stop (e := e) (p := p) (fun h => hc h.1)]
      · rw [h7, rn_stop (e := e) (p := p) (fun h => hc h.1)]
