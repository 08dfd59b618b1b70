/-! own part (pure): programs, both sides, as they grow -/
def sm (ln : Nat → Nat) : Nat → Nat
  | 0 => 0
  | n + 1 => sm ln n + ln n
theorem sm_le {ln : Nat → Nat} : ∀ n, (∀ b, b < n → ln b ≤ 8) → sm ln n ≤ 8 * n := by
  intro n
  induction n with
  | zero => intro _; exact Nat.le_refl _
  | succ n ih =>
    intro h
    have := ih (fun b hb => h b (by omega))
    have := h n (by omega)
    show sm ln n + ln n ≤ _
    omega
theorem sm_mono {ln : Nat → Nat} {a : Nat} : ∀ n, a ≤ n → sm ln a ≤ sm ln n := by
  intro n
  induction n with
  | zero => intro h; rw [show a = 0 by omega]; exact Nat.le_refl _
  | succ n ih =>
    intro h
    by_cases c : a = n + 1
    · rw [c]; exact Nat.le_refl _
    · have := ih (by omega)
      show _ ≤ sm ln n + ln n
      omega
theorem sm_lt {ln : Nat → Nat} {b n j : Nat} (h : b < n) (hj : j < ln b) : sm ln b + j + 1 ≤ sm ln n := by
  have h1 : sm ln (b + 1) ≤ sm ln n := sm_mono n (by omega)
  have h2 : sm ln (b + 1) = sm ln b + ln b := rfl
  omega
theorem sm_eq {ln ln' : Nat → Nat} : ∀ n, (∀ b, b < n → ln' b = ln b) → sm ln' n = sm ln n := by
  intro n
  induction n with
  | zero => intro _; rfl
  | succ n ih =>
    intro h
    show sm ln' n + ln' n = sm ln n + ln n
    rw [ih (fun b hb => h b (by omega)), h n (by omega)]
def LnR (oS mS : Rc) (ns lc lr : Nat) : Prop := ∃ t f g, t < 8 ∧ f ≤ g ∧ g ≤ ns ∧ oS 8 lc = nI t ∧ mS 8 lr = nI t ∧ oS 10 lc = nI f ∧ mS 9 lr = nI f ∧ oS 10 (lc + 1) = nI g ∧ mS 10 lr = nI g ∧ oS 9 lc = mS 7 lr ∧ (mS 7 lr = nM 1 ∨ ∃ a, a < 8 ∧ mS 7 lr = nI a) ∧ Hts (mS 11) f g 1
def NmR (oS mS : Rc) (b : Nat) : Prop := ∃ z, 1 ≤ z ∧ z ≤ 8 ∧ oS 5 b = nI z ∧ mS 3 b = nI z ∧ ∀ i, i < z → oS 4 (8 * b + i) = mS 6 (8 * b + i)
def TmR (oS mS : Rc) (b : Nat) : Prop := ∃ t, 1 ≤ t ∧ t ≤ 50 ∧ oS 6 b = nI t ∧ mS 4 b = nI t
def BkR (oS mS : Rc) (ln : Nat → Nat) (b : Nat) : Prop := ln b ≤ 8 ∧ mS 5 b = nI (ln b) ∧ oS 7 b = nI (sm ln b) ∧ oS 7 (b + 1) = nI (sm ln (b + 1)) ∧ NmR oS mS b ∧ TmR oS mS b
def Pg (oS mS : Rc) (nb ns : Nat) (ln : Nat → Nat) : Prop := nb ≤ 12 ∧ (∀ b, b < nb → BkR oS mS ln b) ∧ ∀ b j, b < nb → j < ln b → LnR oS mS ns (sm ln b + j) (8 * b + j)
theorem LnR_fr {oS oS' mS mS' : Rc} {ns ns' lc lr : Nat} (h : LnR oS mS ns lc lr) (hn : ns ≤ ns') (o8 : oS' 8 lc = oS 8 lc) (o9 : oS' 9 lc = oS 9 lc) (o10 : oS' 10 lc = oS 10 lc) (o10' : oS' 10 (lc + 1) = oS 10 (lc + 1)) (m7 : mS' 7 lr = mS 7 lr) (m8 : mS' 8 lr = mS 8 lr) (m9 : mS' 9 lr = mS 9 lr) (m10 : mS' 10 lr = mS 10 lr) (m11 : ∀ i, i < ns → mS' 11 i = mS 11 i) : LnR oS' mS' ns' lc lr := by
  obtain ⟨t, f, g, a1, a2, a3, a4, a5, a6, a7, a8, a9, a10, a11, a12⟩ := h
  exact ⟨t, f, g, a1, a2, by omega, o8.trans a4, m8.trans a5, o10.trans a6, m9.trans a7, o10'.trans a8, m10.trans a9, by rw [o9, m7]; exact a10, by rw [m7]; exact a11, Hts_fr a12 (fun i hi => m11 i (by omega))⟩
theorem Pg_fr {oS oS' mS mS' : Rc} {nb ns ns' : Nat} {ln : Nat → Nat} (h : Pg oS mS nb ns ln) (hn : ns ≤ ns') (o : ∀ k, 4 ≤ k → k ≤ 9 → oS' k = oS k) (o10 : ∀ i, i ≤ sm ln nb → oS' 10 i = oS 10 i) (m : ∀ k, 3 ≤ k → k ≤ 6 → mS' k = mS k) (mm : ∀ b i, b < nb → i < ln b → mS' 7 (8 * b + i) = mS 7 (8 * b + i) ∧ mS' 8 (8 * b + i) = mS 8 (8 * b + i) ∧ mS' 9 (8 * b + i) = mS 9 (8 * b + i) ∧ mS' 10 (8 * b + i) = mS 10 (8 * b + i)) (m11 : ∀ i, i < ns → mS' 11 i = mS 11 i) : Pg oS' mS' nb ns' ln := by
  obtain ⟨h1, h2, h3⟩ := h
  refine ⟨h1, fun b hb => ?_, fun b j hb hj => ?_⟩
  · obtain ⟨b1, b2, b3, b4, ⟨z, z1, z2, z3, z4, z5⟩, ⟨t, t1, t2, t3, t4⟩⟩ := h2 b hb
    refine ⟨b1, by rw [m 5 (by omega) (by omega)]; exact b2, by rw [o 7 (by omega) (by omega)]; exact b3, by rw [o 7 (by omega) (by omega)]; exact b4, ⟨z, z1, z2, by rw [o 5 (by omega) (by omega)]; exact z3, by rw [m 3 (by omega) (by omega)]; exact z4, fun i hi => by rw [o 4 (by omega) (by omega), m 6 (by omega) (by omega)]; exact z5 i hi⟩, ⟨t, t1, t2, by rw [o 6 (by omega) (by omega)]; exact t3, by rw [m 4 (by omega) (by omega)]; exact t4⟩⟩
  · have hs := sm_lt hb hj
    obtain ⟨q7, q8, q9, q10⟩ := mm b j hb hj
    exact LnR_fr (h3 b j hb hj) hn (by rw [o 8 (by omega) (by omega)]) (by rw [o 9 (by omega) (by omega)]) (o10 _ (by omega)) (o10 _ (by omega)) q7 q8 q9 q10 m11
/-- within block nb, between lines -/
def LI (nb : Nat) (oS mS : Rc) (ns : Nat) (ln : Nat → Nat) (op : Nat) : Prop := nb < 12 ∧ oS 0 0 = nI (nb + 1) ∧ mS 0 0 = nI nb ∧ Pg oS mS (nb + 1) ns ln ∧ oS 1 0 = nI (sm ln (nb + 1)) ∧ oS 10 (sm ln (nb + 1)) = nI ns ∧ SS oS mS ns ns 0 op ∧ oS 10 0 = nI 0
/-- between blocks -/
def BI (nb : Nat) (oS mS : Rc) (ns : Nat) (ln : Nat → Nat) (op : Nat) : Prop := oS 0 0 = nI nb ∧ mS 0 0 = nI nb ∧ Pg oS mS nb ns ln ∧ oS 1 0 = nI (sm ln nb) ∧ oS 10 (sm ln nb) = nI ns ∧ SS oS mS ns ns 0 op ∧ oS 10 0 = nI 0
theorem LI_m {nb ns op : Nat} {oS mS : Rc} {ln : Nat → Nat} (h : LI nb oS mS ns ln op) (k : Nat) (hk : 7 ≤ k) (hk' : k ≤ 10) (v : Int32) : LI nb oS (rs mS k (upd (mS k) (8 * nb + ln nb) v)) ns ln op := by
  obtain ⟨h1, h2, h3, h4, h5, h6, h7, h8⟩ := h
  refine ⟨h1, h2, by rw [rs_n _ _ (by omega)]; exact h3, ?_, h5, h6, ?_, h8⟩
  · refine Pg_fr h4 (Nat.le_refl _) (fun _ _ _ => rfl) (fun _ _ => rfl) (fun j _ _ => rs_n _ _ (by omega)) ?_ (fun i hi => by rw [rs_n _ _ (by omega)])
    intro b i hb hi
    have hb8 := (h4.2.1 b hb).1
    have hne : 8 * b + i ≠ 8 * nb + ln nb := by
      by_cases c : b = nb
      · subst c; omega
      · omega
    have key : ∀ j, rs mS k (upd (mS k) (8 * nb + ln nb) v) j (8 * b + i) = mS j (8 * b + i) := by
      intro j
      by_cases c : j = k
      · subst c; rw [rs_s, upd_n hne]
      · rw [rs_n _ _ c]
    exact ⟨key 7, key 8, key 9, key 10⟩
  · obtain ⟨a1, a2, a3, a4, a5, a6, a7⟩ := h7
    exact ⟨a1, by rw [rs_n _ _ (by omega)]; exact a2, fun i hi => by rw [rs_n _ _ (by omega), rs_n _ _ (by omega)]; exact a3 i hi, Hts_0 _ _, a5, by rw [rs_n _ _ (by omega)]; exact a6, a7⟩
theorem LI_op {nb ns op : Nat} {oS mS : Rc} {ln : Nat → Nat} (h : LI nb oS mS ns ln op) (ho : op < 120) : LI nb (rs oS 3 (fun _ => nI (op + 1))) (rs mS 2 (fun _ => nI (op + 1))) ns ln (op + 1) := by
  obtain ⟨h1, h2, h3, h4, h5, h6, h7, h8⟩ := h
  exact ⟨h1, h2, h3, Pg_fr h4 (Nat.le_refl _) (fun k a b => rs_n _ _ (by omega)) (fun i hi => by rw [rs_n _ _ (by omega)]) (fun k a b => rs_n _ _ (by omega)) (fun b i _ _ => by
    refine ⟨?_, ?_, ?_, ?_⟩ <;> rw [rs_n _ _ (by omega)]) (fun i hi => by rw [rs_n _ _ (by omega)]), h5, h6, SS_op h7 ho, h8⟩
def lnp (ln : Nat → Nat) (nb : Nat) : Nat → Nat := fun b => if b = nb then ln nb + 1 else ln b
theorem addLine_ok {nb ns ns' op op' t : Nat} {oS mS oS1 mS1 : Rc} {ln : Nat → Nat} {gv : Int32} (h : LI nb oS mS ns ln op) (hj : ln nb < 8) (fo : FO oS oS1 ns) (fm : FM mS mS1 ns) (hs : SS oS1 mS1 ns ns' 1 op') (ht : t < 8) (m7 : mS 7 (8 * nb + ln nb) = gv) (hg : gv = nM 1 ∨ ∃ a, a < 8 ∧ gv = nI a) (m8 : mS 8 (8 * nb + ln nb) = nI t) (m9 : mS 9 (8 * nb + ln nb) = nI ns) : ∃ oS2, fX4_addLine oS1 gv (nI t) = some oS2 ∧ LI nb oS2 (rs (rs mS1 10 (upd (mS1 10) (8 * nb + ln nb) (nI ns'))) 5 (upd (mS1 5) nb (nI (ln nb + 1)))) ns' (lnp ln nb) op' := by
  obtain ⟨h1, h2, h3, h4, h5, h6, h7, h8⟩ := h
  have hL : sm ln (nb + 1) ≤ 8 * nb + ln nb := by
    have := sm_le (ln := ln) nb (fun b hb => (h4.2.1 b (by omega)).1)
    show sm ln nb + ln nb ≤ _
    omega
  have hLd : sm ln (nb + 1) = sm ln nb + ln nb := rfl
  generalize hLc : sm ln (nb + 1) = Lc at *
  have hnn := hs.2.2.2.1.1
  have e1 : oS1 1 0 = nI Lc := by rw [fo.1 1 (by omega) (by omega) (by omega) (by omega)]; exact h5
  have e0 : oS1 0 0 = nI (nb + 1) := by rw [fo.1 0 (by omega) (by omega) (by omega) (by omega)]; exact h2
  have e2 := hs.1
  have f10 : oS1 10 = oS 10 := fo.1 10 (by omega) (by omega) (by omega) (by omega)
  have f9 : oS1 9 = oS 9 := fo.1 9 (by omega) (by omega) (by omega) (by omega)
  have f8 : oS1 8 = oS 8 := fo.1 8 (by omega) (by omega) (by omega) (by omega)
  have f7 : oS1 7 = oS 7 := fo.1 7 (by omega) (by omega) (by omega) (by omega)
  have f6 : oS1 6 = oS 6 := fo.1 6 (by omega) (by omega) (by omega) (by omega)
  have f5 : oS1 5 = oS 5 := fo.1 5 (by omega) (by omega) (by omega) (by omega)
  have f4 : oS1 4 = oS 4 := fo.1 4 (by omega) (by omega) (by omega) (by omega)
  have g : ∀ j, 3 ≤ j → j ≤ 10 → mS1 j = mS j := fun j a b => fm.1 j (by omega) (by omega) (by omega) (by omega)
  have l1 : ∀ b, b ≤ nb → sm (lnp ln nb) b = sm ln b := fun b hb => sm_eq b (fun x hx => if_neg (by omega))
  have l2 : sm (lnp ln nb) (nb + 1) = Lc + 1 := by
    show sm (lnp ln nb) nb + lnp ln nb nb = _
    rw [l1 nb (Nat.le_refl _), show lnp ln nb nb = ln nb + 1 from if_pos rfl]
    omega
  refine ⟨rs (rs (rs (rs (rs oS1 9 (upd (oS1 9) Lc gv)) 8 (upd (oS1 8) Lc (nI t))) 1 (fun _ => nI (Lc + 1))) 10 (upd (oS1 10) (Lc + 1) (nI ns'))) 7 (upd (oS1 7) (nb + 1) (nI (Lc + 1))), ?_, h1, ?_, ?_, ⟨h4.1, ?_, ?_⟩, ?_, ?_, ?_, ?_⟩
  · unfold fX4_addLine
    simp (disch := omega) only [zLet_e, zJn_e, zB1_s, zB2_s, zB3_s, zB4_s, zB5_s, zB6_s, zB7_s, zGd_in, zGd_b0, zGd_b1, rs_s, rs_n, upd_s, upd_n, ite_t, ite_f, if_true, if_false, ne_eq, not_true, not_false_iff, nI_1, nI_add, nI_mul, nI_sub, nIc, nI_leI, nI_ltI, nI_eq, nI_m1, nI_m1', nI_lt0, nI_m2, ↓lq_m1, ↓lq_m2, ↓lq_m8, ↓lq_mm, lq_0, lq_1, lq_2, lq_3, lq_4, lq_5, lq_6, lq_7, lq_8, lq_9, lq_10, lq_12, lq_16, lq_20, lq_24, lq_31, lq_32, lq_40, lq_41, lq_42, lq_43, lq_45, lq_38, lq_48, lq_50, lq_57, lq_59, lq_60, lq_61, lq_63, lq_94, lq_96, lq_97, lq_100, lq_102, lq_104, lq_105, lq_120, lq_122, lq_123, lq_124, lq_125, lq_126, lq_255, lq_257, lq_600, lq_1000, lq_4096, lq_65535, lq_1000000, e1, e2, e0]
  · simp (disch := omega) only [zLet_e, zJn_e, zB1_s, zB2_s, zB3_s, zB4_s, zB5_s, zB6_s, zB7_s, zGd_in, zGd_b0, zGd_b1, rs_s, rs_n, upd_s, upd_n, ite_t, ite_f, if_true, if_false, ne_eq, not_true, not_false_iff, e0]
  · simp (disch := omega) only [zLet_e, zJn_e, zB1_s, zB2_s, zB3_s, zB4_s, zB5_s, zB6_s, zB7_s, zGd_in, zGd_b0, zGd_b1, rs_s, rs_n, upd_s, upd_n, ite_t, ite_f, if_true, if_false, ne_eq, not_true, not_false_iff]
    rw [fm.1 0 (by omega) (by omega) (by omega) (by omega)]; exact h3
  · intro b hb
    obtain ⟨b1, b2, b3, b4, ⟨z, z1, z2, z3, z4, z5⟩, ⟨tt, t1, t2, t3, t4⟩⟩ := h4.2.1 b hb
    have nm : NmR (rs (rs (rs (rs (rs oS1 9 (upd (oS1 9) Lc gv)) 8 (upd (oS1 8) Lc (nI t))) 1 (fun _ => nI (Lc + 1))) 10 (upd (oS1 10) (Lc + 1) (nI ns'))) 7 (upd (oS1 7) (nb + 1) (nI (Lc + 1)))) (rs (rs mS1 10 (upd (mS1 10) (8 * nb + ln nb) (nI ns'))) 5 (upd (mS1 5) nb (nI (ln nb + 1)))) b := by
      refine ⟨z, z1, z2, ?_, ?_, fun i hi => ?_⟩
      · simp (disch := omega) only [zLet_e, zJn_e, zB1_s, zB2_s, zB3_s, zB4_s, zB5_s, zB6_s, zB7_s, zGd_in, zGd_b0, zGd_b1, rs_s, rs_n, upd_s, upd_n, ite_t, ite_f, if_true, if_false, ne_eq, not_true, not_false_iff, f5, z3]
      · simp (disch := omega) only [zLet_e, zJn_e, zB1_s, zB2_s, zB3_s, zB4_s, zB5_s, zB6_s, zB7_s, zGd_in, zGd_b0, zGd_b1, rs_s, rs_n, upd_s, upd_n, ite_t, ite_f, if_true, if_false, ne_eq, not_true, not_false_iff, g 3, z4]
      · have := z5 i hi
        simp (disch := omega) only [zLet_e, zJn_e, zB1_s, zB2_s, zB3_s, zB4_s, zB5_s, zB6_s, zB7_s, zGd_in, zGd_b0, zGd_b1, rs_s, rs_n, upd_s, upd_n, ite_t, ite_f, if_true, if_false, ne_eq, not_true, not_false_iff, f4, g 6, this]
    have tm : TmR (rs (rs (rs (rs (rs oS1 9 (upd (oS1 9) Lc gv)) 8 (upd (oS1 8) Lc (nI t))) 1 (fun _ => nI (Lc + 1))) 10 (upd (oS1 10) (Lc + 1) (nI ns'))) 7 (upd (oS1 7) (nb + 1) (nI (Lc + 1)))) (rs (rs mS1 10 (upd (mS1 10) (8 * nb + ln nb) (nI ns'))) 5 (upd (mS1 5) nb (nI (ln nb + 1)))) b := by
      refine ⟨tt, t1, t2, ?_, ?_⟩
      · simp (disch := omega) only [zLet_e, zJn_e, zB1_s, zB2_s, zB3_s, zB4_s, zB5_s, zB6_s, zB7_s, zGd_in, zGd_b0, zGd_b1, rs_s, rs_n, upd_s, upd_n, ite_t, ite_f, if_true, if_false, ne_eq, not_true, not_false_iff, f6, t3]
      · simp (disch := omega) only [zLet_e, zJn_e, zB1_s, zB2_s, zB3_s, zB4_s, zB5_s, zB6_s, zB7_s, zGd_in, zGd_b0, zGd_b1, rs_s, rs_n, upd_s, upd_n, ite_t, ite_f, if_true, if_false, ne_eq, not_true, not_false_iff, g 4, t4]
    by_cases c : b = nb
    · subst c
      refine ⟨?_, ?_, ?_, ?_, nm, tm⟩
      · rw [show lnp ln b b = ln b + 1 from if_pos rfl]; omega
      · rw [show lnp ln b b = ln b + 1 from if_pos rfl]; simp (disch := omega) only [zLet_e, zJn_e, zB1_s, zB2_s, zB3_s, zB4_s, zB5_s, zB6_s, zB7_s, zGd_in, zGd_b0, zGd_b1, rs_s, rs_n, upd_s, upd_n, ite_t, ite_f, if_true, if_false, ne_eq, not_true, not_false_iff]
      · rw [l1 b (Nat.le_refl _)]; simp (disch := omega) only [zLet_e, zJn_e, zB1_s, zB2_s, zB3_s, zB4_s, zB5_s, zB6_s, zB7_s, zGd_in, zGd_b0, zGd_b1, rs_s, rs_n, upd_s, upd_n, ite_t, ite_f, if_true, if_false, ne_eq, not_true, not_false_iff, f7, b3]
      · rw [l2]; simp (disch := omega) only [zLet_e, zJn_e, zB1_s, zB2_s, zB3_s, zB4_s, zB5_s, zB6_s, zB7_s, zGd_in, zGd_b0, zGd_b1, rs_s, rs_n, upd_s, upd_n, ite_t, ite_f, if_true, if_false, ne_eq, not_true, not_false_iff]
    · refine ⟨?_, ?_, ?_, ?_, nm, tm⟩
      · rw [show lnp ln nb b = ln b from if_neg c]; omega
      · rw [show lnp ln nb b = ln b from if_neg c]; simp (disch := omega) only [zLet_e, zJn_e, zB1_s, zB2_s, zB3_s, zB4_s, zB5_s, zB6_s, zB7_s, zGd_in, zGd_b0, zGd_b1, rs_s, rs_n, upd_s, upd_n, ite_t, ite_f, if_true, if_false, ne_eq, not_true, not_false_iff, g 5, b2]
      · rw [l1 b (by omega)]; simp (disch := omega) only [zLet_e, zJn_e, zB1_s, zB2_s, zB3_s, zB4_s, zB5_s, zB6_s, zB7_s, zGd_in, zGd_b0, zGd_b1, rs_s, rs_n, upd_s, upd_n, ite_t, ite_f, if_true, if_false, ne_eq, not_true, not_false_iff, f7, b3]
      · rw [l1 (b + 1) (by omega)]; simp (disch := omega) only [zLet_e, zJn_e, zB1_s, zB2_s, zB3_s, zB4_s, zB5_s, zB6_s, zB7_s, zGd_in, zGd_b0, zGd_b1, rs_s, rs_n, upd_s, upd_n, ite_t, ite_f, if_true, if_false, ne_eq, not_true, not_false_iff, f7, b4]
  · intro b j hb hj'
    have m11 : ∀ i, i < ns → (rs (rs mS1 10 (upd (mS1 10) (8 * nb + ln nb) (nI ns'))) 5 (upd (mS1 5) nb (nI (ln nb + 1)))) 11 i = mS 11 i := fun i hi => by
      have := (fm.2 i hi).1
      simp (disch := omega) only [zLet_e, zJn_e, zB1_s, zB2_s, zB3_s, zB4_s, zB5_s, zB6_s, zB7_s, zGd_in, zGd_b0, zGd_b1, rs_s, rs_n, upd_s, upd_n, ite_t, ite_f, if_true, if_false, ne_eq, not_true, not_false_iff, this]
    by_cases c : b = nb ∧ j = ln nb
    · obtain ⟨rfl, rfl⟩ := c
      rw [l1 b (Nat.le_refl _), ← hLd]
      refine ⟨t, ns, ns', ht, hnn, Nat.le_refl _, ?_, ?_, ?_, ?_, ?_, ?_, ?_, ?_, ?_⟩
      · simp (disch := omega) only [zLet_e, zJn_e, zB1_s, zB2_s, zB3_s, zB4_s, zB5_s, zB6_s, zB7_s, zGd_in, zGd_b0, zGd_b1, rs_s, rs_n, upd_s, upd_n, ite_t, ite_f, if_true, if_false, ne_eq, not_true, not_false_iff]
      · simp (disch := omega) only [zLet_e, zJn_e, zB1_s, zB2_s, zB3_s, zB4_s, zB5_s, zB6_s, zB7_s, zGd_in, zGd_b0, zGd_b1, rs_s, rs_n, upd_s, upd_n, ite_t, ite_f, if_true, if_false, ne_eq, not_true, not_false_iff, g 8, m8]
      · simp (disch := omega) only [zLet_e, zJn_e, zB1_s, zB2_s, zB3_s, zB4_s, zB5_s, zB6_s, zB7_s, zGd_in, zGd_b0, zGd_b1, rs_s, rs_n, upd_s, upd_n, ite_t, ite_f, if_true, if_false, ne_eq, not_true, not_false_iff, f10, h6]
      · simp (disch := omega) only [zLet_e, zJn_e, zB1_s, zB2_s, zB3_s, zB4_s, zB5_s, zB6_s, zB7_s, zGd_in, zGd_b0, zGd_b1, rs_s, rs_n, upd_s, upd_n, ite_t, ite_f, if_true, if_false, ne_eq, not_true, not_false_iff, g 9, m9]
      · simp (disch := omega) only [zLet_e, zJn_e, zB1_s, zB2_s, zB3_s, zB4_s, zB5_s, zB6_s, zB7_s, zGd_in, zGd_b0, zGd_b1, rs_s, rs_n, upd_s, upd_n, ite_t, ite_f, if_true, if_false, ne_eq, not_true, not_false_iff]
      · simp (disch := omega) only [zLet_e, zJn_e, zB1_s, zB2_s, zB3_s, zB4_s, zB5_s, zB6_s, zB7_s, zGd_in, zGd_b0, zGd_b1, rs_s, rs_n, upd_s, upd_n, ite_t, ite_f, if_true, if_false, ne_eq, not_true, not_false_iff]
      · simp (disch := omega) only [zLet_e, zJn_e, zB1_s, zB2_s, zB3_s, zB4_s, zB5_s, zB6_s, zB7_s, zGd_in, zGd_b0, zGd_b1, rs_s, rs_n, upd_s, upd_n, ite_t, ite_f, if_true, if_false, ne_eq, not_true, not_false_iff, g 7, m7]
      · simp (disch := omega) only [zLet_e, zJn_e, zB1_s, zB2_s, zB3_s, zB4_s, zB5_s, zB6_s, zB7_s, zGd_in, zGd_b0, zGd_b1, rs_s, rs_n, upd_s, upd_n, ite_t, ite_f, if_true, if_false, ne_eq, not_true, not_false_iff, g 7, m7]
        exact hg
      · simp (disch := omega) only [zLet_e, zJn_e, zB1_s, zB2_s, zB3_s, zB4_s, zB5_s, zB6_s, zB7_s, zGd_in, zGd_b0, zGd_b1, rs_s, rs_n, upd_s, upd_n, ite_t, ite_f, if_true, if_false, ne_eq, not_true, not_false_iff]
        exact hs.2.2.2.1
    · have hj2 : j < ln b := by
        by_cases c' : b = nb
        · subst c'
          rw [show lnp ln b b = ln b + 1 from if_pos rfl] at hj'
          omega
        · rw [show lnp ln nb b = ln b from if_neg c'] at hj'; exact hj'
      have hb8 := (h4.2.1 b hb).1
      have hlt := sm_lt hb hj2
      rw [hLc] at hlt
      rw [l1 b (by omega)]
      have hne : 8 * b + j ≠ 8 * nb + ln nb := by
        by_cases c' : b = nb
        · subst c'; omega
        · omega
      refine LnR_fr (h4.2.2 b j hb hj2) hnn ?_ ?_ ?_ ?_ ?_ ?_ ?_ ?_ m11
      · simp (disch := omega) only [zLet_e, zJn_e, zB1_s, zB2_s, zB3_s, zB4_s, zB5_s, zB6_s, zB7_s, zGd_in, zGd_b0, zGd_b1, rs_s, rs_n, upd_s, upd_n, ite_t, ite_f, if_true, if_false, ne_eq, not_true, not_false_iff, f8]
      · simp (disch := omega) only [zLet_e, zJn_e, zB1_s, zB2_s, zB3_s, zB4_s, zB5_s, zB6_s, zB7_s, zGd_in, zGd_b0, zGd_b1, rs_s, rs_n, upd_s, upd_n, ite_t, ite_f, if_true, if_false, ne_eq, not_true, not_false_iff, f9]
      · simp (disch := omega) only [zLet_e, zJn_e, zB1_s, zB2_s, zB3_s, zB4_s, zB5_s, zB6_s, zB7_s, zGd_in, zGd_b0, zGd_b1, rs_s, rs_n, upd_s, upd_n, ite_t, ite_f, if_true, if_false, ne_eq, not_true, not_false_iff, f10]
      · simp (disch := omega) only [zLet_e, zJn_e, zB1_s, zB2_s, zB3_s, zB4_s, zB5_s, zB6_s, zB7_s, zGd_in, zGd_b0, zGd_b1, rs_s, rs_n, upd_s, upd_n, ite_t, ite_f, if_true, if_false, ne_eq, not_true, not_false_iff, f10]
      · simp (disch := omega) only [zLet_e, zJn_e, zB1_s, zB2_s, zB3_s, zB4_s, zB5_s, zB6_s, zB7_s, zGd_in, zGd_b0, zGd_b1, rs_s, rs_n, upd_s, upd_n, ite_t, ite_f, if_true, if_false, ne_eq, not_true, not_false_iff, g 7]
      · simp (disch := omega) only [zLet_e, zJn_e, zB1_s, zB2_s, zB3_s, zB4_s, zB5_s, zB6_s, zB7_s, zGd_in, zGd_b0, zGd_b1, rs_s, rs_n, upd_s, upd_n, ite_t, ite_f, if_true, if_false, ne_eq, not_true, not_false_iff, g 8]
      · simp (disch := omega) only [zLet_e, zJn_e, zB1_s, zB2_s, zB3_s, zB4_s, zB5_s, zB6_s, zB7_s, zGd_in, zGd_b0, zGd_b1, rs_s, rs_n, upd_s, upd_n, ite_t, ite_f, if_true, if_false, ne_eq, not_true, not_false_iff, g 9]
      · simp (disch := omega) only [zLet_e, zJn_e, zB1_s, zB2_s, zB3_s, zB4_s, zB5_s, zB6_s, zB7_s, zGd_in, zGd_b0, zGd_b1, rs_s, rs_n, upd_s, upd_n, ite_t, ite_f, if_true, if_false, ne_eq, not_true, not_false_iff, g 10]
  · rw [l2]; simp (disch := omega) only [zLet_e, zJn_e, zB1_s, zB2_s, zB3_s, zB4_s, zB5_s, zB6_s, zB7_s, zGd_in, zGd_b0, zGd_b1, rs_s, rs_n, upd_s, upd_n, ite_t, ite_f, if_true, if_false, ne_eq, not_true, not_false_iff]
  · rw [l2]; simp (disch := omega) only [zLet_e, zJn_e, zB1_s, zB2_s, zB3_s, zB4_s, zB5_s, zB6_s, zB7_s, zGd_in, zGd_b0, zGd_b1, rs_s, rs_n, upd_s, upd_n, ite_t, ite_f, if_true, if_false, ne_eq, not_true, not_false_iff]
  · obtain ⟨a1, a2, a3, a4, a5, a6, a7⟩ := hs
    refine ⟨?_, ?_, ?_, Hts_0 _ _, ?_, ?_, a7⟩
    · simp (disch := omega) only [zLet_e, zJn_e, zB1_s, zB2_s, zB3_s, zB4_s, zB5_s, zB6_s, zB7_s, zGd_in, zGd_b0, zGd_b1, rs_s, rs_n, upd_s, upd_n, ite_t, ite_f, if_true, if_false, ne_eq, not_true, not_false_iff, a1]
    · simp (disch := omega) only [zLet_e, zJn_e, zB1_s, zB2_s, zB3_s, zB4_s, zB5_s, zB6_s, zB7_s, zGd_in, zGd_b0, zGd_b1, rs_s, rs_n, upd_s, upd_n, ite_t, ite_f, if_true, if_false, ne_eq, not_true, not_false_iff, a2]
    · intro i hi
      have := a3 i hi
      simp (disch := omega) only [zLet_e, zJn_e, zB1_s, zB2_s, zB3_s, zB4_s, zB5_s, zB6_s, zB7_s, zGd_in, zGd_b0, zGd_b1, rs_s, rs_n, upd_s, upd_n, ite_t, ite_f, if_true, if_false, ne_eq, not_true, not_false_iff]
      exact this
    · simp (disch := omega) only [zLet_e, zJn_e, zB1_s, zB2_s, zB3_s, zB4_s, zB5_s, zB6_s, zB7_s, zGd_in, zGd_b0, zGd_b1, rs_s, rs_n, upd_s, upd_n, ite_t, ite_f, if_true, if_false, ne_eq, not_true, not_false_iff, a5]
    · simp (disch := omega) only [zLet_e, zJn_e, zB1_s, zB2_s, zB3_s, zB4_s, zB5_s, zB6_s, zB7_s, zGd_in, zGd_b0, zGd_b1, rs_s, rs_n, upd_s, upd_n, ite_t, ite_f, if_true, if_false, ne_eq, not_true, not_false_iff, a6]
  · simp (disch := omega) only [zLet_e, zJn_e, zB1_s, zB2_s, zB3_s, zB4_s, zB5_s, zB6_s, zB7_s, zGd_in, zGd_b0, zGd_b1, rs_s, rs_n, upd_s, upd_n, ite_t, ite_f, if_true, if_false, ne_eq, not_true, not_false_iff, f10, h8]
