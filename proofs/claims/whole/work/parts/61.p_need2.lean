/-! own part (pure): the reference's needs of a block -/
theorem code_b {mY mP : Rc} {b ln NN t : Nat} (hN : 1000 ≤ NN) (hb : b < 12) (hl8 : ln ≤ 8) (m5 : mP 5 b = nI ln) (m4 : mP 4 b = nI t) (hL : ∀ j, j < ln → LW mP (8 * b + j)) : fX10_codeTicks NN mY mP (nI b) = some (sw (cdW (mY 4 0) mP) (8 * b) ln * nI t) := by
  unfold fX10_codeTicks
  have key : ∀ (n l : Nat) (x : Int32), 8 * b + ln - l < n → 8 * b ≤ l → l ≤ 8 * b + ln → fX10_codeTicks_L7 mY mP (nI b) NN (fun x => some (x * nI t)) n x (nI l) = some ((x + sw (cdW (mY 4 0) mP) l (8 * b + ln - l)) * nI t) := by
    intro n
    induction n with
    | zero => intro l x h; omega
    | succ n ih =>
      intro l x hn h1 h2
      rw [fX10_codeTicks_L7_s]
      by_cases c : l < 8 * b + ln
      · rw [swc c, ← Int32.add_assoc]
        refine Eq.trans ?_ (ih (l + 1) _ (by omega) (by omega) (by omega))
        obtain ⟨t, f, g, w1, w2, w3, w4, w5, w6, w7, w8, w9⟩ := hL (l - 8 * b) (by omega)
        rw [show 8 * b + (l - 8 * b) = l by omega] at w4 w5 w6 w7
        obtain ⟨q1, q2⟩ := lFG w5 w6 w2 w3
        unfold cdW
        rw [q1, q2]
        by_cases ca : mP 7 l = (-1 : Int32)
        · simp (disch := omega) only [↓zLet_e, ↓zJn_e, zGd_in, nIc, m5, n8b, nI_le_f, ↓reduceIte, ca, w5, nI_1]
          rw [code_l (by omega) w6 w3 NN f _ (by omega) w2, Int32.add_assoc]
        · simp (disch := omega) only [↓zLet_e, ↓zJn_e, zGd_in, nIc, m5, n8b, nI_le_f, ↓reduceIte, ca, w5, nI_1]
          rw [code_l (by omega) w6 w3 NN f _ (by omega) w2, Int32.add_assoc]
      · have : l = 8 * b + ln := by omega
        subst this
        rw [sw0, Int32.add_zero]
        simp (disch := omega) only [zGd_in, nIc, m5, n8b, nI_le_t, ↓reduceIte]
  have := key NN (8 * b) 0 (by omega) (by omega) (by omega)
  rw [show 8 * b + ln - 8 * b = ln by omega, Int32.zero_add] at this
  simp (disch := omega) only [zLet_e, zJn_e, lq_8, nI_mul, zGd_in, nIc, m4]
  exact this
theorem gate_b {mY mP : Rc} {b ln NN : Nat} (hN : 1000 ≤ NN) (hb : b < 12) (hl8 : ln ≤ 8) (m5 : mP 5 b = nI ln) (hL : ∀ j, j < ln → LW mP (8 * b + j)) : fX10_gatesFor NN mY mP (nI b) = some (sw (gtW (mY 4 0) mP) (8 * b) ln) := by
  unfold fX10_gatesFor
  have key : ∀ (n l : Nat) (x : Int32), 8 * b + ln - l < n → 8 * b ≤ l → l ≤ 8 * b + ln → fX10_gatesFor_L7 mY mP (nI b) NN (fun x => some x) n x (nI l) = some (x + sw (gtW (mY 4 0) mP) l (8 * b + ln - l)) := by
    intro n
    induction n with
    | zero => intro l x h; omega
    | succ n ih =>
      intro l x hn h1 h2
      rw [fX10_gatesFor_L7_s]
      by_cases c : l < 8 * b + ln
      · rw [swc c, ← Int32.add_assoc]
        refine Eq.trans ?_ (ih (l + 1) _ (by omega) (by omega) (by omega))
        obtain ⟨t, f, g, w1, w2, w3, w4, w5, w6, w7, w8, w9⟩ := hL (l - 8 * b) (by omega)
        rw [show 8 * b + (l - 8 * b) = l by omega] at w4 w5 w6 w7
        obtain ⟨q1, q2⟩ := lFG w5 w6 w2 w3
        unfold gtW
        rw [q1, q2]
        by_cases ca : mP 7 l = (-1 : Int32)
        · simp (disch := omega) only [↓zLet_e, ↓zJn_e, zGd_in, nIc, m5, n8b, nI_le_f, ↓reduceIte, ca, w5, nI_1]
          rw [gate_l (by omega) w6 w3 NN f _ (by omega) w2, Int32.add_assoc]
        · simp (disch := omega) only [↓zLet_e, ↓zJn_e, zGd_in, nIc, m5, n8b, nI_le_f, ↓reduceIte, ca, w5, nI_1, gatesOf10, zB1_s]
          rw [gate_l (by omega) w6 w3 NN f _ (by omega) w2, Int32.add_assoc]
      · have : l = 8 * b + ln := by omega
        subst this
        rw [sw0, Int32.add_zero]
        simp (disch := omega) only [zGd_in, nIc, m5, n8b, nI_le_t, ↓reduceIte]
  have := key NN (8 * b) 0 (by omega) (by omega) (by omega)
  rw [show 8 * b + ln - 8 * b = ln by omega, Int32.zero_add] at this
  simp only [zLet_e, zJn_e, lq_8, nI_mul]
  exact this
theorem reads_b {mP : Rc} {b ln NN : Nat} (hN : 1000 ≤ NN) (hb : b < 12) (hl8 : ln ≤ 8) (m5 : mP 5 b = nI ln) (hL : ∀ j, j < ln → LW mP (8 * b + j)) : fX10_readsOf NN mP (nI b) = some (rdF mP (8 * b) ln 0 0).1 := by
  unfold fX10_readsOf
  have key : ∀ (n l : Nat) (r w : Int32), 8 * b + ln - l < n → 8 * b ≤ l → l ≤ 8 * b + ln → fX10_readsOf_L10 mP (nI b) NN (fun x => some x) n r w (nI l) = some (rdF mP l (8 * b + ln - l) r w).1 := by
    intro n
    induction n with
    | zero => intro l r w h; omega
    | succ n ih =>
      intro l r w hn h1 h2
      rw [fX10_readsOf_L10_s]
      by_cases c : l < 8 * b + ln
      · rw [rdFc c]
        refine Eq.trans ?_ (ih (l + 1) _ _ (by omega) (by omega) (by omega))
        obtain ⟨t, f, g, w1, w2, w3, w4, w5, w6, w7, w8, w9⟩ := hL (l - 8 * b) (by omega)
        rw [show 8 * b + (l - 8 * b) = l by omega] at w4 w5 w6 w7
        obtain ⟨q1, q2⟩ := lFG w5 w6 w2 w3
        unfold asW
        rw [q1, q2]
        simp (disch := omega) only [↓zLet_e, ↓zJn_e, zGd_in, nIc, m5, n8b, nI_le_f, ↓reduceIte, w5]
        rw [read_l (by omega) w6 w3 NN f _ (by omega) w2, Int32.zero_or]
        by_cases ca : mP 7 l = (-1 : Int32)
        · simp (disch := omega) only [↓reduceIte, ca, nI_1]
        · simp (disch := omega) only [↓reduceIte, ca, nI_1, Int32.or_zero]
      · have : l = 8 * b + ln := by omega
        subst this
        rw [rdF0]
        simp (disch := omega) only [zGd_in, nIc, m5, n8b, nI_le_t, ↓reduceIte]
  have := key NN (8 * b) 0 0 (by omega) (by omega) (by omega)
  rw [show 8 * b + ln - 8 * b = ln by omega] at this
  simp only [zLet_e, zJn_e, lq_8, nI_mul]
  exact this
theorem writes_b {mP : Rc} {b ln NN : Nat} (hN : 1000 ≤ NN) (hb : b < 12) (hl8 : ln ≤ 8) (m5 : mP 5 b = nI ln) : fX10_writesOf NN mP (nI b) = some (so (wrW mP) (8 * b) ln) := by
  unfold fX10_writesOf
  have key : ∀ (n l : Nat) (r : Int32), 8 * b + ln - l < n → 8 * b ≤ l → l ≤ 8 * b + ln → fX10_writesOf_L7 mP (nI b) (fun x => some x) n r (nI l) = some (r ||| so (wrW mP) l (8 * b + ln - l)) := by
    intro n
    induction n with
    | zero => intro l r h; omega
    | succ n ih =>
      intro l r hn h1 h2
      rw [fX10_writesOf_L7_s]
      by_cases c : l < 8 * b + ln
      · rw [soc c, ← Int32.or_assoc]
        refine Eq.trans ?_ (ih (l + 1) _ (by omega) (by omega) (by omega))
        unfold wrW
        simp (disch := omega) only [↓zLet_e, zGd_in, nIc, m5, n8b, nI_le_f, ↓reduceIte, nI_1]
      · have : l = 8 * b + ln := by omega
        subst this
        rw [so0, Int32.or_zero]
        simp (disch := omega) only [zGd_in, nIc, m5, n8b, nI_le_t, ↓reduceIte]
  have := key NN (8 * b) 0 (by omega) (by omega) (by omega)
  rw [show 8 * b + ln - 8 * b = ln by omega, Int32.zero_or] at this
  simp only [zLet_e, zJn_e, lq_8, nI_mul]
  exact this
theorem sumDep10 {mY mU mP : Rc} {lr NN f g : Nat} {dp : Ar} (hN : 1000 ≤ NN) (hlr : lr < 96) (m9 : mP 9 lr = nI f) (m10 : mP 10 lr = nI g) (hf : f ≤ g) (hg : g ≤ 600) (hh : Hts (mP 11) f g 1) (hv : ∀ i, i < g → mP 11 i = nI 9 → ∃ v, v < 8 ∧ mP 12 i = nI v) (ha : ∀ i, i < 8 → mU 24 i = dp i) : ∃ mU', fX10_sumDepth NN mY mU mP (nI lr) = some ((ev (FD (mY 4 0) dp) mP f (g - f) []).headD 0, mU') ∧ mU' 24 = mU 24 := by
  obtain ⟨mU', f1, f2, f3, f4⟩ := sumD10 (mY := mY) hlr m10 hg hv NN f 0 [] mU (by omega) hf (HS_of hh) rfl (by omega) trivial
  rw [ev_agree ha hv (g - f) f [] (by omega)] at f3 f4
  unfold fX10_sumDepth
  refine ⟨mU', ?_, f2⟩
  simp (disch := omega) only [zLet_e, zJn_e, zGd_in, nIc, m9, lq_0]
  rw [f1]
  obtain ⟨a, t, e⟩ := one_of (st := ev (FD (mY 4 0) dp) mP f (g - f) []) (by omega)
  rw [e] at f3 f4 ⊢
  have ht : t = [] := List.length_eq_zero_iff.mp (by have : t.length + 1 = 1 := f4; omega)
  subst ht
  have : mU' 23 0 = a := f3.1
  rw [this]
  rfl
theorem depth_z : ∀ (n i : Nat) (mU : Rc), 8 - i < n → i ≤ 8 → (∀ x, x < i → mU 24 x = 0) → ∃ mU', (∀ J, fX10_depthFor_L2 J n (nI i) mU = J mU') ∧ ∀ x, x < 8 → mU' 24 x = 0 := by
  intro n
  induction n with
  | zero => intro i mU h; omega
  | succ n ih =>
    intro i mU h1 h2 h3
    by_cases c : i < 8
    · obtain ⟨mU', e1, e2⟩ := ih (i + 1) (rs mU 24 (upd (mU 24) i (nI 0))) (by omega) (by omega) (fun x hx => by
        by_cases c' : x = i
        · subst c'; rw [rs_s, upd_s]; rfl
        · rw [rs_s, upd_n c']; exact h3 x (by omega))
      refine ⟨mU', fun J => ?_, e2⟩
      rw [fX10_depthFor_L2_s]
      simp (disch := omega) only [↓zLet_e, ↓zJn_e, ↓reduceIte, zB1_s, zB2_s, zB3_s, zB4_s, zB5_s, zB6_s, zB7_s, zGd_in, zGd_b0, zGd_b1, rs_s, rs_n, upd_s, upd_n, ne_eq, not_true, not_false_iff, nI_1, nI_add, nI_mul, nI_sub, nIc, nI_le_t, nI_le_f, nI_lt_t, nI_lt_f, nI_eq_t, nI_eq_f, nI_m1, nI_m1', nI_m2, nI_lt0, ↓lq_m1, ↓lq_m2, ↓lq_m8, ↓lq_mm, lq_0, lq_1, lq_2, lq_3, lq_4, lq_5, lq_6, lq_7, lq_8, lq_9, lq_10, lq_12, lq_16, lq_20, lq_24, lq_31, lq_32, lq_40, lq_41, lq_42, lq_43, lq_45, lq_38, lq_48, lq_50, lq_57, lq_59, lq_60, lq_61, lq_63, lq_94, lq_96, lq_97, lq_100, lq_102, lq_104, lq_105, lq_120, lq_122, lq_123, lq_124, lq_125, lq_126, lq_255, lq_257, lq_600, lq_1000, lq_4096, lq_65535, lq_1000000]
      exact e1 J
    · refine ⟨mU, fun J => ?_, fun x hx => h3 x (by omega)⟩
      rw [fX10_depthFor_L2_s]
      simp (disch := omega) only [↓zLet_e, ↓zJn_e, ↓reduceIte, zB1_s, zB2_s, zB3_s, zB4_s, zB5_s, zB6_s, zB7_s, zGd_in, zGd_b0, zGd_b1, rs_s, rs_n, upd_s, upd_n, ne_eq, not_true, not_false_iff, nI_1, nI_add, nI_mul, nI_sub, nIc, nI_le_t, nI_le_f, nI_lt_t, nI_lt_f, nI_eq_t, nI_eq_f, nI_m1, nI_m1', nI_m2, nI_lt0, ↓lq_m1, ↓lq_m2, ↓lq_m8, ↓lq_mm, lq_0, lq_1, lq_2, lq_3, lq_4, lq_5, lq_6, lq_7, lq_8, lq_9, lq_10, lq_12, lq_16, lq_20, lq_24, lq_31, lq_32, lq_40, lq_41, lq_42, lq_43, lq_45, lq_38, lq_48, lq_50, lq_57, lq_59, lq_60, lq_61, lq_63, lq_94, lq_96, lq_97, lq_100, lq_102, lq_104, lq_105, lq_120, lq_122, lq_123, lq_124, lq_125, lq_126, lq_255, lq_257, lq_600, lq_1000, lq_4096, lq_65535, lq_1000000]
theorem dl_n {mY mP mU mU1 : Rc} {J : Int32 → Rc → Option (Int32 × Rc)} {b ln l t NN n : Nat} {m d0 : Int32} (hb : b < 12) (hl8 : ln ≤ 8) (m5 : mP 5 b = nI ln) (c : l < 8 * b + ln) (s1 : fX10_sumDepth NN mY mU mP (nI l) = some (d0, mU1)) (w4 : mP 8 l = nI t) (w1 : t < 8) (ca : mP 7 l = (-1 : Int32)) : fX10_depthFor_L28 mY mP (nI b) NN J (n + 1) m (nI l) mU = fX10_depthFor_L28 mY mP (nI b) NN J n (imax m d0) (nI (l + 1)) (rs mU1 24 (upd (mU1 24) t d0)) := by
  rw [fX10_depthFor_L28_s]
  have e1 : (8 : Int32) * nI b + mP 5 (nI b).toNatClampNeg = nI (8 * b + ln) := by rw [nIc (by omega), m5, n8b]
  have e2 : ¬ nI (8 * b + ln) ≤ nI l := nI_ge (by omega) (by omega)
  have ca' : mP 7 (nI l).toNatClampNeg = (-1 : Int32) := by rw [nIc (by omega)]; exact ca
  have w4' : mP 8 (nI l).toNatClampNeg = nI t := by rw [nIc (by omega)]; exact w4
  rw [e1, if_neg e2, s1, zB2_s, w4', zLet_e, zJn_e, if_pos ca']
  simp (disch := omega) only [zGd_in, nIc, zLet_e, imax_e, nI_1]
theorem dl_i {mY mP mU mU1 : Rc} {J : Int32 → Rc → Option (Int32 × Rc)} {b ln l t a NN n : Nat} {m d0 : Int32} (hb : b < 12) (hl8 : ln ≤ 8) (m5 : mP 5 b = nI ln) (c : l < 8 * b + ln) (s1 : fX10_sumDepth NN mY mU mP (nI l) = some (d0, mU1)) (w4 : mP 8 l = nI t) (w1 : t < 8) (ca : ¬ mP 7 l = (-1 : Int32)) (w7 : mP 7 l = nI a) (a8 : a < 8) : fX10_depthFor_L28 mY mP (nI b) NN J (n + 1) m (nI l) mU = fX10_depthFor_L28 mY mP (nI b) NN J n (imax m (imax d0 (imax (mU1 24 a) (mU1 24 t)) + dO (mY 4 0) 8)) (nI (l + 1)) (rs mU1 24 (upd (mU1 24) t (imax d0 (imax (mU1 24 a) (mU1 24 t)) + dO (mY 4 0) 8))) := by
  have h8 := depthOf10 mY (8 : Int32)
  generalize dO (mY 4 0) 8 = d8 at *
  rw [fX10_depthFor_L28_s]
  have e1 : (8 : Int32) * nI b + mP 5 (nI b).toNatClampNeg = nI (8 * b + ln) := by rw [nIc (by omega), m5, n8b]
  have e2 : ¬ nI (8 * b + ln) ≤ nI l := nI_ge (by omega) (by omega)
  have ca' : ¬ mP 7 (nI l).toNatClampNeg = (-1 : Int32) := by rw [nIc (by omega)]; exact ca
  have w4' : mP 8 (nI l).toNatClampNeg = nI t := by rw [nIc (by omega)]; exact w4
  have w7' : mP 7 (nI l).toNatClampNeg = nI a := by rw [nIc (by omega)]; exact w7
  rw [e1, if_neg e2, s1, zB2_s, w4', zLet_e, zJn_e, if_neg ca', w7', h8]
  simp (disch := omega) only [zGd_in, nIc, zLet_q, imax_e, nI_1, zB1_q]
theorem dl_e {mY mP mU : Rc} {J : Int32 → Rc → Option (Int32 × Rc)} {b ln NN n : Nat} {m : Int32} (hb : b < 12) (hl8 : ln ≤ 8) (m5 : mP 5 b = nI ln) : fX10_depthFor_L28 mY mP (nI b) NN J (n + 1) m (nI (8 * b + ln)) mU = J m mU := by
  rw [fX10_depthFor_L28_s]
  simp (disch := omega) only [zGd_in, nIc, m5, n8b, nI_le_t, ↓reduceIte]
theorem depth_k {mY mP : Rc} {b ln NN : Nat} (hN : 1000 ≤ NN) (hb : b < 12) (hl8 : ln ≤ 8) (m5 : mP 5 b = nI ln) (hL : ∀ j, j < ln → LW mP (8 * b + j)) : ∀ (n l : Nat) (m : Int32) (mU : Rc) (dp : Ar), 8 * b + ln - l < n → 8 * b ≤ l → l ≤ 8 * b + ln → (∀ i, i < 8 → mU 24 i = dp i) → ∃ mU', fX10_depthFor_L28 mY mP (nI b) NN (fun x u => some (x, u)) n m (nI l) mU = some ((dpF (mY 4 0) mP l (8 * b + ln - l) dp m).2, mU') := by
  intro n
  induction n with
  | zero => intro l m mU dp h; omega
  | succ n ih =>
    intro l m mU dp hn h1 h2 ha
    by_cases c : l < 8 * b + ln
    · rw [dpFc c]
      obtain ⟨t, f, g, w1, w2, w3, w4, w5, w6, w7, w8, w9⟩ := hL (l - 8 * b) (by omega)
      rw [show 8 * b + (l - 8 * b) = l by omega] at w4 w5 w6 w7
      obtain ⟨q1, q2⟩ := lFG w5 w6 w2 w3
      obtain ⟨mU1, s1, s2⟩ := sumDep10 (mY := mY) (NN := NN) hN (by omega) w5 w6 w2 w3 w8 w9 ha
      have hd : dLn (mY 4 0) mP dp l = if mP 7 l = (-1 : Int32) then (ev (FD (mY 4 0) dp) mP f (g - f) []).headD 0 else imax ((ev (FD (mY 4 0) dp) mP f (g - f) []).headD 0) (imax (dp (mP 7 l).toNatClampNeg) (dp (mP 8 l).toNatClampNeg)) + dO (mY 4 0) 8 := by
        unfold dLn; rw [q1, q2]
      generalize hd0 : dLn (mY 4 0) mP dp l = d at *
      generalize (ev (FD (mY 4 0) dp) mP f (g - f) []).headD 0 = d0 at *
      have e8 : (mP 8 l).toNatClampNeg = t := by rw [w4]; exact nIc (by omega)
      rw [e8] at hd ⊢
      obtain ⟨mU', r⟩ := ih (l + 1) (imax m d) (rs mU1 24 (upd (mU1 24) t d)) (upd dp t d) (by omega) (by omega) (by omega) (fun i hi => by
        rw [rs_s, s2]
        by_cases ci : i = t
        · subst ci; rw [upd_s, upd_s]
        · rw [upd_n ci, upd_n ci]; exact ha i hi)
      refine ⟨mU', Eq.trans ?_ r⟩
      rcases w7 with w7 | ⟨a, a8, w7⟩
      · have ca : mP 7 l = (-1 : Int32) := w7
        rw [if_pos ca] at hd
        rw [hd]
        exact dl_n hb hl8 m5 c s1 w4 w1 ca
      · have ca : ¬ mP 7 l = (-1 : Int32) := by rw [w7]; exact fun h => (nI_m1 (a := a) (by omega)).mp h
        rw [if_neg ca, w7, nIc (by omega), ← ha a a8, ← ha t w1] at hd
        rw [← s2] at hd
        rw [hd]
        exact dl_i hb hl8 m5 c s1 w4 w1 ca w7 a8
    · have : l = 8 * b + ln := by omega
      subst this
      rw [dpF0]
      exact ⟨mU, dl_e hb hl8 m5⟩
theorem depth_b {mY mP mU : Rc} {b ln NN : Nat} (hN : 1000 ≤ NN) (hb : b < 12) (hl8 : ln ≤ 8) (m5 : mP 5 b = nI ln) (hL : ∀ j, j < ln → LW mP (8 * b + j)) : ∃ mU', fX10_depthFor NN mY mU mP (nI b) = some ((dpF (mY 4 0) mP (8 * b) ln (fun _ => 0) 0).2, mU') := by
  unfold fX10_depthFor
  obtain ⟨mU1, z1, z2⟩ := depth_z NN 0 mU (by omega) (by omega) (fun x hx => by omega)
  obtain ⟨mU2, k1⟩ := depth_k (mY := mY) hN hb hl8 m5 hL NN (8 * b) 0 mU1 (fun _ => 0) (by omega) (by omega) (by omega) z2
  rw [show 8 * b + ln - 8 * b = ln by omega] at k1
  refine ⟨mU2, ?_⟩
  rw [lq_8, nI_mul]
  exact (z1 _).trans k1
