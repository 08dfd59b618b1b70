/-! own part (pure): blocks done, whole -/
theorem ev_agreeW {M : Int32} {mP : Rc} {dp dp' : Ar} (ha : ∀ i, i < 8 → dp i = dp' i) {g : Nat} (hv : ∀ i, i < g → mP 11 i = nI 9 → ∃ v, v < 8 ∧ mP 12 i = nI v) : ∀ (n k : Nat) (st : List Int32), k + n ≤ g → ev (FW M dp) mP k n st = ev (FW M dp') mP k n st := by
  intro n
  induction n with
  | zero => intro k st h; rfl
  | succ n ih =>
    intro k st h
    show ev (FW M dp) mP (k + 1) n (FW M dp (mP 11 k) (mP 12 k) st) = ev (FW M dp') mP (k + 1) n (FW M dp' (mP 11 k) (mP 12 k) st)
    have : FW M dp (mP 11 k) (mP 12 k) st = FW M dp' (mP 11 k) (mP 12 k) st := by
      unfold FW
      by_cases c : mP 11 k = nI 9
      · obtain ⟨v, v8, e⟩ := hv k (by omega) c
        rw [if_pos c, if_pos c, e, nIc (by omega), ha v v8]
      · rw [if_neg c, if_neg c]
    rw [this]
    exact ih (k + 1) _ (by omega)
theorem worthJ {oP mP oQ mY mU : Rc} {oO mR : Ar} {lc l f g ns NN : Nat} (hN : 1000 ≤ NN) (hlc : lc < 96) (hl : l < 96) (hns : ns ≤ 600) (hst : StR oP mP ns) (hf : f ≤ g) (hg : g ≤ ns) (a6 : oP 10 lc = nI f) (a7 : mP 9 l = nI f) (a8 : oP 10 (lc + 1) = nI g) (a9 : mP 10 l = nI g) (a12 : Hts (mP 11) f g 1) (ha : ∀ i, i < 8 → oO i = mR i) : ∃ v oQ' mU', fX1_worth NN oP oQ oO (nI lc) (lw10 mY) = some (v, oQ') ∧ fX10_worked NN mY mU mP mR (nI l) = some (v, mU') := by
  have hv := PG_v hst hg
  obtain ⟨oQ1, r1, r3, r4, r5⟩ := sumW6 (M := lw10 mY) (oO := oO) hlc a8 (by omega) (StR_le hst hg) NN f 0 [] (rs oQ 1 (fun _ => nI 0)) (by omega) hf (HS_of a12) rfl (by omega) trivial (by simp (disch := omega) only [zLet_e, zJn_e, zB1_s, zB2_s, zB3_s, zB4_s, zB5_s, zB6_s, zB7_s, zGd_in, zGd_b0, zGd_b1, rs_s, rs_n, upd_s, upd_n, ite_t, ite_f, if_true, if_false, ne_eq, not_true, not_false_iff])
  obtain ⟨mU1, q1, q3, q4⟩ := sumW10 (mY := mY) (mR := mR) hl a9 (by omega) hv NN f 0 [] mU (by omega) hf (HS_of a12) rfl (by omega) trivial
  rw [← ev_agreeW ha hv (g - f) f [] (by omega)] at q3 q4
  obtain ⟨a, t, e⟩ := one_of (st := ev (FW (lw10 mY) oO) mP f (g - f) []) (by omega)
  rw [e] at r3 r5 q3
  have ht : t = [] := List.length_eq_zero_iff.mp (by have : t.length + 1 = 1 := r5; omega)
  subst ht
  obtain ⟨oQ2, p1, p2, p3⟩ := pop6 r3 (by rw [r4]; rfl) (by decide)
  refine ⟨a, oQ2, mU1, ?_, ?_⟩
  · unfold fX1_worth fX3_empty
    simp (disch := omega) only [↓zLet_q, ↓zJn_q, zB1_q, zGd_in, nIc, a6, lr_0]
    rw [r1]
    simp only [p1, zB2_q]
  · unfold fX10_worked
    simp (disch := omega) only [↓zLet_q, ↓zJn_q, zGd_in, nIc, a7, lr_0]
    rw [q1]
    have : mU1 23 0 = a := q3.1
    rw [this]
theorem d8_go {oP oQ oQ1 : Rc} {oO : Ar} {M v : Int32} {J : Rc → Ar → Option (Rc × Ar)} {NN n b lc e t : Nat} (hb : b < 12) (o7 : oP 7 (b + 1) = nI e) (hl : lc < e) (he : e ≤ 96) (hg : oP 9 lc = (-1 : Int32) ∨ ∃ a, a < 8 ∧ oP 9 lc = nI a ∧ ¬ oO a = 0) (a4 : oP 8 lc = nI t) (ht : t < 8) (hw : fX1_worth NN oP oQ oO (nI lc) M = some (v, oQ1)) : fX1_doBlock_L8 oP (nI b) M NN J (n + 1) (nI lc) oQ oO = fX1_doBlock_L8 oP (nI b) M NN J n (nI (lc + 1)) oQ1 (upd oO t v) := by
  rw [fX1_doBlock_L8_s]
  rcases hg with hg | ⟨a, a8, hg, h0⟩
  · simp (disch := omega) only [↓zLet_q, ↓zJn_q, zGd_in, nIc, nI_1, o7, nI_le_f, ↓reduceIte, hg, hw, zB2_q, a4]
  · have h1 : ¬ nI a = (-1 : Int32) := fun h => (nI_m1 (a := a) (by omega)).mp h
    simp (disch := omega) only [↓zLet_q, ↓zJn_q, zGd_in, nIc, nI_1, o7, nI_le_f, ↓reduceIte, hg, h1, h0, hw, zB2_q, a4]
theorem d8_no {oP oQ : Rc} {oO : Ar} {M : Int32} {J : Rc → Ar → Option (Rc × Ar)} {NN n b lc e a : Nat} (hb : b < 12) (o7 : oP 7 (b + 1) = nI e) (hl : lc < e) (he : e ≤ 96) (a8 : a < 8) (hg : oP 9 lc = nI a) (h0 : oO a = 0) : fX1_doBlock_L8 oP (nI b) M NN J (n + 1) (nI lc) oQ oO = fX1_doBlock_L8 oP (nI b) M NN J n (nI (lc + 1)) oQ oO := by
  have h1 : ¬ nI a = (-1 : Int32) := fun h => (nI_m1 (a := a) (by omega)).mp h
  rw [fX1_doBlock_L8_s]
  simp (disch := omega) only [↓zLet_q, ↓zJn_q, zGd_in, nIc, nI_1, o7, nI_le_f, ↓reduceIte, hg, h1, h0]
theorem d8_end {oP oQ : Rc} {oO : Ar} {M : Int32} {J : Rc → Ar → Option (Rc × Ar)} {NN n b e : Nat} (hb : b < 12) (o7 : oP 7 (b + 1) = nI e) (he : e ≤ 96) : fX1_doBlock_L8 oP (nI b) M NN J (n + 1) (nI e) oQ oO = J oQ oO := by
  rw [fX1_doBlock_L8_s]
  simp (disch := omega) only [zGd_in, nIc, nI_1, o7, nI_le_t, ↓reduceIte]
theorem d5_go {mY mP mU mU1 : Rc} {mR : Ar} {v : Int32} {J : Rc → Ar → Option (Rc × Ar)} {NN n b l ln t : Nat} (hb : b < 12) (m5 : mP 5 b = nI ln) (h8 : ln ≤ 8) (hl : l < 8 * b + ln) (hg : mP 7 l = (-1 : Int32) ∨ ∃ a, a < 8 ∧ mP 7 l = nI a ∧ ¬ mR a = 0) (a4 : mP 8 l = nI t) (ht : t < 8) (hw : fX10_worked NN mY mU mP mR (nI l) = some (v, mU1)) : fX10_does_L5 mY mP (nI b) NN J (n + 1) (nI l) mU mR = fX10_does_L5 mY mP (nI b) NN J n (nI (l + 1)) mU1 (upd mR t v) := by
  rw [fX10_does_L5_s]
  rcases hg with hg | ⟨a, a8, hg, h0⟩
  · simp (disch := omega) only [↓zLet_q, ↓zJn_q, zGd_in, nIc, nI_1, m5, n8b, nI_le_f, ↓reduceIte, hg, hw, zB2_q, a4]
  · have h1 : ¬ nI a = (-1 : Int32) := fun h => (nI_m1 (a := a) (by omega)).mp h
    simp (disch := omega) only [↓zLet_q, ↓zJn_q, zGd_in, nIc, nI_1, m5, n8b, nI_le_f, ↓reduceIte, hg, h1, h0, hw, zB2_q, a4]
theorem d5_no {mY mP mU : Rc} {mR : Ar} {J : Rc → Ar → Option (Rc × Ar)} {NN n b l ln a : Nat} (hb : b < 12) (m5 : mP 5 b = nI ln) (h8 : ln ≤ 8) (hl : l < 8 * b + ln) (a8 : a < 8) (hg : mP 7 l = nI a) (h0 : mR a = 0) : fX10_does_L5 mY mP (nI b) NN J (n + 1) (nI l) mU mR = fX10_does_L5 mY mP (nI b) NN J n (nI (l + 1)) mU mR := by
  have h1 : ¬ nI a = (-1 : Int32) := fun h => (nI_m1 (a := a) (by omega)).mp h
  rw [fX10_does_L5_s]
  simp (disch := omega) only [↓zLet_q, ↓zJn_q, zGd_in, nIc, nI_1, m5, n8b, nI_le_f, ↓reduceIte, hg, h1, h0]
theorem d5_end {mY mP mU : Rc} {mR : Ar} {J : Rc → Ar → Option (Rc × Ar)} {NN n b ln : Nat} (hb : b < 12) (m5 : mP 5 b = nI ln) (h8 : ln ≤ 8) : fX10_does_L5 mY mP (nI b) NN J (n + 1) (nI (8 * b + ln)) mU mR = J mU mR := by
  rw [fX10_does_L5_s]
  simp (disch := omega) only [zGd_in, nIc, m5, n8b, nI_le_t, ↓reduceIte]
theorem doesJ {oP mP mY : Rc} {nb ns b NN : Nat} {ln : Nat → Nat} (hN : 1000 ≤ NN) (h : PG oP mP nb ns ln) (hb : b < nb) : ∀ (n m j : Nat) (oQ mU : Rc) (oO mR : Ar), ln b - j < n → ln b - j < m → j ≤ ln b → (∀ i, i < 8 → oO i = mR i) → ∃ oQ' oO' mU' mR', (∀ J, fX1_doBlock_L8 oP (nI b) (lw10 mY) NN J n (nI (sm ln b + j)) oQ oO = J oQ' oO') ∧ (∀ J, fX10_does_L5 mY mP (nI b) NN J m (nI (8 * b + j)) mU mR = J mU' mR') ∧ ∀ i, i < 8 → oO' i = mR' i := by
  have h12 := h.1.1
  obtain ⟨l8, m5, _, o7', _⟩ := h.1.2.1 b hb
  have hsm : sm ln (b + 1) = sm ln b + ln b := rfl
  have h96 : sm ln b ≤ 8 * b := sm_le b (fun x hx => (h.1.2.1 x (by omega)).1)
  rw [hsm] at o7'
  intro n
  induction n with
  | zero => intro m j oQ mU oO mR hn; omega
  | succ n ih =>
    intro m j oQ mU oO mR hn hm hj ha
    obtain ⟨m, rfl⟩ : ∃ m', m = m' + 1 := ⟨m - 1, by omega⟩
    by_cases c : j < ln b
    · obtain ⟨t, f, g, a1, a2, a3, a4, a5, a6, a7, a8, a9, a10, a11, a12⟩ := h.1.2.2 b j hb c
      obtain ⟨v, oQ1, mU1, w1, w2⟩ := worthJ (oQ := oQ) (mY := mY) (mU := mU) hN (by omega) (by omega) h.2.2.1 h.2.1 a2 a3 a6 a7 a8 a9 a12 ha
      have go : (mP 7 (8 * b + j) = (-1 : Int32) ∨ ∃ a, a < 8 ∧ mP 7 (8 * b + j) = nI a ∧ ¬ mR a = 0) → ∃ oQ' oO' mU' mR', (∀ J, fX1_doBlock_L8 oP (nI b) (lw10 mY) NN J (n + 1) (nI (sm ln b + j)) oQ oO = J oQ' oO') ∧ (∀ J, fX10_does_L5 mY mP (nI b) NN J (m + 1) (nI (8 * b + j)) mU mR = J mU' mR') ∧ ∀ i, i < 8 → oO' i = mR' i := by
        intro hg
        have hg' : oP 9 (sm ln b + j) = (-1 : Int32) ∨ ∃ a, a < 8 ∧ oP 9 (sm ln b + j) = nI a ∧ ¬ oO a = 0 := by
          rw [a10]
          rcases hg with hg | ⟨a, x8, x1, x2⟩
          · exact Or.inl hg
          · exact Or.inr ⟨a, x8, x1, by rw [ha a x8]; exact x2⟩
        obtain ⟨oQ2, oO2, mU2, mR2, s1, s2, s3⟩ := ih m (j + 1) oQ1 mU1 (upd oO t v) (upd mR t v) (by omega) (by omega) (by omega) (fun i hi => by
          by_cases ci : i = t
          · subst ci; rw [upd_s, upd_s]
          · rw [upd_n ci, upd_n ci]; exact ha i hi)
        refine ⟨oQ2, oO2, mU2, mR2, fun J => ?_, fun J => ?_, s3⟩
        · rw [d8_go (by omega) o7' (by omega) (by omega) hg' a4 a1 w1]; exact s1 J
        · rw [d5_go (by omega) m5 l8 (by omega) hg a5 a1 w2]; exact s2 J
      rcases a11 with a11 | ⟨a, x8, a11⟩
      · exact go (Or.inl a11)
      · by_cases h0 : mR a = 0
        · obtain ⟨oQ2, oO2, mU2, mR2, s1, s2, s3⟩ := ih m (j + 1) oQ mU oO mR (by omega) (by omega) (by omega) ha
          refine ⟨oQ2, oO2, mU2, mR2, fun J => ?_, fun J => ?_, s3⟩
          · rw [d8_no (by omega) o7' (by omega) (by omega) x8 (by rw [a10]; exact a11) (by rw [ha a x8]; exact h0)]; exact s1 J
          · rw [d5_no (by omega) m5 l8 (by omega) x8 a11 h0]; exact s2 J
        · exact go (Or.inr ⟨a, x8, a11, h0⟩)
    · have : j = ln b := by omega
      subst this
      exact ⟨oQ, oO, mU, mR, fun J => d8_end (by omega) o7' (by omega), fun J => d5_end (by omega) m5 l8, ha⟩
theorem blkJ {oP mP mY oQ mU : Rc} {oO mR : Ar} {nb ns b NN : Nat} {ln : Nat → Nat} (hN : 1000 ≤ NN) (h : PG oP mP nb ns ln) (hb : b < nb) (ha : ∀ i, i < 8 → oO i = mR i) : ∃ oQ' oO' mU' mR', fX1_doBlock NN oP oQ oO (nI b) (lw10 mY) = some (oQ', oO') ∧ fX10_does NN mY mU mP mR (nI b) = some (mU', mR') ∧ ∀ i, i < 8 → oO' i = mR' i := by
  have h12 := h.1.1
  obtain ⟨l8, m5, o7, o7', _⟩ := h.1.2.1 b hb
  obtain ⟨oQ2, oO2, mU2, mR2, s1, s2, s3⟩ := doesJ (mY := mY) hN h hb NN NN 0 oQ mU oO mR (by omega) (by omega) (by omega) ha
  rw [Nat.add_zero] at s1 s2
  refine ⟨oQ2, oO2, mU2, mR2, ?_, ?_, s3⟩
  · unfold fX1_doBlock
    simp (disch := omega) only [↓zLet_q, ↓zJn_q, zGd_in, nIc, o7]
    exact s1 _
  · unfold fX10_does
    simp (disch := omega) only [↓zLet_q, ↓zJn_q, lr_8, nI_mul]
    exact s2 _
/-- a block done so often as told -/
theorem oftJ {oP mP mY oH : Rc} {nb ns b t NN : Nat} {ln : Nat → Nat} (hN : 1000 ≤ NN) (h : PG oP mP nb ns ln) (hb : b < nb) (o6 : oP 6 b = nI t) (m4 : mP 4 b = nI t) (t50 : t ≤ 50) (hH : oH 7 0 = mY 4 0) : ∀ (n m u : Nat) (oK mU : Rc) (oN mN : Ar), t - u < n → t - u < m → u ≤ t → (∀ i, i < 8 → oN i = mN i) → ∃ oK' oN' mU' mN', (∀ J, fX7_run_L29 oP NN oH (nI b) J n (nI u) oN oK = J oN' oK') ∧ (∀ J, fX10_run_L42 mY mP NN (nI b) J m (nI u) mU mN = J mU' mN') ∧ ∀ i, i < 8 → oN' i = mN' i := by
  have h12 := h.1.1
  have hm : fX7_mask oH = some (lw10 mY) := by unfold fX7_mask lw10; rw [hH]
  intro n
  induction n with
  | zero => intro m u oK mU oN mN hn; omega
  | succ n ih =>
    intro m u oK mU oN mN hn hm' hu ha
    obtain ⟨m, rfl⟩ : ∃ m', m = m' + 1 := ⟨m - 1, by omega⟩
    by_cases c : u < t
    · obtain ⟨oK1, oN1, mU1, mN1, w1, w2, w3⟩ := blkJ (oQ := oK) (mY := mY) (mU := mU) hN h hb ha
      obtain ⟨oK2, oN2, mU2, mN2, s1, s2, s3⟩ := ih m (u + 1) oK1 mU1 oN1 mN1 (by omega) (by omega) (by omega) w3
      refine ⟨oK2, oN2, mU2, mN2, fun J => ?_, fun J => ?_, s3⟩
      · rw [fX7_run_L29_s]
        simp (disch := omega) only [↓zLet_q, zGd_in, nIc, nI_1, o6, nI_le_f, ↓reduceIte, hm, zB1_q, w1, zB2_q]
        exact s1 J
      · rw [fX10_run_L42_s]
        simp (disch := omega) only [↓zLet_q, zGd_in, nIc, nI_1, m4, nI_le_f, ↓reduceIte, w2, zB2_q]
        exact s2 J
    · have : u = t := by omega
      subst this
      refine ⟨oK, oN, mU, mN, fun J => ?_, fun J => ?_, ha⟩
      · rw [fX7_run_L29_s]
        simp (disch := omega) only [zGd_in, nIc, o6, nI_le_t, ↓reduceIte]
      · rw [fX10_run_L42_s]
        simp (disch := omega) only [zGd_in, nIc, m4, nI_le_t, ↓reduceIte]
theorem runJ {oP mP mY oH : Rc} {nb ns NN : Nat} {ln : Nat → Nat} (hN : 1000 ≤ NN) (h : PG oP mP nb ns ln) (hH : oH 7 0 = mY 4 0) : ∀ (n m b : Nat) (oK mU : Rc) (oN mN : Ar), nb - b < n → nb - b < m → b ≤ nb → (∀ i, i < 8 → oN i = mN i) → ∃ oK' oN' mU' mN', (∀ J, fX7_run_L16 oP NN oH J n (nI b) oN oK = J oN' oK') ∧ (∀ J, fX10_run_L29 mY mP NN J m (nI b) mU mN = J mU' mN') ∧ ∀ i, i < 8 → oN' i = mN' i := by
  have h12 := h.1.1
  intro n
  induction n with
  | zero => intro m b oK mU oN mN hn; omega
  | succ n ih =>
    intro m b oK mU oN mN hn hm' hb ha
    obtain ⟨m, rfl⟩ : ∃ m', m = m' + 1 := ⟨m - 1, by omega⟩
    by_cases c : b < nb
    · obtain ⟨l8, m5, o7, o7', nm, ⟨t, t1, t2, t3, t4⟩⟩ := h.1.2.1 b c
      obtain ⟨oK1, oN1, mU1, mN1, w1, w2, w3⟩ := oftJ (oH := oH) (mY := mY) hN h c t3 t4 t2 hH NN NN 0 oK mU oN mN (by omega) (by omega) (by omega) ha
      obtain ⟨oK2, oN2, mU2, mN2, s1, s2, s3⟩ := ih m (b + 1) oK1 mU1 oN1 mN1 (by omega) (by omega) (by omega) w3
      refine ⟨oK2, oN2, mU2, mN2, fun J => ?_, fun J => ?_, s3⟩
      · rw [fX7_run_L16_s]
        simp (disch := omega) only [↓zJn_q, h.2.2.2.1, nI_le_f, ↓reduceIte, lr_0]
        rw [w1]
        simp only [zLet_q, nI_1]
        exact s1 J
      · rw [fX10_run_L29_s]
        simp (disch := omega) only [↓zJn_q, h.2.2.2.2, nI_le_f, ↓reduceIte, lr_0]
        rw [w2]
        simp only [zLet_q, nI_1]
        exact s2 J
    · have : b = nb := by omega
      subst this
      refine ⟨oK, oN, mU, mN, fun J => ?_, fun J => ?_, ha⟩
      · rw [fX7_run_L16_s]
        simp (disch := omega) only [h.2.2.2.1, nI_le_t, ↓reduceIte]
      · rw [fX10_run_L29_s]
        simp (disch := omega) only [h.2.2.2.2, nI_le_t, ↓reduceIte]
