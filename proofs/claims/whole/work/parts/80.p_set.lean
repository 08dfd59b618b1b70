/-! own part (pure): set and program -/
theorem i32nat {x : Int32} {N : Nat} (h0 : 0 ≤ x.toInt) (h1 : x.toInt ≤ N) : ∃ j : Nat, j ≤ N ∧ x = nI j ∧ x.toInt = j := by
  have hz : (0 : Int32).toInt = 0 := by decide
  obtain ⟨j, j1, j2⟩ := nI_of (x := x) (by rw [Int32.lt_iff_toInt_lt]; omega)
  have e : x.toInt = j := by rw [j2]; exact nI_toInt j1
  exact ⟨j, by omega, j2, e⟩
theorem narrow6 {oN : Ar} {M : Int32} {NN : Nat} (hN : 5000 ≤ NN) : ∃ oN', fX1_narrow NN oN M = some oN' ∧ ∀ i, i < 8 → oN' i = oN i &&& M := by
  have key : ∀ (n i : Nat) (o : Ar), 8 - i < n → i ≤ 8 → (∀ x, x < i → o x = oN x &&& M) → (∀ x, i ≤ x → o x = oN x) → ∃ o', fX1_narrow_L2 M (fun a => some a) n (nI i) o = some o' ∧ ∀ x, x < 8 → o' x = oN x &&& M := by
    intro n
    induction n with
    | zero => intro i o h; omega
    | succ n ih =>
      intro i o h1 h2 h3 h4
      by_cases c : i < 8
      · obtain ⟨o', e1, e2⟩ := ih (i + 1) (upd o i (o i &&& M)) (by omega) (by omega) (fun x hx => by
          by_cases cx : x = i
          · rw [cx, upd_s, h4 i (Nat.le_refl _)]
          · rw [upd_n cx]; exact h3 x (by omega)) (fun x hx => by rw [upd_n (by omega)]; exact h4 x (by omega))
        refine ⟨o', ?_, e2⟩
        rw [fX1_narrow_L2_s, if_neg (show ¬ (8 : Int32) ≤ nI i from nI_ge (b := 8) c (by omega)), zGd_in (by omega) (by omega), zGd_in (by omega) (by omega), nIc (by omega), zLet_q, zLet_q, nI_1]
        exact e1
      · refine ⟨o, ?_, fun x hx => h3 x (by omega)⟩
        rw [fX1_narrow_L2_s, if_pos (show (8 : Int32) ≤ nI i from nI_le (a := 8) (by omega) (by omega))]
  exact key NN 0 oN (by omega) (by omega) (fun x hx => by omega) (fun _ _ => rfl)
theorem narrow10 {mY : Rc} {mN : Ar} {NN : Nat} (hN : 5000 ≤ NN) : ∃ mN', (∀ J, fX10_set_L60 mY J NN (0 : Int32) mN = J mN') ∧ ∀ i, i < 8 → mN' i = mN i &&& lw10 mY := by
  have key : ∀ (n i : Nat) (o : Ar), 8 - i < n → i ≤ 8 → (∀ x, x < i → o x = mN x &&& lw10 mY) → (∀ x, i ≤ x → o x = mN x) → ∃ o', (∀ J, fX10_set_L60 mY J n (nI i) o = J o') ∧ ∀ x, x < 8 → o' x = mN x &&& lw10 mY := by
    intro n
    induction n with
    | zero => intro i o h; omega
    | succ n ih =>
      intro i o h1 h2 h3 h4
      by_cases c : i < 8
      · obtain ⟨o', e1, e2⟩ := ih (i + 1) (upd o i (o i &&& lw10 mY)) (by omega) (by omega) (fun x hx => by
          by_cases cx : x = i
          · rw [cx, upd_s, h4 i (Nat.le_refl _)]
          · rw [upd_n cx]; exact h3 x (by omega)) (fun x hx => by rw [upd_n (by omega)]; exact h4 x (by omega))
        refine ⟨o', fun J => ?_, e2⟩
        have zi : zGd (β := Int32 × Rc × Rc × Ar) (inb (nI i) 8) = id := by
          funext x; exact zGd_in (by omega) (by omega)
        rw [fX10_set_L60_s, if_neg (show ¬ (8 : Int32) ≤ nI i from nI_ge (b := 8) c (by omega)), low10]
        simp only [zi, id]
        rw [zB1_q, zLet_q, zLet_q, nI_1, nIc (by omega)]
        exact e1 J
      · refine ⟨o, fun J => ?_, fun x hx => h3 x (by omega)⟩
        rw [fX10_set_L60_s, if_pos (show (8 : Int32) ≤ nI i from nI_le (a := 8) (by omega) (by omega))]
  exact key NN 0 mN (by omega) (by omega) (fun x hx => by omega) (fun _ _ => rfl)
theorem reckon0 {oP oE oQ : Rc} {a b : Int32} {NN : Nat} (hN : 5000 ≤ NN) (h0 : oP 0 0 = 0) : ∃ oE', fX2_reckon NN oP oE oQ a b = some (oE', oQ) := by
  obtain ⟨n, rfl⟩ : ∃ n, NN = n + 1 := ⟨NN - 1, by omega⟩
  refine ⟨rs oE 9 (fun _ => a), ?_⟩
  unfold fX2_reckon
  rw [zLet_q, zJn_q, fX2_reckon_L8_s, h0, if_pos (by decide)]
theorem set7_no {oH oP oE oQ oC : Rc} {oN : Ar} {NN : Nat} {a b c : Int32} (h : a < 4 ∨ (¬ a < 4 ∧ (16 : Int32) < a) ∨ (¬ a < 4 ∧ ¬ (16 : Int32) < a ∧ b < 1) ∨ (¬ a < 4 ∧ ¬ (16 : Int32) < a ∧ ¬ b < 1 ∧ (1000 : Int32) < b) ∨ (¬ a < 4 ∧ ¬ (16 : Int32) < a ∧ ¬ b < 1 ∧ ¬ (1000 : Int32) < b ∧ c < 0) ∨ (¬ a < 4 ∧ ¬ (16 : Int32) < a ∧ ¬ b < 1 ∧ ¬ (1000 : Int32) < b ∧ ¬ c < 0 ∧ (100 : Int32) < c)) : fX7_set NN oH oP oN oE oQ oC a b c = some (0, rs oH 10 (fun _ => (2 : Int32)), oN, oE, oQ, oC) := by
  have z : (zB2 (fX7_refused oH 2) fun v5 oH_6 => if v5 = 0 then (zLet (rs oH_6 7 (fun _ => a)) fun oH_7 => zLet (rs oH_7 8 (fun _ => b)) fun oH_8 => zLet (rs oH_8 9 (fun _ => c)) fun oH_9 => zB1 (fX7_mask oH_9) fun v10 => zB1 (fX1_narrow NN oN v10) fun oN_11 => zB3 (fX7_refresh NN oH_9 oP oE oQ oC) fun oE_12 oQ_13 oC_14 => some ((1 : Int32), oH_9, oN_11, oE_12, oQ_13, oC_14)) else some ((0 : Int32), oH_6, oN, oE, oQ, oC)) = some (0, rs oH 10 (fun _ => (2 : Int32)), oN, oE, oQ, oC) := by
    rw [ref1 (show ¬ (2 : Int32) = 0 by decide), zB2_q, if_neg (by decide)]
  unfold fX7_set
  simp only [zJn_q]
  rcases h with h | ⟨g1, h⟩ | ⟨g1, g2, h⟩ | ⟨g1, g2, g3, h⟩ | ⟨g1, g2, g3, g4, h⟩ | ⟨g1, g2, g3, g4, g5, h⟩
  · rw [if_pos h]; exact z
  · rw [if_neg g1, if_pos h]; exact z
  · rw [if_neg g1, if_neg g2, if_pos h]; exact z
  · rw [if_neg g1, if_neg g2, if_neg g3, if_pos h]; exact z
  · rw [if_neg g1, if_neg g2, if_neg g3, if_neg g4, if_pos h]; exact z
  · rw [if_neg g1, if_neg g2, if_neg g3, if_neg g4, if_neg g5, if_pos h]; exact z
theorem set10_no {mZ mY : Rc} {mN : Ar} {NN : Nat} {a b c : Int32} (h : a < 4 ∨ (¬ a < 4 ∧ (16 : Int32) < a) ∨ (¬ a < 4 ∧ ¬ (16 : Int32) < a ∧ b < 1) ∨ (¬ a < 4 ∧ ¬ (16 : Int32) < a ∧ ¬ b < 1 ∧ (1000 : Int32) < b) ∨ (¬ a < 4 ∧ ¬ (16 : Int32) < a ∧ ¬ b < 1 ∧ ¬ (1000 : Int32) < b ∧ c < 0) ∨ (¬ a < 4 ∧ ¬ (16 : Int32) < a ∧ ¬ b < 1 ∧ ¬ (1000 : Int32) < b ∧ ¬ c < 0 ∧ (100 : Int32) < c)) : fX10_set NN mZ mY mN a b c = some (0, rs (rs (rs mZ 0 (fun _ => (0 : Int32))) 1 (fun _ => (2 : Int32))) 2 (fun _ => (-1 : Int32)), mY, mN) := by
  unfold fX10_set fX10_in
  simp only [zJn_q, zLet_q, dnd10, zB2_q, zb0]
  rcases h with h | ⟨g1, h⟩ | ⟨g1, g2, h⟩ | ⟨g1, g2, g3, h⟩ | ⟨g1, g2, g3, g4, h⟩ | ⟨g1, g2, g3, g4, g5, h⟩
  · rw [if_pos h, zB1_q, if_pos rfl]
  · rw [if_neg g1, if_pos h, zB1_q, if_pos rfl]
  · rw [if_neg g1, if_neg g2, zB1_q, if_neg (show ¬ (1 : Int32) = 0 by decide), if_pos h, zB1_q, if_pos rfl]
  · rw [if_neg g1, if_neg g2, zB1_q, if_neg (show ¬ (1 : Int32) = 0 by decide), if_neg g3, if_pos h, zB1_q, if_pos rfl]
  · rw [if_neg g1, if_neg g2, zB1_q, if_neg (show ¬ (1 : Int32) = 0 by decide), if_neg g3, if_neg g4, zB1_q, if_neg (show ¬ (1 : Int32) = 0 by decide), if_pos h, zB1_q, if_pos rfl]
  · rw [if_neg g1, if_neg g2, zB1_q, if_neg (show ¬ (1 : Int32) = 0 by decide), if_neg g3, if_neg g4, zB1_q, if_neg (show ¬ (1 : Int32) = 0 by decide), if_neg g5, if_pos h, zB1_q, if_pos rfl]
theorem op_set {oH oR oT oS oP oE oC oQ mZ mY mB mG mP : Rc} {oN mN : Ar} {NN : Nat} (hN : 5000 ≤ NN) (h : Inv oH oR oT oS oP oN oE oC mZ mY mB mG mP mN) (a b c : Int32) : ∃ v oH' oN' oE' oQ' oC' mZ' mY' mN', fX7_set NN oH oP oN oE oQ oC a b c = some (v, oH', oN', oE', oQ', oC') ∧ fX10_set NN mZ mY mN a b c = some (v, mZ', mY', mN') ∧ Inv oH' oR oT oS oP oN' oE' oC' mZ' mY' mB mG mP mN' := by
  by_cases no : a < 4 ∨ (¬ a < 4 ∧ (16 : Int32) < a) ∨ (¬ a < 4 ∧ ¬ (16 : Int32) < a ∧ b < 1) ∨ (¬ a < 4 ∧ ¬ (16 : Int32) < a ∧ ¬ b < 1 ∧ (1000 : Int32) < b) ∨ (¬ a < 4 ∧ ¬ (16 : Int32) < a ∧ ¬ b < 1 ∧ ¬ (1000 : Int32) < b ∧ c < 0) ∨ (¬ a < 4 ∧ ¬ (16 : Int32) < a ∧ ¬ b < 1 ∧ ¬ (1000 : Int32) < b ∧ ¬ c < 0 ∧ (100 : Int32) < c)
  · exact ⟨_, _, _, _, _, _, _, _, _, set7_no no, set10_no no, Inv_t h (by decide)⟩
  · have g1 : ¬ a < 4 := fun e => no (Or.inl e)
    have g2 : ¬ (16 : Int32) < a := fun e => no (Or.inr (Or.inl ⟨g1, e⟩))
    have g3 : ¬ b < 1 := fun e => no (Or.inr (Or.inr (Or.inl ⟨g1, g2, e⟩)))
    have g4 : ¬ (1000 : Int32) < b := fun e => no (Or.inr (Or.inr (Or.inr (Or.inl ⟨g1, g2, g3, e⟩))))
    have g5 : ¬ c < 0 := fun e => no (Or.inr (Or.inr (Or.inr (Or.inr (Or.inl ⟨g1, g2, g3, g4, e⟩)))))
    have g6 : ¬ (100 : Int32) < c := fun e => no (Or.inr (Or.inr (Or.inr (Or.inr (Or.inr ⟨g1, g2, g3, g4, g5, e⟩)))))
    have l4 : (4 : Int32).toInt = 4 := by decide
    have l16 : (16 : Int32).toInt = 16 := by decide
    have l1 : (1 : Int32).toInt = 1 := by decide
    have l1000 : (1000 : Int32).toInt = 1000 := by decide
    have l0 : (0 : Int32).toInt = 0 := by decide
    have l100 : (100 : Int32).toInt = 100 := by decide
    have i1 := i32le g1
    have i2 := i32le g2
    have i3 := i32le g3
    have i4 := i32le g4
    have i5 := i32le g5
    have i6 := i32le g6
    obtain ⟨w, w1, rfl, w3⟩ := i32nat (x := a) (N := 16) (by omega) (by omega)
    obtain ⟨p, p1, rfl, p3⟩ := i32nat (x := b) (N := 1000) (by omega) (by omega)
    obtain ⟨v, v1, rfl, v3⟩ := i32nat (x := c) (N := 100) (by omega) (by omega)
    have hh := h
    obtain ⟨hT, ⟨w0, p0, v0, hS, hP⟩, hZ, hG, hO, hn⟩ := hh
    have hS' : IS (rs (rs (rs (rs oH 10 (fun _ => (0 : Int32))) 7 (fun _ => nI w)) 8 (fun _ => nI p)) 9 (fun _ => nI v)) (rs (rs (rs mY 4 (fun _ => nI w)) 5 (fun _ => nI p)) 6 (fun _ => nI v)) w p v := ⟨by omega, w1, by omega, p1, v1, rfl, rfl, rfl, rfl, rfl, rfl⟩
    have hm := msk hS'
    obtain ⟨oN', n1, n2⟩ := narrow6 (oN := oN) (M := lw10 (rs (rs (rs mY 4 (fun _ => nI w)) 5 (fun _ => nI p)) 6 (fun _ => nI v))) hN
    obtain ⟨mN', n3, n4⟩ := narrow10 (mN := mN) (mY := rs (rs (rs mY 4 (fun _ => nI w)) 5 (fun _ => nI p)) 6 (fun _ => nI v)) hN
    have ref : ∃ oE' oQ', fX2_reckon NN oP oE oQ (nI w) (nI p) = some (oE', oQ') ∧ IP (rs (rs (rs mY 4 (fun _ => nI w)) 5 (fun _ => nI p)) 6 (fun _ => nI v)) oP oE' (rs oC 5 (fun _ => (0 : Int32))) mP w p v := by
      rcases hP with ⟨q1, q2, q3⟩ | ⟨q1, nb, ns, ln, q⟩
      · obtain ⟨oE', r⟩ := reckon0 (oE := oE) (oQ := oQ) (a := nI w) (b := nI p) hN q2
        exact ⟨oE', oQ, r, Or.inl ⟨q1, q2, q3⟩⟩
      · obtain ⟨oE', oQ', r1, r2⟩ := reckon6 (oE := oE) (oQ := oQ) (w := w) (p := p) (NN := NN) (by omega) q.2.1 (by omega) p1
        exact ⟨oE', oQ', r1, Or.inr ⟨q1, nb, ns, ln, q.1, q.2.1, q.2.2.1, r2, Or.inl rfl⟩⟩
    obtain ⟨oE', oQ', r1, r2⟩ := ref
    refine ⟨1, _, oN', oE', oQ', rs oC 5 (fun _ => (0 : Int32)), rs (rs (rs mZ 0 (fun _ => (0 : Int32))) 1 (fun _ => (0 : Int32))) 2 (fun _ => (-1 : Int32)), rs (rs (rs mY 4 (fun _ => nI w)) 5 (fun _ => nI p)) 6 (fun _ => nI v), mN', ?_, ?_, ⟨hT, ⟨w, p, v, hS', r2⟩, ⟨rfl, hZ.2.1, rfl⟩, hG, hO, fun i hi => by rw [n2 i hi, n4 i hi, hn i hi]⟩⟩
    · unfold fX7_set
      simp only [zJn_q]
      rw [if_neg g1, if_neg g2, if_neg g3, if_neg g4, if_neg g5, if_neg g6, if_neg (show ¬ (1 : Int32) = 0 by decide), ref0, zB2_q, if_pos rfl, zLet_q, zLet_q, zLet_q, hm, zB1_q, n1, zB1_q]
      unfold fX7_refresh
      have e7 : (rs (rs (rs (rs oH 10 (fun _ => (0 : Int32))) 7 (fun _ => nI w)) 8 (fun _ => nI p)) 9 (fun _ => nI v)) 7 0 = nI w := rfl
      have e8 : (rs (rs (rs (rs oH 10 (fun _ => (0 : Int32))) 7 (fun _ => nI w)) 8 (fun _ => nI p)) 9 (fun _ => nI v)) 8 0 = nI p := rfl
      rw [e7, e8, r1, zB2_q, zLet_q, zB3_q]
    · unfold fX10_set fX10_in
      simp only [zJn_q, zLet_q]
      rw [if_neg g1, if_neg g2, zB1_q, if_neg (show ¬ (1 : Int32) = 0 by decide), if_neg g3, if_neg g4, zB1_q, if_neg (show ¬ (1 : Int32) = 0 by decide), if_neg g5, if_neg g6, zB1_q, if_neg (show ¬ (1 : Int32) = 0 by decide), n3, grt10, zB2_q, zb1]
theorem op_program {oH oR oT oS oP oE oC oQ mZ mY mB mL mG mP mS mW : Rc} {oN mN : Ar} {NN : Nat} (hN : 5000 ≤ NN) (h : Inv oH oR oT oS oP oN oE oC mZ mY mB mG mP mN) (x : Int32) : ∃ v s1 s2 oH' oR' oT' oS' oP' oE' oQ' oC' mZ' mY' mB' mL' mP' mS' mW', fX7_program NN oH oR oT oS oP oE oQ oC x = some (v, s1, oH', oR', oT', oS', oP', oE', oQ', oC') ∧ fX10_program NN mZ mY mB mL mP mS mW x = some (v, s2, mZ', mY', mB', mL', mP', mS', mW') ∧ Inv oH' oR' oT' oS' oP' oN oE' oC' mZ' mY' mB' mG mP' mN := by
  have hh := h
  obtain ⟨⟨B, len, hB, h0, hM, hl, t1, m12⟩, ⟨w, p, v, hS, hP⟩, hZ, hG, hO, hn⟩ := hh
  have bad : (x < 0 ∨ (¬ x < 0 ∧ ¬ x ≤ nI len)) → ∃ v s1 s2 oH' oR' oT' oS' oP' oE' oQ' oC' mZ' mY' mB' mL' mP' mS' mW', fX7_program NN oH oR oT oS oP oE oQ oC x = some (v, s1, oH', oR', oT', oS', oP', oE', oQ', oC') ∧ fX10_program NN mZ mY mB mL mP mS mW x = some (v, s2, mZ', mY', mB', mL', mP', mS', mW') ∧ Inv oH' oR' oT' oS' oP' oN oE' oC' mZ' mY' mB' mG mP' mN := by
    intro hx
    refine ⟨-1, false, false, rs oH 10 (fun _ => (2 : Int32)), oR, oT, oS, oP, oE, oQ, oC, rs (rs (rs mZ 0 (fun _ => (0 : Int32))) 1 (fun _ => (2 : Int32))) 2 (fun _ => (-1 : Int32)), mY, mB, mL, mP, mS, mW, ?_, ?_, Inv_t h (by decide)⟩
    · unfold fX7_program
      simp only [zJn_q, t1, ref1 (show ¬ (2 : Int32) = 0 by decide), zB2_q]
      rcases hx with hx | ⟨hx, hx'⟩
      · rw [if_pos hx, if_neg (by decide)]
      · rw [if_neg hx, if_neg hx', if_neg (by decide)]
    · unfold fX10_program
      simp only [zJn_q, zLet_q, m12, rfd10, zB2_q]
      rcases hx with hx | ⟨hx, hx'⟩
      · rw [if_pos hx]
      · rw [if_neg hx, if_neg hx']
  rcases pk_ix x (n := len + 1) (by omega) with d | d | ⟨n0, k8, rfl⟩
  · exact bad (Or.inl d)
  · have d0 : ¬ x < 0 := by
      intro d'
      rw [Int32.lt_iff_toInt_lt] at d'
      rw [Int32.le_iff_toInt_le, nI_toInt (by omega)] at d
      have : (0 : Int32).toInt = 0 := by decide
      omega
    have d1 : ¬ x ≤ nI len := by
      rw [Int32.le_iff_toInt_le, nI_toInt (by omega)]; rw [Int32.le_iff_toInt_le, nI_toInt (by omega)] at d; omega
    exact bad (Or.inr ⟨d0, d1⟩)
  · have x0 : ¬ nI n0 < 0 := nI_pos (by omega)
    have x1 : nI n0 ≤ nI len := nI_le (by omega) (by omega)
    obtain ⟨R, rd, S⟩ := readProg (B := B) (NN := NN) (n0 := n0) (len := len) (mB := rs mB 12 (fun _ => (0 : Int32))) (oR := oR) (oT := oT) (oS := oS) (mL := rs (rs mL 13 (fun _ => nI n0)) 14 (fun _ => (0 : Int32))) (mS := mS) (mW := mW) (by omega) hB (fun i hi => hM i hi) h0 t1 hl (by omega) hO.1 rfl rfl
    rcases S with ⟨mL', mS', mW', r1, ⟨oR', oT', oS', nb, ns, ln, op, s1, s2, s3, s4, s5, s6, s7⟩⟩ | ⟨mL', mS', mW', vv, sp, r1, r2, r3, ⟨oR', oT', oS', s1, s2, s3, s4, s5, s6, s7, s8⟩⟩
    · rw [s1] at rd
      obtain ⟨b1, b2, b3, b4, b5, b6, b7⟩ := s3
      have hPG : PG oS' mS' nb ns ln := ⟨b3, b6.2.2.1, s4, b1, b2⟩
      obtain ⟨oE', oQ', k1, k2⟩ := reckon6 (oE := oE) (oQ := oQ) (w := w) (p := p) (NN := NN) (by omega) hPG hS.2.2.1 hS.2.2.2.1
      refine ⟨nI nb, true, true, rs (rs oH 10 (fun _ => (0 : Int32))) 10 (fun _ => (0 : Int32)), oR', oT', oP, oS', oE', oQ', rs oC 5 (fun _ => (0 : Int32)), rs (rs (rs (rs mZ 0 (fun _ => (0 : Int32))) 3 (fun _ => (0 : Int32))) 1 (fun _ => (0 : Int32))) 2 (fun _ => (-1 : Int32)), rs mY 9 (fun _ => (1 : Int32)), rs mB 12 (fun _ => (0 : Int32)), mL', mS', mP, mW', ?_, ?_, ⟨⟨B, 0, hB, s6, fun i hi => hM i hi, by omega, s7, rfl⟩, ⟨w, p, v, hS, Or.inr ⟨rfl, nb, ns, ln, s2, hPG, by rw [b6.2.2.2.2.1, b6.2.2.2.2.2.1], k2, Or.inl rfl⟩⟩, ⟨rfl, s5, rfl⟩, hG, ⟨hO.2, b7⟩, hn⟩⟩
      · unfold fX7_program
        simp only [zJn_q, t1]
        rw [if_neg x0, if_pos x1, ref0, zB2_q, if_pos rfl, rd, zB4_q, if_neg (show ¬ nI 1 = (0 : Int32) by decide), ref0, zB2_q, if_pos rfl]
        unfold fX5_exchange fX7_refresh
        have e7 : (rs (rs oH 10 (fun _ => (0 : Int32))) 10 (fun _ => (0 : Int32))) 7 0 = nI w := hS.2.2.2.2.2.1
        have e8 : (rs (rs oH 10 (fun _ => (0 : Int32))) 10 (fun _ => (0 : Int32))) 8 0 = nI p := hS.2.2.2.2.2.2.2.1
        rw [zB1_q, e7, e8, k1, zB2_q, zLet_q, zB3_q, b1]
      · unfold fX10_program
        simp only [zJn_q, zLet_q, m12]
        rw [if_neg x0, if_pos x1, r1, zB4_q, if_neg (show ¬ nI 0 = (1 : Int32) by decide), don10, zB2_q, b2]
    · rw [s1] at rd
      refine ⟨-1, false, false, rs (rs oH 10 (fun _ => (0 : Int32))) 10 (fun _ => (3 : Int32)), oR', oT', oS', oP, oE, oQ, oC, rs (rs (rs (rs (rs mZ 0 (fun _ => (0 : Int32))) 3 (fun _ => (0 : Int32))) 3 (fun _ => mW' 6 0)) 1 (fun _ => (3 : Int32))) 2 (fun _ => mW' 7 0), mY, rs mB 12 (fun _ => (0 : Int32)), mL', mP, mS', mW', ?_, ?_, ⟨⟨B, 0, hB, s6, fun i hi => hM i hi, by omega, s7, rfl⟩, ⟨w, p, v, hS, hP⟩, ⟨rfl, ?_, ?_⟩, hG, ⟨s8, hO.2⟩, hn⟩⟩
      · unfold fX7_program
        simp only [zJn_q, t1]
        rw [if_neg x0, if_pos x1, ref0, zB2_q, if_pos rfl, rd, zB4_q, if_pos (show nI 0 = (0 : Int32) from rfl), ref1 (show ¬ (3 : Int32) = 0 by decide), zB2_q, if_neg (by decide)]
      · unfold fX10_program
        simp only [zJn_q, zLet_q, m12]
        rw [if_neg x0, if_pos x1, r1, zB4_q, if_pos (show nI 1 = (1 : Int32) from rfl)]
      · show oR' 2 0 = mW' 6 0
        rw [s2, r2]
      · show mW' 7 0 = if (3 : Int32) = (3 : Int32) then oR' 3 0 else (-1 : Int32)
        rw [if_pos rfl, s5, r3]
