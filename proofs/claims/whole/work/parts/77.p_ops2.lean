/-! own part (pure): calls on cuts and blocks, further -/
theorem op_moves {oH oR oT oS oP oE oC mZ mY mB mG mP mU mJ mK : Rc} {oN mN : Ar} {NN : Nat} (hN : 5000 ≤ NN) (h : Inv oH oR oT oS oP oN oE oC mZ mY mB mG mP mN) (cut b : Int32) : ∃ v oH' oC' mZ' mU' mJ' mK', fX7_moves NN oH oP oE oC cut b = some (v, oH', oC') ∧ fX10_moves NN mZ mY mU mJ mK mP cut b = some (v, mZ', mU', mJ', mK') ∧ Inv oH' oR oT oS oP oN oE oC' mZ' mY mB mG mP mN := by
  have hh := h
  obtain ⟨_, ⟨w, p, v, hS, hP⟩, _⟩ := hh
  rcases cutT hP cut with ⟨x, x0, x3, xl, t1, t2⟩ | ⟨nb, ns, ln, c, q, h9, c1, rfl, t1, t2⟩
  · refine ⟨-1, _, oC, _, mU, mJ, mK, ?_, ?_, Inv_t h (x := x) (z := 0) x3⟩
    · unfold fX7_moves; rw [t1, zB1_q, ref1 x0, zB2_q, if_neg (by decide)]
    · unfold fX10_moves; rw [zLet_q, t2, zB1_q, if_neg xl, zB1_q, rfd10, zB2_q]
  · have h12 := q.2.1.1.1
    have rr : ∀ x : Int32, rs (rs oH 10 (fun _ => (0 : Int32))) 10 (fun _ => x) = rs oH 10 (fun _ => x) := fun x => rs_rs _ _ _ _
    have bad : (¬ b = oP 0 0 ∧ fX7_isBlock oP b = some 0 ∧ (b < 0 ∨ (¬ b < 0 ∧ ¬ b ≤ mP 0 0))) → ∃ v oH' oC' mZ' mU' mJ' mK', fX7_moves NN oH oP oE oC (nI c) b = some (v, oH', oC') ∧ fX10_moves NN mZ mY mU mJ mK mP (nI c) b = some (v, mZ', mU', mJ', mK') ∧ Inv oH' oR oT oS oP oN oE oC' mZ' mY mB mG mP mN := by
      intro ⟨b1, b2, b3⟩
      refine ⟨-1, _, oC, _, mU, mJ, mK, ?_, ?_, Inv_t h (x := 1) (z := 0) (by decide)⟩
      · unfold fX7_moves
        rw [t1, zB1_q, ref0, zB2_q, if_pos rfl]
        simp only [zJn_q, if_neg b1, b2, zB1_q]
        rw [if_pos trivial, ref1 (show ¬ (1 : Int32) = 0 by decide), zB2_q, if_neg (by decide), rr]
      · unfold fX10_moves
        rw [zLet_q, t2, zB1_q, if_pos (by decide)]
        simp only [zJn_q]
        rcases b3 with b3 | ⟨b3, b4⟩
        · rw [if_pos b3, rfd10, zB2_q]
        · rw [if_neg b3, if_neg b4, rfd10, zB2_q]
    have ok : ∀ j, j ≤ nb → b = nI j → (b = oP 0 0 ∨ (¬ b = oP 0 0 ∧ fX7_isBlock oP b = some 1)) → ∃ v oH' oC' mZ' mU' mJ' mK', fX7_moves NN oH oP oE oC (nI c) b = some (v, oH', oC') ∧ fX10_moves NN mZ mY mU mJ mK mP (nI c) b = some (v, mZ', mU', mJ', mK') ∧ Inv oH' oR oT oS oP oN oE oC' mZ' mY mB mG mP mN := by
      intro j hj hbj hb
      obtain ⟨oC', f1, _, _, _, _, f6, f7, f8⟩ := folP (oH := oH) (mY := mY) hN q hS (nI c)
      obtain ⟨mU', mJ', n1, n2⟩ := nedP (mU := mU) (mJ := mJ) hN q hS
      obtain ⟨mK', k1, k2, k3⟩ := tikP (mK := mK) hN q hS n2 (nI c)
      have e : oC' 0 j = mK' 30 j := by
        by_cases cj : j = nb
        · rw [cj, f7, k3]
        · rw [f6 j (by omega), k2 j (by omega)]
      refine ⟨mK' 30 j, _, oC', _, mU', mJ', mK', ?_, ?_, Inv_c (Inv_t h (x := 0) (z := 0) (by decide)) hS h9 f8⟩
      · unfold fX7_moves
        rw [t1, zB1_q, ref0, zB2_q, if_pos rfl]
        simp only [zJn_q, f1, zB1_q, ref0, zB2_q, rr]
        rcases hb with hb | ⟨hb, hb'⟩
        · rw [if_pos hb, if_pos trivial, hbj, zGd_in (by omega) (by omega), nIc (by omega), e]
        · rw [if_neg hb, hb', zB1_q, if_neg (by decide), if_pos trivial, hbj, zGd_in (by omega) (by omega), nIc (by omega), e]
      · unfold fX10_moves
        rw [zLet_q, t2, zB1_q, if_pos (by decide)]
        simp only [zJn_q]
        rw [hbj, q.2.1.2.2.2.2, if_neg (nI_pos (by omega)), if_pos (nI_le hj (by omega)), n1, zB2_q, k1, zB2_q, zGd_in (by omega) (by omega), nIc (by omega), don10, zB2_q]
    have e0 := q.2.1.2.2.2.1
    have m0 := q.2.1.2.2.2.2
    by_cases cb : b = oP 0 0
    · exact ok nb (Nat.le_refl _) (by rw [cb, e0]) (Or.inl cb)
    · rcases pk_ix b (n := nb) (by omega) with d | d | ⟨j, j8, rfl⟩
      · refine bad ⟨cb, ?_, Or.inl d⟩
        unfold fX7_isBlock; rw [if_pos d]
      · have d0 : ¬ b < 0 := by
          intro d'
          rw [Int32.lt_iff_toInt_lt] at d'
          rw [Int32.le_iff_toInt_le, nI_toInt (by omega)] at d
          have : (0 : Int32).toInt = 0 := by decide
          omega
        refine bad ⟨cb, ?_, Or.inr ⟨d0, ?_⟩⟩
        · unfold fX7_isBlock; rw [if_neg d0, e0, if_pos d]
        · rw [m0]
          intro d'
          rw [e0] at cb
          rw [Int32.le_iff_toInt_le] at d d'
          exact cb (Int32.toInt_inj.mp (by omega))
      · refine ok j (by omega) rfl (Or.inr ⟨cb, ?_⟩)
        unfold fX7_isBlock; rw [if_neg (nI_pos (by omega)), e0, if_neg (nI_ge j8 (by omega))]
theorem op_turn {oH oR oT oS oP oE oC mZ mY mB mG mP mU mJ mK : Rc} {oN mN : Ar} {NN : Nat} (hN : 5000 ≤ NN) (h : Inv oH oR oT oS oP oN oE oC mZ mY mB mG mP mN) (cut b : Int32) : ∃ v oH' oC' mZ' mU' mJ' mK', fX7_turn NN oH oP oE oC cut b = some (v, oH', oC') ∧ fX10_turn NN mZ mY mU mJ mK mP cut b = some (v, mZ', mU', mJ', mK') ∧ Inv oH' oR oT oS oP oN oE oC' mZ' mY mB mG mP mN := by
  have hh := h
  obtain ⟨_, ⟨w, p, v, hS, hP⟩, _⟩ := hh
  rcases cutT hP cut with ⟨x, x0, x3, xl, t1, t2⟩ | ⟨nb, ns, ln, c, q, h9, c1, rfl, t1, t2⟩
  · refine ⟨-2147483648, _, oC, _, mU, mJ, mK, ?_, ?_, Inv_t h (x := x) (z := 0) x3⟩
    · unfold fX7_turn; rw [t1, zB1_q, ref1 x0, zB2_q, if_neg (by decide)]
    · unfold fX10_turn; rw [zLet_q, t2, zB1_q]; simp only [zJn_q]; rw [if_neg xl, zB1_q, if_neg xl, rfd10, zB2_q]
  · have rr : ∀ x : Int32, rs (rs oH 10 (fun _ => (0 : Int32))) 10 (fun _ => x) = rs oH 10 (fun _ => x) := fun x => rs_rs _ _ _ _
    have hhp : fX7_hasProgram oP = some 1 := by
      unfold fX7_hasProgram; rw [q.2.1.2.2.2.1, if_neg (nI_nle (by have := q.1; omega) (by have := q.2.1.1.1; omega))]
    rcases isBlk hP b with ⟨b1, b2⟩ | ⟨_, _, _, j, _, _, _, _, b1, b2⟩
    · refine ⟨-2147483648, _, oC, _, mU, mJ, mK, ?_, ?_, Inv_t h (x := 1) (z := 0) (by decide)⟩
      · unfold fX7_turn fX7_troubleOfBlock
        rw [t1, zB1_q, ref0, zB2_q, if_pos rfl, hhp, zB1_q, if_neg (by decide), b1, zB1_q, if_pos rfl, zB1_q, ref1 (show ¬ (1 : Int32) = 0 by decide), zB2_q, if_neg (by decide), rr]
      · unfold fX10_turn; rw [zLet_q, t2, zB1_q]; simp only [zJn_q]; rw [if_pos (by decide), b2, zB1_q, if_pos rfl, if_neg (by decide), rfd10, zB2_q]
    · obtain ⟨oC1, _, f2, _, _, _, _, _, f8⟩ := folP (oH := rs oH 10 (fun _ => (0 : Int32))) (mY := mY) hN q hS (nI c ^^^ ((1 : Int32) <<< (b &&& 31)))
      obtain ⟨oC2, _, g2, _, _, _, _, _, g8⟩ := folP (oH := rs oH 10 (fun _ => (0 : Int32))) (mY := mY) hN f8 hS (nI c)
      obtain ⟨mU', mJ', n1, n2⟩ := nedP (mU := mU) (mJ := mJ) hN q hS
      obtain ⟨mK1, k1, _, _⟩ := tikP (mK := mK) hN q hS n2 (nI c)
      obtain ⟨mK2, k2, _, _⟩ := tikP (mK := mK1) hN q hS n2 (nI c ^^^ ((1 : Int32) <<< (b &&& 31)))
      refine ⟨TT (nI w) (nI p) (nI v) mP nb (nI c ^^^ ((1 : Int32) <<< (b &&& 31))) - TT (nI w) (nI p) (nI v) mP nb (nI c), _, oC2, _, mU', mJ', mK2, ?_, ?_, Inv_c (Inv_t h (x := 0) (z := 0) (by decide)) hS h9 g8⟩
      · unfold fX7_turn fX7_troubleOfBlock
        rw [t1, zB1_q, ref0, zB2_q, if_pos rfl, hhp, zB1_q, if_neg (by decide), b1, zB1_q, if_neg (by decide), zB1_q, ref0, zB2_q, if_pos rfl, rr, f2, zB2_q, g2, zB2_q]
      · unfold fX10_turn; rw [zLet_q, t2, zB1_q]; simp only [zJn_q]; rw [if_pos (by decide), b2, zB1_q, if_neg (by decide), if_pos (by decide), n1, zB2_q, k1, zB2_q, k2, zB2_q, don10, zB2_q]
theorem op_run {oH oR oT oS oP oE oC oK mZ mY mB mG mP mU mJ mK : Rc} {oN mN : Ar} {NN : Nat} (hN : 5000 ≤ NN) (h : Inv oH oR oT oS oP oN oE oC mZ mY mB mG mP mN) (cut : Int32) : ∃ v oH' oN' oK' oC' mZ' mU' mJ' mK' mN', fX7_run NN oH oP oN oK oE oC cut = some (v, oH', oN', oK', oC') ∧ fX10_run NN mZ mY mU mJ mK mP mN cut = some (v, mZ', mU', mJ', mK', mN') ∧ Inv oH' oR oT oS oP oN' oE oC' mZ' mY mB mG mP mN' := by
  have hh := h
  obtain ⟨_, ⟨w, p, v, hS, hP⟩, _, _, _, hn⟩ := hh
  rcases cutT hP cut with ⟨x, x0, x3, xl, t1, t2⟩ | ⟨nb, ns, ln, c, q, h9, c1, rfl, t1, t2⟩
  · refine ⟨-1, _, oN, oK, oC, _, mU, mJ, mK, mN, ?_, ?_, Inv_t h (x := x) (z := 0) x3⟩
    · unfold fX7_run; rw [t1, zB1_q, ref1 x0, zB2_q, if_neg (by decide)]
    · unfold fX10_run; rw [zLet_q, t2, zB1_q, if_neg xl, zB1_q, rfd10, zB2_q]
  · have h12 := q.2.1.1.1
    obtain ⟨oC', _, f2, _, _, _, _, _, f8⟩ := folP (oH := rs oH 10 (fun _ => (0 : Int32))) (mY := mY) hN q hS (nI c)
    obtain ⟨mU', mJ', n1, n2⟩ := nedP (mU := mU) (mJ := mJ) hN q hS
    obtain ⟨mK', k1, _, _⟩ := tikP (mK := mK) hN q hS n2 (nI c)
    obtain ⟨oK', oN', mU2, mN', r1, r2, r3⟩ := runJ (oH := rs oH 10 (fun _ => (0 : Int32))) (mY := mY) (NN := NN) (by omega) q.2.1 (by show oH 7 0 = _; rw [hS.2.2.2.2.2.1, hS.2.2.2.2.2.2.1]) NN NN 0 oK mU' oN mN (by omega) (by omega) (by omega) hn
    have hI := Inv_c (Inv_t h (x := 0) (z := 0) (by decide)) hS h9 f8
    refine ⟨TT (nI w) (nI p) (nI v) mP nb (nI c), _, oN', oK', oC', _, mU2, mJ', mK', mN', ?_, ?_, ⟨hI.1, hI.2.1, hI.2.2.1, hI.2.2.2.1, hI.2.2.2.2.1, r3⟩⟩
    · unfold fX7_run; rw [t1, zB1_q, ref0, zB2_q, if_pos rfl, zJn_q]; refine (r1 _).trans ?_; rw [f2, zB2_q]
    · unfold fX10_run; rw [zLet_q, t2, zB1_q, if_pos (by decide), n1, zB2_q, zJn_q]; refine (r2 _).trans ?_; rw [k1, zB2_q, don10, zB2_q]
theorem askT {mY oP oE oC mP : Rc} {w p v : Nat} (h : IP mY oP oE oC mP w p v) : (fX7_hasProgram oP = some 0 ∧ mY 9 0 = 0) ∨ ∃ nb ns ln, PR oP oE oC mP w p v nb ns ln ∧ mY 9 0 = 1 ∧ fX7_hasProgram oP = some 1 := by
  unfold fX7_hasProgram
  rcases h with ⟨p1, p2, p3⟩ | ⟨p1, nb, ns, ln, q⟩
  · exact Or.inl ⟨by rw [p2, if_pos (by decide)], p1⟩
  · refine Or.inr ⟨nb, ns, ln, q, p1, ?_⟩
    rw [q.2.1.2.2.2.1, if_neg (nI_nle (by have := q.1; omega) (by have := q.2.1.1.1; omega))]
theorem blkT {mY oP oE oC mP : Rc} {w p v : Nat} (h : IP mY oP oE oC mP w p v) (b : Int32) : (∃ x, ¬ x = 0 ∧ ¬ x = (3 : Int32) ∧ ¬ x ≤ 0 ∧ fX7_troubleOfBlock oP b = some x ∧ fX10_blocked mY mP b = some x ∧ ((x = 4 ∧ mY 9 0 = 0) ∨ (x = 1 ∧ mY 9 0 = 1 ∧ fX10_isBlock mY mP b = some 0))) ∨ ∃ nb ns ln j, PR oP oE oC mP w p v nb ns ln ∧ mY 9 0 = 1 ∧ j < nb ∧ b = nI j ∧ fX7_troubleOfBlock oP b = some 0 ∧ fX10_blocked mY mP b = some 0 ∧ fX10_isBlock mY mP b = some 1 := by
  unfold fX7_troubleOfBlock fX10_blocked
  rcases askT h with ⟨a1, a2⟩ | ⟨nb, ns, ln, q, a2, a1⟩
  · exact Or.inl ⟨4, by decide, by decide, by decide, by rw [a1, zB1_q, if_pos rfl], by rw [if_pos a2], Or.inl ⟨rfl, a2⟩⟩
  · have n0 : ¬ mY 9 0 = 0 := by rw [a2]; decide
    rw [a1, zB1_q, if_neg (by decide), if_neg n0]
    rcases isBlk h b with ⟨b1, b2⟩ | ⟨nb', ns', ln', j, q', _, j1, j2, b1, b2⟩
    · exact Or.inl ⟨1, by decide, by decide, by decide, by rw [b1, zB1_q, if_pos rfl], by rw [b2, zB1_q, if_pos rfl], Or.inr ⟨rfl, a2, b2⟩⟩
    · exact Or.inr ⟨nb', ns', ln', j, q', a2, j1, j2, by rw [b1, zB1_q, if_neg (by decide)], by rw [b2, zB1_q, if_neg (by decide)], b2⟩
theorem op_once {oH oR oT oS oP oE oC oK mZ mY mB mG mP mU : Rc} {oN mN : Ar} {NN : Nat} (hN : 5000 ≤ NN) (h : Inv oH oR oT oS oP oN oE oC mZ mY mB mG mP mN) (b f f' : Int32) : ∃ v oH' oN' oK' mZ' mU' mN', fX7_once NN oH oP oN oK b f = some (v, oH', oN', oK') ∧ fX10_once NN mZ mY mU mP mN b f' = some (v, mZ', mU', mN') ∧ Inv oH' oR oT oS oP oN' oE oC mZ' mY mB mG mP mN' := by
  have hh := h
  obtain ⟨_, ⟨w, p, v, hS, hP⟩, _, _, _, hn⟩ := hh
  rcases blkT hP b with ⟨x, x0, x3, xl, t1, t2, _⟩ | ⟨nb, ns, ln, j, q, h9, j1, rfl, t1, t2, _⟩
  · refine ⟨0, _, oN, oK, _, mU, mN, ?_, ?_, Inv_t h (x := x) (z := 0) x3⟩
    · unfold fX7_once; rw [t1, zB1_q, ref1 x0, zB2_q, if_neg (by decide)]
    · unfold fX10_once; rw [zLet_q, t2, zB1_q, if_neg xl, zB1_q, dnd10, zB2_q, zb0]
  · obtain ⟨oK', oN', mU', mN', r1, r2, r3⟩ := blkJ (oQ := oK) (mY := mY) (mU := mU) (NN := NN) (by omega) q.2.1 j1 hn
    have hI := Inv_t h (x := 0) (z := 0) (by decide)
    have hm := msk (oH := rs oH 10 (fun _ => (0 : Int32))) (mY := mY) (w := w) (p := p) (v := v) hS
    refine ⟨1, _, oN', oK', _, mU', mN', ?_, ?_, ⟨hI.1, hI.2.1, hI.2.2.1, hI.2.2.2.1, hI.2.2.2.2.1, r3⟩⟩
    · unfold fX7_once; rw [t1, zB1_q, ref0, zB2_q, if_pos rfl, hm, zB1_q, r1, zB2_q]
    · unfold fX10_once; rw [zLet_q, t2, zB1_q, if_pos (by decide), r2, zB2_q, grt10, zB2_q, zb1]
theorem tryJ {oP mP mY oH oK mU : Rc} {oN oY mN mO : Ar} {nb ns j NN : Nat} {ln : Nat → Nat} (hN : 5000 ≤ NN) (h : PG oP mP nb ns ln) (hj : j < nb) (hn : ∀ i, i < 8 → oN i = mN i) : ∃ oY' oK' mU' mO', fX1_tryBlock NN oP oN oY oK (nI j) (lw10 mY) = some (oY', oK') ∧ fX10_tries NN mY mU mP mN mO (nI j) = some (mU', mO') ∧ ∀ i, i < 8 → oY' i = mO' i := by
  have cp : ∀ (n i : Nat) (mO : Ar), 8 - i < n → i ≤ 8 → (∀ x, x < i → mO x = mN x) → ∃ mO', (∀ J, fX10_tries_L2 mN J n (nI i) mO = J mO') ∧ ∀ x, x < 8 → mO' x = mN x := by
    intro n
    induction n with
    | zero => intro i mO h; omega
    | succ n ih =>
      intro i mO h1 h2 h3
      by_cases c : i < 8
      · obtain ⟨mO', e1, e2⟩ := ih (i + 1) (upd mO i (mN i)) (by omega) (by omega) (fun x hx => by
          by_cases cx : x = i
          · rw [cx, upd_s]
          · rw [upd_n cx]; exact h3 x (by omega))
        refine ⟨mO', fun J => ?_, e2⟩
        rw [fX10_tries_L2_s, if_neg (show ¬ (8 : Int32) ≤ nI i from nI_ge (b := 8) c (by omega)), zGd_in (by omega) (by omega), zGd_in (by omega) (by omega), nIc (by omega), zLet_q, zLet_q, nI_1]
        exact e1 J
      · refine ⟨mO, fun J => ?_, fun x hx => h3 x (by omega)⟩
        rw [fX10_tries_L2_s, if_pos (show (8 : Int32) ≤ nI i from nI_le (a := 8) (by omega) (by omega))]
  obtain ⟨mO1, c1, c2⟩ := cp NN 0 mO (by omega) (by omega) (fun x hx => by omega)
  obtain ⟨oK', oY', mU', mO', r1, r2, r3⟩ := blkJ (oQ := oK) (oO := va_cpy oN oY 0 0 8) (mR := mO1) (mY := mY) (mU := mU) (NN := NN) (by omega) h hj (fun i hi => by
    rw [pk_cpy_in (by omega) (by omega), c2 i hi, Nat.zero_add, Nat.sub_zero]; exact hn i hi)
  refine ⟨oY', oK', mU', mO', ?_, ?_, r3⟩
  · unfold fX1_tryBlock
    rw [zGd_t (by decide), zLet_q]
    have e : va_cpy oN oY (0 : Int32).toNatClampNeg (0 : Int32).toNatClampNeg (8 : Int32).toNatClampNeg = va_cpy oN oY 0 0 8 := by
      rw [show (0 : Int32).toNatClampNeg = 0 by decide, show (8 : Int32).toNatClampNeg = 8 by decide]
    rw [e, r1, zB2_q]
  · unfold fX10_tries
    rw [zJn_q, lr_0, c1, r2, zB2_q]
theorem op_changes {oH oR oT oS oP oE oC oK mZ mY mB mG mP mU : Rc} {oN oY mN mO : Ar} {NN : Nat} (hN : 5000 ≤ NN) (h : Inv oH oR oT oS oP oN oE oC mZ mY mB mG mP mN) (b k : Int32) : ∃ v oH' oY' oK' mZ' mU' mO', fX7_changes NN oH oP oN oY oK b k = some (v, oH', oY', oK') ∧ fX10_changes NN mZ mY mU mP mN mO b k = some (v, mZ', mU', mO') ∧ Inv oH' oR oT oS oP oN oE oC mZ' mY mB mG mP mN := by
  have hh := h
  obtain ⟨_, ⟨w, p, v, hS, hP⟩, _, _, _, hn⟩ := hh
  rcases blkT hP b with ⟨x, x0, x3, xl, t1, t2, t3⟩ | ⟨nb, ns, ln, j, q, h9, j1, rfl, t1, t2, t3⟩
  · refine ⟨-1, _, oY, oK, _, mU, mO, ?_, ?_, Inv_t h (x := x) (z := 0) x3⟩
    · unfold fX7_changes; rw [t1, zB1_q, ref1 x0, zB2_q, if_neg (by decide)]
    · unfold fX10_changes
      rw [zLet_q]
      rcases t3 with ⟨rfl, t4⟩ | ⟨rfl, t4, t5⟩
      · rw [if_pos t4, rfd10, zB2_q]
      · rw [if_neg (by rw [t4]; decide), t5, zB1_q]
        simp only [zJn_q]
        rw [if_pos trivial, rfd10, zB2_q]
  · have n0 : ¬ mY 9 0 = 0 := by rw [h9]; decide
    have rr : ∀ x : Int32, rs (rs oH 10 (fun _ => (0 : Int32))) 10 (fun _ => x) = rs oH 10 (fun _ => x) := fun x => rs_rs _ _ _ _
    rcases isNum (k := k) with ⟨h1, h2⟩ | ⟨i, i8, rfl, h1, h2⟩
    · refine ⟨-1, _, oY, oK, _, mU, mO, ?_, ?_, Inv_t h (x := 1) (z := 0) (by decide)⟩
      · unfold fX7_changes; rw [t1, zB1_q, ref0, zB2_q, if_pos rfl, h1, zB1_q]; simp only [zJn_q]; rw [if_pos trivial, ref1 (show ¬ (1 : Int32) = 0 by decide), zB2_q, if_neg (by decide), rr]
      · unfold fX10_changes; rw [zLet_q, if_neg n0, t3, zB1_q]; simp only [zJn_q]; rw [if_neg (by decide), h2, zB1_q, if_pos rfl, rfd10, zB2_q]
    · obtain ⟨oY', oK', mU', mO', r1, r2, r3⟩ := tryJ (oH := oH) (oK := oK) (oY := oY) (mO := mO) (mY := mY) (mU := mU) hN q.2.1 j1 hn
      have hm := msk (oH := rs oH 10 (fun _ => (0 : Int32))) (mY := mY) (w := w) (p := p) (v := v) hS
      refine ⟨mO' i ^^^ mN i, _, oY', oK', _, mU', mO', ?_, ?_, Inv_t h (x := 0) (z := 0) (by decide)⟩
      · unfold fX7_changes; rw [t1, zB1_q, ref0, zB2_q, if_pos rfl, h1, zB1_q]; simp only [zJn_q]; rw [if_neg (by decide), ref0, zB2_q, if_pos rfl, rr, hm, zB1_q, r1, zB2_q, zGd_in (by omega) (by omega), zGd_in (by omega) (by omega), nIc (by omega), r3 i i8, hn i i8, Int32.xor_comm]
      · unfold fX10_changes; rw [zLet_q, if_neg n0, t3, zB1_q]; simp only [zJn_q]; rw [if_neg (by decide), h2, zB1_q, if_neg (by decide), r2, zB2_q, zGd_in (by omega) (by omega), zGd_in (by omega) (by omega), nIc (by omega), don10, zB2_q]
theorem op_still {oH oR oT oS oP oE oC oK mZ mY mB mG mP mU : Rc} {oN oY mN mO : Ar} {NN : Nat} (hN : 5000 ≤ NN) (h : Inv oH oR oT oS oP oN oE oC mZ mY mB mG mP mN) (b : Int32) : ∃ v oH' oY' oK' mZ' mU' mO', fX7_still NN oH oP oN oY oK b = some (v, oH', oY', oK') ∧ fX10_still NN mZ mY mU mP mN mO b = some (v, mZ', mU', mO') ∧ Inv oH' oR oT oS oP oN oE oC mZ' mY mB mG mP mN := by
  have hh := h
  obtain ⟨_, ⟨w, p, v, hS, hP⟩, _, _, _, hn⟩ := hh
  rcases blkT hP b with ⟨x, x0, x3, xl, t1, t2, t3⟩ | ⟨nb, ns, ln, j, q, h9, j1, rfl, t1, t2, t3⟩
  · refine ⟨-1, _, oY, oK, _, mU, mO, ?_, ?_, Inv_t h (x := x) (z := 0) x3⟩
    · unfold fX7_still; rw [t1, zB1_q, ref1 x0, zB2_q, if_neg (by decide)]
    · unfold fX10_still; rw [zLet_q, t2, zB1_q, if_neg xl, zB1_q, rfd10, zB2_q]
  · obtain ⟨oY', oK', mU', mO', r1, r2, r3⟩ := tryJ (oH := oH) (oK := oK) (oY := oY) (mO := mO) (mY := mY) (mU := mU) hN q.2.1 j1 hn
    have hm := msk (oH := rs oH 10 (fun _ => (0 : Int32))) (mY := mY) (w := w) (p := p) (v := v) hS
    have off : ∀ (n i : Nat), 8 - i < n → i ≤ 8 → ∀ J, fX10_still_L32 mN mO' J n (nI 0) (nI i) = J (nI 0) := by
      intro n
      induction n with
      | zero => intro i h; omega
      | succ n ih =>
        intro i h1 h2 J
        by_cases c : i < 8
        · rw [fX10_still_L32_s, if_neg (show ¬ (8 : Int32) ≤ nI i from nI_ge (b := 8) c (by omega)), if_pos (show nI 0 = (0 : Int32) from rfl), zLet_q, nI_1]
          exact ih (i + 1) (by omega) (by omega) J
        · rw [fX10_still_L32_s, if_pos (show (8 : Int32) ≤ nI i from nI_le (a := 8) (by omega) (by omega))]
    have key : ∀ (n m i : Nat), 8 - i < n → 8 - i < m → i ≤ 8 → ∃ bit : Bool, fX1_triedIsSame_L2 oN oY' (fun _ => some (1 : Int32)) n (nI i) = some (bI bit) ∧ ∀ J, fX10_still_L32 mN mO' J m (nI 1) (nI i) = J (bI bit) := by
      intro n
      induction n with
      | zero => intro m i h; omega
      | succ n ih =>
        intro m i h1 h2 h3
        obtain ⟨m, rfl⟩ : ∃ m', m = m' + 1 := ⟨m - 1, by omega⟩
        by_cases c : i < 8
        · by_cases e : mO' i = mN i
          · obtain ⟨bit, q1, q2⟩ := ih m (i + 1) (by omega) (by omega) (by omega)
            refine ⟨bit, ?_, fun J => ?_⟩
            · rw [fX1_triedIsSame_L2_s, if_neg (show ¬ (8 : Int32) ≤ nI i from nI_ge (b := 8) c (by omega)), zGd_in (by omega) (by omega), zGd_in (by omega) (by omega)]
              simp (disch := omega) only [nIc, r3 i c, hn i c, if_pos e]
              rw [zLet_q, nI_1]; exact q1
            · rw [fX10_still_L32_s, if_neg (show ¬ (8 : Int32) ≤ nI i from nI_ge (b := 8) c (by omega)), if_neg (by decide), zGd_in (by omega) (by omega), zGd_in (by omega) (by omega)]
              simp (disch := omega) only [nIc, if_pos e]
              rw [zLet_q, nI_1]; exact q2 J
          · refine ⟨false, ?_, fun J => ?_⟩
            · rw [fX1_triedIsSame_L2_s, if_neg (show ¬ (8 : Int32) ≤ nI i from nI_ge (b := 8) c (by omega)), zGd_in (by omega) (by omega), zGd_in (by omega) (by omega)]
              simp (disch := omega) only [nIc, r3 i c, hn i c, if_neg e]
              rfl
            · rw [fX10_still_L32_s, if_neg (show ¬ (8 : Int32) ≤ nI i from nI_ge (b := 8) c (by omega)), if_neg (by decide), zGd_in (by omega) (by omega), zGd_in (by omega) (by omega)]
              simp (disch := omega) only [nIc, if_neg e]
              rw [zLet_q, nI_1]; exact off m (i + 1) (by omega) (by omega) J
        · refine ⟨true, ?_, fun J => ?_⟩
          · rw [fX1_triedIsSame_L2_s, if_pos (show (8 : Int32) ≤ nI i from nI_le (a := 8) (by omega) (by omega))]; rfl
          · rw [fX10_still_L32_s, if_pos (show (8 : Int32) ≤ nI i from nI_le (a := 8) (by omega) (by omega))]; rfl
    obtain ⟨bit, q1, q2⟩ := key NN NN 0 (by omega) (by omega) (by omega)
    have s1 : fX1_triedIsSame NN oN oY' = some (bI bit) := q1
    refine ⟨bI bit, _, oY', oK', _, mU', mO', ?_, ?_, Inv_t h (x := 0) (z := 0) (by decide)⟩
    · unfold fX7_still; rw [t1, zB1_q, ref0, zB2_q, if_pos rfl, hm, zB1_q, r1, zB2_q, s1, zB1_q]
      cases bit <;> rfl
    · unfold fX10_still; rw [zLet_q, t2, zB1_q, if_pos (by decide), r2, zB2_q, zJn_q]
      refine (q2 _).trans ?_
      cases bit <;> rfl
