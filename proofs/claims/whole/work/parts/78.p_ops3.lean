/-! own part (pure): quickest, fewest, edges, block, name -/
theorem G0 {W : Int32} {mP : Rc} : ∀ b, b ≤ 12 → gtS W mP (nI 0) b = 0 := by
  intro b
  induction b with
  | zero => intro _; rfl
  | succ b ih =>
    intro hb
    show gtS W mP (nI 0) b + (if sdI (nI 0) b = nI 1 then xG W mP b else 0) = 0
    have : sdI (nI 0) b = nI 0 := by rw [sdN (by omega) (by omega), Nat.zero_div]
    rw [ih (by omega), this, if_neg (by decide)]
    rfl
theorem op_quickest {oH oR oT oS oP oE oC mZ mY mB mG mP mU mJ mK : Rc} {oN mN : Ar} {NN : Nat} (hN : 5000 ≤ NN) (h : Inv oH oR oT oS oP oN oE oC mZ mY mB mG mP mN) (g : Int32) : ∃ v oH' oC' mZ' mU' mJ' mK', fX7_quickest NN oH oP oE oC g = some (v, oH', oC') ∧ fX10_quickest NN mZ mY mU mJ mK mP g = some (v, mZ', mU', mJ', mK') ∧ Inv oH' oR oT oS oP oN oE oC' mZ' mY mB mG mP mN := by
  have hh := h
  obtain ⟨_, ⟨w, p, v, hS, hP⟩, _⟩ := hh
  rcases askT hP with ⟨a1, a2⟩ | ⟨nb, ns, ln, q, h9, a1⟩
  · refine ⟨-1, _, oC, _, mU, mJ, mK, ?_, ?_, Inv_t h (x := 4) (z := 0) (by decide)⟩
    · unfold fX7_quickest fX7_troubleOfAsked; rw [a1, zB1_q, if_pos rfl, zB1_q, ref1 (show ¬ (4 : Int32) = 0 by decide), zB2_q, if_neg (by decide)]
    · unfold fX10_quickest; rw [zLet_q, if_pos a2, rfd10, zB2_q]
  · have n0 : ¬ mY 9 0 = 0 := by rw [h9]; decide
    by_cases c1 : g < 0 ∨ (1000000 : Int32) < g
    · have e1 : fX7_troubleOfAsked oP g 1000000 = some 2 := by
        unfold fX7_troubleOfAsked
        rw [a1, zB1_q, if_neg (by decide)]
        by_cases c : g < 0
        · rw [if_pos c]
        · rw [if_neg c, if_pos (by rcases c1 with c1 | c1; exact absurd c1 c; exact c1)]
      have e2 : fX10_in g 0 1000000 = some 0 := by
        unfold fX10_in
        by_cases c : g < 0
        · rw [if_pos c]
        · rw [if_neg c, if_pos (by rcases c1 with c1 | c1; exact absurd c1 c; exact c1)]
      refine ⟨-1, _, oC, _, mU, mJ, mK, ?_, ?_, Inv_t h (x := 2) (z := 0) (by decide)⟩
      · unfold fX7_quickest; rw [e1, zB1_q, ref1 (show ¬ (2 : Int32) = 0 by decide), zB2_q, if_neg (by decide)]
      · unfold fX10_quickest; rw [zLet_q, if_neg n0, e2, zB1_q, if_pos rfl, rfd10, zB2_q]
    · have d1 : ¬ g < 0 := fun c => c1 (Or.inl c)
      have d2 : ¬ (1000000 : Int32) < g := fun c => c1 (Or.inr c)
      have e1 : fX7_troubleOfAsked oP g 1000000 = some 0 := by
        unfold fX7_troubleOfAsked
        rw [a1, zB1_q, if_neg (by decide), if_neg d1, if_neg d2]
      have e2 : fX10_in g 0 1000000 = some 1 := by
        unfold fX10_in
        rw [if_neg d1, if_neg d2]
      have h12 := q.2.1.1.1
      have p12 := two12 h12
      have gp : (0 : Int) ≤ g.toInt := i32le d1
      obtain ⟨oC', r1, r2, r3⟩ := prepare6 (v := nI v) hN q.2.1 q.2.2.2.1 q.2.2.2.2
      have r3' := r3
      obtain ⟨rw', E, m, heg, hf⟩ := r3
      have hg0 : (gtS (nI w) mP (nI 0) nb).toInt = 0 := by rw [G0 nb h12]; decide
      obtain ⟨e, s1, s2⟩ := quick6 (most := g) hN p12 (Nat.two_pow_pos nb) rw' heg hf (by show (gtS (nI w) mP (nI 0) nb).toInt ≤ g.toInt; omega)
      obtain ⟨mU', mJ', n1, n2⟩ := nedP (mU := mU) (mJ := mJ) hN q hS
      obtain ⟨mK1, k1, _, _⟩ := tikP (mK := mK) hN q hS n2 (nI 0)
      obtain ⟨e', mK2, l1, l2⟩ := qk10 (most := g) hN q.2.1 n2 hS.2.2.2.2.2.2.2.2.2.2 NN 1 0 mK1 (by omega) (Nat.two_pow_pos nb) ⟨by omega, by show (gtS (nI w) mP (nI 0) nb).toInt ≤ g.toInt; omega, fun x hx _ => by
        have : x = 0 := by omega
        subst this
        exact Or.inr ⟨rfl, Or.inr ⟨rfl, Nat.le_refl _⟩⟩⟩
      have ee := QK_u s2 l2
      subst ee
      refine ⟨nI e, _, oC', _, mU', mJ', mK2, ?_, ?_, Inv_c (Inv_t h (x := 0) (z := 0) (by decide)) hS h9 ⟨q.1, q.2.1, q.2.2.1, q.2.2.2.1, Or.inr ⟨r2, r3'⟩⟩⟩
      · unfold fX7_quickest
        have h9' : (rs oH 10 (fun _ => (0 : Int32))) 9 0 = nI v := hS.2.2.2.2.2.2.2.2.2.1
        rw [e1, zB1_q, ref0, zB2_q, if_pos rfl, h9', q.2.1.2.2.2.1, r1, zB1_q, s1, zB1_q]
      · unfold fX10_quickest
        have k1' : fX10_ticksOf NN mY mJ' mK mP (0 : Int32) = some (TT (nI w) (nI p) (nI v) mP nb (nI 0), mK1) := k1
        rw [zLet_q, if_neg n0, e2, zB1_q, if_neg (by decide), n1, zB2_q, k1', zB2_q, zJn_q]
        have l1' := l1 (fun x7 mK_8 => zB2 (fX10_done (rs mZ 0 fun _ => (0 : Int32)) x7) fun v10 mZ_11 => some (v10, mZ_11, mU', mJ', mK_8))
        rw [G0 nb h12] at l1'
        refine l1'.trans ?_
        rw [don10, zB2_q]
theorem op_fewest {oH oR oT oS oP oE oC mZ mY mB mG mP mU mJ mK : Rc} {oN mN : Ar} {NN : Nat} (hN : 5000 ≤ NN) (h : Inv oH oR oT oS oP oN oE oC mZ mY mB mG mP mN) (g : Int32) : ∃ v oH' oC' mZ' mU' mJ' mK', fX7_fewest NN oH oP oE oC g = some (v, oH', oC') ∧ fX10_fewest NN mZ mY mU mJ mK mP g = some (v, mZ', mU', mJ', mK') ∧ Inv oH' oR oT oS oP oN oE oC' mZ' mY mB mG mP mN := by
  have hh := h
  obtain ⟨_, ⟨w, p, v, hS, hP⟩, _⟩ := hh
  rcases askT hP with ⟨a1, a2⟩ | ⟨nb, ns, ln, q, h9, a1⟩
  · refine ⟨-1, _, oC, _, mU, mJ, mK, ?_, ?_, Inv_t h (x := 4) (z := 0) (by decide)⟩
    · unfold fX7_fewest fX7_troubleOfAsked; rw [a1, zB1_q, if_pos rfl, zB1_q, ref1 (show ¬ (4 : Int32) = 0 by decide), zB2_q, if_neg (by decide)]
    · unfold fX10_fewest; rw [zLet_q, if_pos a2, rfd10, zB2_q]
  · have n0 : ¬ mY 9 0 = 0 := by rw [h9]; decide
    by_cases c1 : g < 0
    · have c2 : ¬ 0 ≤ g := by
        rw [Int32.le_iff_toInt_le]; rw [Int32.lt_iff_toInt_lt] at c1; omega
      refine ⟨-1, _, oC, _, mU, mJ, mK, ?_, ?_, Inv_t h (x := 2) (z := 0) (by decide)⟩
      · unfold fX7_fewest fX7_troubleOfAsked; rw [a1, zB1_q, if_neg (by decide), if_pos c1, zB1_q, ref1 (show ¬ (2 : Int32) = 0 by decide), zB2_q, if_neg (by decide)]
      · unfold fX10_fewest; rw [zLet_q, if_neg n0, if_neg c2, rfd10, zB2_q]
    · have c2 : 0 ≤ g := by
        rw [Int32.le_iff_toInt_le]; exact i32le c1
      have c3 : ¬ (2147483647 : Int32) < g := by
        rw [Int32.lt_iff_toInt_lt]
        have := Int32.toInt_lt g
        have : (2147483647 : Int32).toInt = 2147483647 := by decide
        omega
      have e1 : fX7_troubleOfAsked oP g 2147483647 = some 0 := by
        unfold fX7_troubleOfAsked
        rw [a1, zB1_q, if_neg (by decide), if_neg c1, if_neg c3]
      have h12 := q.2.1.1.1
      have p12 := two12 h12
      obtain ⟨oC', r1, r2, r3⟩ := prepare6 (v := nI v) hN q.2.1 q.2.2.2.1 q.2.2.2.2
      have r3' := r3
      obtain ⟨rw', E, m, heg, hf⟩ := r3
      obtain ⟨r, s1, s2⟩ := few6 (tk := g) hN p12 rw' heg hf
      obtain ⟨mU', mJ', n1, n2⟩ := nedP (mU := mU) (mJ := mJ) hN q hS
      obtain ⟨r', mK2, l1, l2⟩ := few10 (tk := g) hN q.2.1 n2 hS.2.2.2.2.2.2.2.2.2.2 (fun c => G_bn q.2.1 hS.2.1 (nI c)) NN 0 (nM 2) mK (by omega) (Nat.zero_le _) (Or.inr ⟨fun y hy => by omega, rfl⟩)
      have ee := FQ_u s2 l2
      subst ee
      refine ⟨r, _, oC', _, mU', mJ', mK2, ?_, ?_, Inv_c (Inv_t h (x := 0) (z := 0) (by decide)) hS h9 ⟨q.1, q.2.1, q.2.2.1, q.2.2.2.1, Or.inr ⟨r2, r3'⟩⟩⟩
      · unfold fX7_fewest
        have h9' : (rs oH 10 (fun _ => (0 : Int32))) 9 0 = nI v := hS.2.2.2.2.2.2.2.2.2.1
        rw [e1, zB1_q, ref0, zB2_q, if_pos rfl, h9', q.2.1.2.2.2.1, r1, zB1_q, s1, zB1_q]
      · unfold fX10_fewest
        rw [zLet_q, if_neg n0, if_pos c2, n1, zB2_q, zJn_q]
        refine (l1 _).trans ?_
        rw [don10, zB2_q]
theorem op_edges {oH oR oT oS oP oE oC mZ mY mB mG mA mP mU mJ mK : Rc} {oN mN : Ar} {NN : Nat} (hN : 5000 ≤ NN) (h : Inv oH oR oT oS oP oN oE oC mZ mY mB mG mP mN) : ∃ v oH' oC' mZ' mU' mJ' mK' mG' mA', fX7_edges NN oH oP oE oC = some (v, oH', oC') ∧ fX10_edges NN mZ mY mU mJ mK mG mA mP = some (v, mZ', mU', mJ', mK', mG', mA') ∧ Inv oH' oR oT oS oP oN oE oC' mZ' mY mB mG' mP mN := by
  have hh := h
  obtain ⟨_, ⟨w, p, v, hS, hP⟩, _⟩ := hh
  rcases askT hP with ⟨a1, a2⟩ | ⟨nb, ns, ln, q, h9, a1⟩
  · refine ⟨-1, _, oC, _, mU, mJ, mK, mG, mA, ?_, ?_, Inv_t h (x := 4) (z := 0) (by decide)⟩
    · unfold fX7_edges; rw [a1, zB1_q, zJn_q, if_pos rfl]; show zB2 (fX7_refused oH 4) _ = _; rw [ref1 (show ¬ (4 : Int32) = 0 by decide), zB2_q, if_neg (by decide)]
    · unfold fX10_edges; rw [zLet_q, if_pos a2, rfd10, zB2_q]
  · have n0 : ¬ mY 9 0 = 0 := by rw [h9]; decide
    have h12 := q.2.1.1.1
    have p12 := two12 h12
    obtain ⟨oC', r1, r2, r3⟩ := prepare6 (v := nI v) hN q.2.1 q.2.2.2.1 q.2.2.2.2
    have r3' := r3
    obtain ⟨rw', E, m, heg, hf⟩ := r3
    have hm := hf.2.2.2
    obtain ⟨mU', mJ', n1, n2⟩ := nedP (mU := mU) (mJ := mJ) hN q hS
    obtain ⟨mK2, mA2, l1, l2⟩ := all10 hN q.2.1 n2 hS.2.2.2.2.2.2.2.2.2.2 NN 0 mK mA (by omega) (Nat.zero_le _) (fun x hx => by omega)
    obtain ⟨mG2, g1, g2, g3⟩ := edg10 (T := fun c => TT (nI w) (nI p) (nI v) mP nb (nI c)) (G := fun c => gtS (nI w) mP (nI c) nb) (NN := NN) hN p12 l2 hf (fun c _ => T_bn q.2.1 hS.2.1 hS.2.2.1 hS.2.2.2.1 hS.2.2.2.2.1 (nI c)) NN 0 (2147483647 : Int32) (rs mG 35 (fun _ => (0 : Int32))) (by omega) (by omega) (Or.inl ⟨rfl, rfl⟩) (by rw [rs_s]; rfl) (fun i hi => by omega)
    have hI := Inv_c (Inv_t h (x := 0) (z := 0) (by decide)) hS h9 (oC' := oC') ⟨q.1, q.2.1, q.2.2.1, q.2.2.2.1, Or.inr ⟨r2, r3'⟩⟩
    refine ⟨nI m, rs (rs (rs oH 10 (fun _ => (0 : Int32))) 4 (va_cpy (oC' 6) (oH 4) 0 0 m)) 5 (fun _ => nI m), oC', _, mU', mJ', mK2, mG2, mA2, ?_, ?_, ⟨hI.1, hI.2.1, hI.2.2.1, ⟨m, by omega, by rw [rs_s], g2, fun i hi => ?_⟩, hI.2.2.2.2⟩⟩
    · unfold fX7_edges
      have h9' : (rs oH 10 (fun _ => (0 : Int32))) 9 0 = nI v := hS.2.2.2.2.2.2.2.2.2.1
      rw [a1, zB1_q, zJn_q, if_neg (by decide)]; show zB2 (fX7_refused oH 0) _ = _
      rw [ref0, zB2_q, if_pos rfl, h9', q.2.1.2.2.2.1, r1, zB1_q, heg.1]
      have e0 : (0 : Int32).toNatClampNeg = 0 := by decide
      have z0 : ¬ (0 : Int32) < 0 := by decide
      rw [zGd_t ⟨z0, z0, nI_pos (by omega), by rw [e0, nIc (by omega)]; omega, by rw [e0, nIc (by omega)]; omega⟩, zLet_q, zLet_q, e0, nIc (by omega), rs_s, rs_n _ _ (by omega)]
    · unfold fX10_edges
      rw [zLet_q, if_neg n0, n1, zB2_q, zLet_q, q.2.1.2.2.2.2, one_sh h12, zJn_q]
      refine (l1 _).trans ?_
      rw [zLet_q, zJn_q]
      refine (g1 _).trans ?_
      rw [g2, don10, zB2_q]
    · rw [rs_n _ _ (by omega), rs_s, pk_cpy_in (by omega) (by omega), Nat.zero_add, Nat.sub_zero, heg.2 i hi, g3 i hi]
theorem op_block {oH oR oT oS oP oE oC mZ mY mB mG mP mU : Rc} {oN mN : Ar} {NN : Nat} (hN : 5000 ≤ NN) (h : Inv oH oR oT oS oP oN oE oC mZ mY mB mG mP mN) (b what : Int32) : ∃ v mZ' mU', fX7_block oP oE b what = some v ∧ fX10_block NN mZ mY mU mP b what = some (v, mZ', mU') ∧ Inv oH oR oT oS oP oN oE oC mZ' mY mB mG mP mN := by
  have hh := h
  obtain ⟨_, ⟨w, p, v, hS, hP⟩, _⟩ := hh
  unfold fX7_block fX10_block
  rw [zLet_q]
  rcases isBlk hP b with ⟨b1, b2⟩ | ⟨nb, ns, ln, j, q, h9, j1, rfl, b1, b2⟩
  · rw [b1, b2, zB1_q, zB1_q, if_pos rfl, if_pos rfl]
    exact ⟨_, _, _, rfl, rfl, Inv_g h⟩
  · have h12 := q.2.1.1.1
    rw [b1, b2, zB1_q, zB1_q, if_neg (show ¬ (1 : Int32) = 0 by decide), if_neg (show ¬ (1 : Int32) = 0 by decide)]
    obtain ⟨x0, x1, x2, ⟨mU1, x3⟩, ⟨mU2, x4⟩, x5, x6⟩ := blk10 (mU := mU) (NN := NN) (by omega) q.2.1 j1 hS.2.2.1 hS.2.2.2.1 hS.2.2.2.2.2.2.2.2.1
    rw [hS.2.2.2.2.2.2.1] at x1 x2 x3 x4
    obtain ⟨y0, y1, y2, y3, y4, y5, y6⟩ := q.2.2.2.1 j j1
    obtain ⟨l8, m5, o7, o7', nm, ⟨t, t1, t2, t3, t4⟩⟩ := q.2.1.1.2.1 j j1
    have hg := zGd_in (β := Int32) (n := j) (N := 12) (i := inferInstance) (k := some (oP 6 j)) (by omega) (by omega)
    by_cases c0 : what = 0
    · rw [if_pos c0, if_pos c0, zGd_in (by omega) (by omega), zGd_in (by omega) (by omega), nIc (by omega), t3, t4]
      exact ⟨_, _, _, rfl, rfl, Inv_g h⟩
    · rw [if_neg c0, if_neg c0]
      by_cases c1 : what = 1
      · rw [if_pos c1, if_pos c1, zGd_in (by omega) (by omega), nIc (by omega)]
        unfold fX4_linesIn
        rw [nI_1, zGd_in (by omega) (by omega), zGd_in (by omega) (by omega), nIc (by omega), nIc (by omega), o7, o7', show sm ln (j + 1) = sm ln j + ln j from rfl, nI_sub (by omega), Nat.add_sub_cancel_left, zB1_q, m5]
        exact ⟨_, _, _, rfl, rfl, Inv_g h⟩
      · rw [if_neg c1, if_neg c1]
        by_cases c2 : what = 2
        · rw [if_pos c2, if_pos c2, zGd_in (by omega) (by omega), nIc (by omega), x0, zB1_q, y0]
          exact ⟨_, _, _, rfl, rfl, Inv_g h⟩
        · rw [if_neg c2, if_neg c2]
          by_cases c3 : what = 3
          · rw [if_pos c3, if_pos c3, zGd_in (by omega) (by omega), nIc (by omega), x1, zB1_q, y1]
            exact ⟨_, _, _, rfl, rfl, Inv_g h⟩
          · rw [if_neg c3, if_neg c3]
            by_cases c4 : what = 4
            · rw [if_pos c4, if_pos c4, zGd_in (by omega) (by omega), nIc (by omega), x2, zB1_q, y2]
              exact ⟨_, _, _, rfl, rfl, Inv_g h⟩
            · rw [if_neg c4, if_neg c4]
              by_cases c5 : what = 5
              · rw [if_pos c5, if_pos c5, zGd_in (by omega) (by omega), nIc (by omega), x3, zB2_q, y3]
                exact ⟨_, _, _, rfl, rfl, Inv_g h⟩
              · rw [if_neg c5, if_neg c5]
                by_cases c6 : what = 6
                · rw [if_pos c6, if_pos c6, zGd_in (by omega) (by omega), nIc (by omega), x4, zB2_q, y4]
                  exact ⟨_, _, _, rfl, rfl, Inv_g h⟩
                · rw [if_neg c6, if_neg c6]
                  by_cases c7 : what = 7
                  · rw [if_pos c7, if_pos c7, zGd_in (by omega) (by omega), nIc (by omega), x5, zB1_q, y5]
                    exact ⟨_, _, _, rfl, rfl, Inv_g h⟩
                  · rw [if_neg c7, if_neg c7]
                    by_cases c8 : what = 8
                    · rw [if_pos c8, if_pos c8, zGd_in (by omega) (by omega), nIc (by omega), x6, zB1_q, y6]
                      exact ⟨_, _, _, rfl, rfl, Inv_g h⟩
                    · rw [if_neg c8, if_neg c8]
                      exact ⟨_, _, _, rfl, rfl, Inv_g h⟩
theorem op_name {oH oR oT oS oP oE oC mZ mY mB mG mP : Rc} {oN mN : Ar} (h : Inv oH oR oT oS oP oN oE oC mZ mY mB mG mP mN) (b i : Int32) : (∃ v mZ', fX7_name oP b i = some (1, 0) ∧ fX10_name mZ mY mP b i = some (v, mZ') ∧ mZ' 0 0 = 1 ∧ Inv oH oR oT oS oP oN oE oC mZ' mY mB mG mP mN) ∨ ∃ v mZ', fX7_name oP b i = some (0, v) ∧ fX10_name mZ mY mP b i = some (v, mZ') ∧ mZ' 0 0 = 0 ∧ Inv oH oR oT oS oP oN oE oC mZ' mY mB mG mP mN := by
  have hh := h
  obtain ⟨_, ⟨w, p, v, hS, hP⟩, _⟩ := hh
  unfold fX7_name fX10_name
  simp only [zJn_q]
  rcases isBlk hP b with ⟨b1, b2⟩ | ⟨nb, ns, ln, j, q, h9, j1, rfl, b1, b2⟩
  · refine Or.inl ⟨0, rs mZ 0 (fun _ => (1 : Int32)), ?_, ?_, rfl, Inv_g h⟩
    · rw [b1, zB1_q, if_pos rfl]
    · rw [b2, zB1_q, if_pos rfl, zLet_q, rs_s, if_neg (by decide)]
  · have h12 := q.2.1.1.1
    obtain ⟨l8, m5, o7, o7', ⟨z, z1, z2, z3, z4, z5⟩, _⟩ := q.2.1.1.2.1 j j1
    rw [b1, b2, zB1_q, zB1_q, if_neg (show ¬ (1 : Int32) = 0 by decide), if_neg (show ¬ (1 : Int32) = 0 by decide)]
    rcases pk_ix i (n := z) (by omega) with d | d | ⟨k, k8, rfl⟩
    · refine Or.inl ⟨0, rs mZ 0 (fun _ => (1 : Int32)), ?_, ?_, rfl, Inv_g h⟩
      · rw [if_pos d]
      · rw [if_pos d, zLet_q, rs_s, if_neg (by decide)]
    · have d0 : ¬ i < 0 := by
        intro d'
        rw [Int32.lt_iff_toInt_lt] at d'
        rw [Int32.le_iff_toInt_le, nI_toInt (by omega)] at d
        have : (0 : Int32).toInt = 0 := by decide
        omega
      have d1 : ¬ i < nI z := by
        rw [Int32.lt_iff_toInt_lt]; rw [Int32.le_iff_toInt_le] at d; omega
      refine Or.inl ⟨0, rs mZ 0 (fun _ => (1 : Int32)), ?_, ?_, rfl, Inv_g h⟩
      · rw [if_neg d0, zGd_in (by omega) (by omega), nIc (by omega), z3, if_neg d1]
      · rw [if_neg d0, zGd_in (by omega) (by omega), nIc (by omega), z4, if_neg d1, zLet_q, rs_s, if_neg (by decide)]
    · refine Or.inr ⟨mP 6 (8 * j + k), rs mZ 0 (fun _ => (0 : Int32)), ?_, ?_, rfl, Inv_g h⟩
      · rw [if_neg (nI_pos (by omega)), zGd_in (by omega) (by omega), nIc (by omega), z3, if_pos (nI_lt k8 (by omega)), lr_8, nI_mul, nI_add, zGd_in (by omega) (by omega), nIc (by omega), Nat.mul_comm, z5 k k8]
      · rw [if_neg (nI_pos (by omega)), zGd_in (by omega) (by omega), nIc (by omega), z4, if_pos (nI_lt k8 (by omega)), zLet_q, rs_s, if_pos (by decide), n8b, zGd_in (by omega) (by omega), nIc (by omega)]
