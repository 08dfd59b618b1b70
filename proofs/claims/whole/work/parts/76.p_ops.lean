/-! own part (pure): calls on cuts and blocks -/
theorem PR_c {oP oE oC oC' mP : Rc} {w p v nb ns : Nat} {ln : Nat → Nat} (h : PR oP oE oC mP w p v nb ns ln) (hc : ∀ k, 5 ≤ k → oC' k = oC k) : PR oP oE oC' mP w p v nb ns ln := by
  obtain ⟨h1, h2, h3, h4, h5⟩ := h
  refine ⟨h1, h2, h3, h4, ?_⟩
  rw [hc 5 (by omega)]
  rcases h5 with h5 | ⟨h5, r, E, m, ⟨e1, e2⟩, f⟩
  · exact Or.inl h5
  · exact Or.inr ⟨h5, fun c hx => by rw [hc 9 (by omega), hc 10 (by omega)]; exact r c hx, E, m, ⟨by rw [hc 7 (by omega)]; exact e1, fun i hi => by rw [hc 6 (by omega)]; exact e2 i hi⟩, f⟩
theorem cutT {mY oP oE oC mP : Rc} {w p v : Nat} (h : IP mY oP oE oC mP w p v) (cut : Int32) : (∃ x, ¬ x = 0 ∧ ¬ x = (3 : Int32) ∧ ¬ x ≤ 0 ∧ fX7_troubleOfCut oP cut = some x ∧ fX10_asked mY mP cut = some x) ∨ ∃ nb ns ln c, PR oP oE oC mP w p v nb ns ln ∧ mY 9 0 = 1 ∧ c < 2 ^ nb ∧ cut = nI c ∧ fX7_troubleOfCut oP cut = some 0 ∧ fX10_asked mY mP cut = some 0 := by
  unfold fX7_troubleOfCut fX10_asked fX7_hasProgram
  rcases h with ⟨p1, p2, p3⟩ | ⟨p1, nb, ns, ln, q⟩
  · refine Or.inl ⟨4, by decide, by decide, by decide, ?_, if_pos p1⟩
    rw [p2, if_pos (by decide), zB1_q, if_pos rfl]
  · have n0 : ¬ mY 9 0 = 0 := by rw [p1]; decide
    have h12 := q.2.1.1.1
    have hn := q.1
    have p12 := two12 h12
    rw [if_neg n0, q.2.1.2.2.2.1, q.2.1.2.2.2.2, if_neg (nI_nle (by omega) (by omega)), zB1_q, if_neg (by decide), one_sh h12]
    rcases pk_ix cut (n := 2 ^ nb) (by omega) with c | c | ⟨j, j8, rfl⟩
    · exact Or.inl ⟨2, by decide, by decide, by decide, by rw [if_pos c], by rw [if_pos c]⟩
    · have c' : ¬ cut < nI (2 ^ nb) := by
        rw [Int32.lt_iff_toInt_lt]; rw [Int32.le_iff_toInt_le] at c; omega
      refine Or.inl ⟨2, by decide, by decide, by decide, ?_, ?_⟩
      · split
        · rfl
        · first | rfl | rw [if_pos c]
      · split
        · rfl
        · first | rfl | rw [if_neg c']
    · refine Or.inr ⟨nb, ns, ln, j, q, p1, j8, rfl, ?_, ?_⟩
      · rw [if_neg (nI_pos (by omega)), if_neg (nI_ge j8 (by omega))]
      · rw [if_neg (nI_pos (by omega)), if_pos (nI_lt j8 (by omega))]
/-- follow in a told program -/
theorem folP {oP oE oC mP oH mY : Rc} {w p v nb ns NN : Nat} {ln : Nat → Nat} (hN : 5000 ≤ NN) (h : PR oP oE oC mP w p v nb ns ln) (hS : IS oH mY w p v) (cut : Int32) : ∃ oC', fX0_follow NN oE oC (oP 0 0) cut = some oC' ∧ fX7_ticksOf NN oH oP oE oC cut = some (TT (nI w) (nI p) (nI v) mP nb cut, oC') ∧ oC' 2 0 = gtS (nI w) mP cut nb ∧ oC' 3 0 = mcS mP cut nb + bc (enS mP cut nb) ∧ oC' 4 0 = imax (mxS mP cut nb) (bc (enS mP cut nb)) ∧ (∀ b, b < nb → oC' 0 b = mvS mP cut b) ∧ oC' 0 nb = enS mP cut nb ∧ PR oP oE oC' mP w p v nb ns ln := by
  obtain ⟨oC', f1, f2, f3, f4, f5, f6, f7, f8⟩ := follow6 (oC := oC) (cut := cut) (NN := NN) (by omega) h.2.1 h.2.2.2.1
  have e0 := h.2.1.2.2.2.1
  refine ⟨oC', by rw [e0]; exact f1, ?_, f3, f4, f5, f6, f7, PR_c h f8⟩
  unfold fX7_ticksOf
  rw [e0, f1, zB1_q, f2, f4, hS.2.2.2.2.2.2.2.2.2.1]
  unfold TT
  rw [tk_split, Int32.mul_add, Int32.add_assoc]
theorem nedP {oP oE oC mP oH mY mU mJ : Rc} {w p v nb ns NN : Nat} {ln : Nat → Nat} (hN : 5000 ≤ NN) (h : PR oP oE oC mP w p v nb ns ln) (hS : IS oH mY w p v) : ∃ mU' mJ', fX10_needs NN mY mU mJ mP = some (mU', mJ') ∧ ∀ b, b < nb → NJ mJ' (nI w) (nI p) mP b := by
  obtain ⟨mU', mJ', n1, n2⟩ := needs10 (mU := mU) (mJ := mJ) (NN := NN) (by omega) h.2.1 hS.2.2.1 hS.2.2.2.1 hS.2.2.2.2.2.2.2.2.1
  rw [hS.2.2.2.2.2.2.1] at n2
  exact ⟨mU', mJ', n1, n2⟩
theorem tikP {oP oE oC mP oH mY mJ mK : Rc} {w p v nb ns NN : Nat} {ln : Nat → Nat} (hN : 5000 ≤ NN) (h : PR oP oE oC mP w p v nb ns ln) (hS : IS oH mY w p v) (hj : ∀ b, b < nb → NJ mJ (nI w) (nI p) mP b) (cut : Int32) : ∃ mK', fX10_ticksOf NN mY mJ mK mP cut = some (TT (nI w) (nI p) (nI v) mP nb cut, mK') ∧ (∀ b, b < nb → mK' 30 b = mvS mP cut b) ∧ mK' 30 nb = enS mP cut nb := ticks10 (by omega) h.2.1 hj hS.2.2.2.2.2.2.2.2.2.2
theorem Inv_c {oH oR oT oS oP oE oC oC' mZ mY mB mG mP : Rc} {oN mN : Ar} {w p v nb ns : Nat} {ln : Nat → Nat} (h : Inv oH oR oT oS oP oN oE oC mZ mY mB mG mP mN) (hS : IS oH mY w p v) (h9 : mY 9 0 = 1) (h' : PR oP oE oC' mP w p v nb ns ln) : Inv oH oR oT oS oP oN oE oC' mZ mY mB mG mP mN := ⟨h.1, ⟨w, p, v, hS, Or.inr ⟨h9, nb, ns, ln, h'⟩⟩, h.2.2⟩
theorem op_ticks {oH oR oT oS oP oE oC mZ mY mB mG mP mU mJ mK : Rc} {oN mN : Ar} {NN : Nat} (hN : 5000 ≤ NN) (h : Inv oH oR oT oS oP oN oE oC mZ mY mB mG mP mN) (cut : Int32) : ∃ v oH' oC' mZ' mU' mJ' mK', fX7_ticks NN oH oP oE oC cut = some (v, oH', oC') ∧ fX10_ticks NN mZ mY mU mJ mK mP cut = some (v, mZ', mU', mJ', mK') ∧ Inv oH' oR oT oS oP oN oE oC' mZ' mY mB mG mP mN := by
  have hh := h
  obtain ⟨_, ⟨w, p, v, hS, hP⟩, _⟩ := hh
  rcases cutT hP cut with ⟨x, x0, x3, xl, t1, t2⟩ | ⟨nb, ns, ln, c, q, h9, c1, rfl, t1, t2⟩
  · refine ⟨-1, _, oC, _, mU, mJ, mK, ?_, ?_, Inv_t h (x := x) (z := 0) x3⟩
    · unfold fX7_ticks; rw [t1, zB1_q, ref1 x0, zB2_q, if_neg (by decide)]
    · unfold fX10_ticks; rw [zLet_q, t2, zB1_q, if_neg xl, zB1_q, rfd10, zB2_q]
  · obtain ⟨oC', _, f2, _, _, _, _, _, f8⟩ := folP (oH := rs oH 10 (fun _ => (0 : Int32))) (mY := mY) hN q hS (nI c)
    obtain ⟨mU', mJ', n1, n2⟩ := nedP (mU := mU) (mJ := mJ) hN q hS
    obtain ⟨mK', k1, _, _⟩ := tikP (mK := mK) hN q hS n2 (nI c)
    refine ⟨TT (nI w) (nI p) (nI v) mP nb (nI c), _, oC', _, mU', mJ', mK', ?_, ?_, Inv_c (Inv_t h (x := 0) (z := 0) (by decide)) hS h9 f8⟩
    · unfold fX7_ticks; rw [t1, zB1_q, ref0, zB2_q, if_pos rfl, f2, zB2_q]
    · unfold fX10_ticks; rw [zLet_q, t2, zB1_q, if_pos (by decide), n1, zB2_q, k1, zB2_q, don10, zB2_q]
theorem op_gates {oH oR oT oS oP oE oC mZ mY mB mG mP mU mJ : Rc} {oN mN : Ar} {NN : Nat} (hN : 5000 ≤ NN) (h : Inv oH oR oT oS oP oN oE oC mZ mY mB mG mP mN) (cut : Int32) : ∃ v oH' oC' mZ' mU' mJ', fX7_gates NN oH oP oE oC cut = some (v, oH', oC') ∧ fX10_gates NN mZ mY mU mJ mP cut = some (v, mZ', mU', mJ') ∧ Inv oH' oR oT oS oP oN oE oC' mZ' mY mB mG mP mN := by
  have hh := h
  obtain ⟨_, ⟨w, p, v, hS, hP⟩, _⟩ := hh
  rcases cutT hP cut with ⟨x, x0, x3, xl, t1, t2⟩ | ⟨nb, ns, ln, c, q, h9, c1, rfl, t1, t2⟩
  · refine ⟨-1, _, oC, _, mU, mJ, ?_, ?_, Inv_t h (x := x) (z := 0) x3⟩
    · unfold fX7_gates; rw [t1, zB1_q, ref1 x0, zB2_q, if_neg (by decide)]
    · unfold fX10_gates; rw [zLet_q, t2, zB1_q, if_neg xl, zB1_q, rfd10, zB2_q]
  · obtain ⟨oC', f1, _, f3, _, _, _, _, f8⟩ := folP (oH := oH) (mY := mY) hN q hS (nI c)
    obtain ⟨mU', mJ', n1, n2⟩ := nedP (mU := mU) (mJ := mJ) hN q hS
    have hg := gates10 (cut := nI c) (NN := NN) (by omega) q.2.1 n2
    refine ⟨gtS (nI w) mP (nI c) nb, _, oC', _, mU', mJ', ?_, ?_, Inv_c (Inv_t h (x := 0) (z := 0) (by decide)) hS h9 f8⟩
    · unfold fX7_gates; rw [t1, zB1_q, ref0, zB2_q, if_pos rfl, f1, zB1_q, f3]
    · unfold fX10_gates; rw [zLet_q, t2, zB1_q, if_pos (by decide), n1, zB2_q, hg, zB1_q, don10, zB2_q]
theorem mv10 {oP mP mK : Rc} {cut : Int32} {nb ns NN : Nat} {ln : Nat → Nat} (hN : 5000 ≤ NN) (h : PG oP mP nb ns ln) (k1 : ∀ b, b < nb → mK 30 b = mvS mP cut b) (k2 : mK 30 nb = enS mP cut nb) : (∀ J, fX10_moved_L38 mP NN mK J NN (0 : Int32) (0 : Int32) = J (mcS mP cut nb + bc (enS mP cut nb))) ∧ ∀ J, fX10_room_L38 mP NN mK J NN (0 : Int32) (0 : Int32) = J (imax (mxS mP cut nb) (bc (enS mP cut nb))) := by
  have h12 := h.1.1
  have m0 := h.2.2.2.2
  have hb : ∀ b, b < nb → fX10_bits NN (mK 30 b) = some (bc (mvS mP cut b)) := fun b c => by rw [k1 b c]; exact bits10 (by omega) (mv_B8 h cut c)
  have he : fX10_bits NN (mK 30 nb) = some (bc (enS mP cut nb)) := by rw [k2]; exact bits10 (by omega) (en_B8 mP cut nb)
  have keyA : ∀ (n b : Nat), nb - b + 1 < n → b ≤ nb → ∀ J, fX10_moved_L38 mP NN mK J n (mcS mP cut b) (nI b) = J (mcS mP cut nb + bc (enS mP cut nb)) := by
    intro n
    induction n with
    | zero => intro b h; omega
    | succ n ih =>
      intro b hn hbn J
      rw [fX10_moved_L38_s, m0, if_neg (nI_nlt hbn (by omega)), zGd_in (by omega) (by omega), nIc (by omega)]
      by_cases c : b < nb
      · rw [hb b c, zB1_q, zLet_q, zLet_q, nI_1]
        exact ih (b + 1) (by omega) (by omega) J
      · have : b = nb := by omega
        subst this
        obtain ⟨n, rfl⟩ : ∃ n', n = n' + 1 := ⟨n - 1, by omega⟩
        rw [he, zB1_q, zLet_q, zLet_q, nI_1, fX10_moved_L38_s, m0, if_pos (nI_lt (by omega) (by omega))]
  have keyB : ∀ (n b : Nat), nb - b + 1 < n → b ≤ nb → ∀ J, fX10_room_L38 mP NN mK J n (mxS mP cut b) (nI b) = J (imax (mxS mP cut nb) (bc (enS mP cut nb))) := by
    intro n
    induction n with
    | zero => intro b h; omega
    | succ n ih =>
      intro b hn hbn J
      rw [fX10_room_L38_s, m0, if_neg (nI_nlt hbn (by omega)), zGd_in (by omega) (by omega), nIc (by omega)]
      by_cases c : b < nb
      · rw [hb b c, zB1_q, zLet_q, zLet_q, nI_1, imax_e]
        exact ih (b + 1) (by omega) (by omega) J
      · have : b = nb := by omega
        subst this
        obtain ⟨n, rfl⟩ : ∃ n', n = n' + 1 := ⟨n - 1, by omega⟩
        rw [he, zB1_q, zLet_q, zLet_q, nI_1, imax_e, fX10_room_L38_s, m0, if_pos (nI_lt (by omega) (by omega))]
  exact ⟨fun J => keyA NN 0 (by omega) (by omega) J, fun J => keyB NN 0 (by omega) (by omega) J⟩
theorem op_moved {oH oR oT oS oP oE oC mZ mY mB mG mP mU mJ mK : Rc} {oN mN : Ar} {NN : Nat} (hN : 5000 ≤ NN) (h : Inv oH oR oT oS oP oN oE oC mZ mY mB mG mP mN) (cut : Int32) : ∃ v oH' oC' mZ' mU' mJ' mK', fX7_moved NN oH oP oE oC cut = some (v, oH', oC') ∧ fX10_moved NN mZ mY mU mJ mK mP cut = some (v, mZ', mU', mJ', mK') ∧ Inv oH' oR oT oS oP oN oE oC' mZ' mY mB mG mP mN := by
  have hh := h
  obtain ⟨_, ⟨w, p, v, hS, hP⟩, _⟩ := hh
  rcases cutT hP cut with ⟨x, x0, x3, xl, t1, t2⟩ | ⟨nb, ns, ln, c, q, h9, c1, rfl, t1, t2⟩
  · refine ⟨-1, _, oC, _, mU, mJ, mK, ?_, ?_, Inv_t h (x := x) (z := 0) x3⟩
    · unfold fX7_moved; rw [t1, zB1_q, ref1 x0, zB2_q, if_neg (by decide)]
    · unfold fX10_moved; rw [zLet_q, t2, zB1_q, if_neg xl, zB1_q, rfd10, zB2_q]
  · obtain ⟨oC', f1, _, _, f4, _, _, _, f8⟩ := folP (oH := oH) (mY := mY) hN q hS (nI c)
    obtain ⟨mU', mJ', n1, n2⟩ := nedP (mU := mU) (mJ := mJ) hN q hS
    obtain ⟨mK', k1, k2, k3⟩ := tikP (mK := mK) hN q hS n2 (nI c)
    have hm := (mv10 hN q.2.1 k2 k3).1
    refine ⟨mcS mP (nI c) nb + bc (enS mP (nI c) nb), _, oC', _, mU', mJ', mK', ?_, ?_, Inv_c (Inv_t h (x := 0) (z := 0) (by decide)) hS h9 f8⟩
    · unfold fX7_moved; rw [t1, zB1_q, ref0, zB2_q, if_pos rfl, f1, zB1_q, f4]
    · unfold fX10_moved; rw [zLet_q, t2, zB1_q, if_pos (by decide), n1, zB2_q, k1, zB2_q, zJn_q, hm, don10, zB2_q]
theorem op_room {oH oR oT oS oP oE oC mZ mY mB mG mP mU mJ mK : Rc} {oN mN : Ar} {NN : Nat} (hN : 5000 ≤ NN) (h : Inv oH oR oT oS oP oN oE oC mZ mY mB mG mP mN) (cut : Int32) : ∃ v oH' oC' mZ' mU' mJ' mK', fX7_room NN oH oP oE oC cut = some (v, oH', oC') ∧ fX10_room NN mZ mY mU mJ mK mP cut = some (v, mZ', mU', mJ', mK') ∧ Inv oH' oR oT oS oP oN oE oC' mZ' mY mB mG mP mN := by
  have hh := h
  obtain ⟨_, ⟨w, p, v, hS, hP⟩, _⟩ := hh
  rcases cutT hP cut with ⟨x, x0, x3, xl, t1, t2⟩ | ⟨nb, ns, ln, c, q, h9, c1, rfl, t1, t2⟩
  · refine ⟨-1, _, oC, _, mU, mJ, mK, ?_, ?_, Inv_t h (x := x) (z := 0) x3⟩
    · unfold fX7_room; rw [t1, zB1_q, ref1 x0, zB2_q, if_neg (by decide)]
    · unfold fX10_room; rw [zLet_q, t2, zB1_q, if_neg xl, zB1_q, rfd10, zB2_q]
  · obtain ⟨oC', f1, _, _, _, f5, _, _, f8⟩ := folP (oH := oH) (mY := mY) hN q hS (nI c)
    obtain ⟨mU', mJ', n1, n2⟩ := nedP (mU := mU) (mJ := mJ) hN q hS
    obtain ⟨mK', k1, k2, k3⟩ := tikP (mK := mK) hN q hS n2 (nI c)
    have hm := (mv10 hN q.2.1 k2 k3).2
    refine ⟨imax (mxS mP (nI c) nb) (bc (enS mP (nI c) nb)), _, oC', _, mU', mJ', mK', ?_, ?_, Inv_c (Inv_t h (x := 0) (z := 0) (by decide)) hS h9 f8⟩
    · unfold fX7_room; rw [t1, zB1_q, ref0, zB2_q, if_pos rfl, f1, zB1_q, f5]
    · unfold fX10_room; rw [zLet_q, t2, zB1_q, if_pos (by decide), n1, zB2_q, k1, zB2_q, zJn_q, hm, don10, zB2_q]
