/-! own part (pure): the class's reckoning of what blocks need -/
def xO (mP : Rc) (b : Nat) : Int32 := sw (opW mP) (8 * b) (mP 5 b).toNatClampNeg
def xC (W : Int32) (mP : Rc) (b : Nat) : Int32 := sw (cdW W mP) (8 * b) (mP 5 b).toNatClampNeg * mP 4 b
def xG (W : Int32) (mP : Rc) (b : Nat) : Int32 := sw (gtW W mP) (8 * b) (mP 5 b).toNatClampNeg
def xD (W : Int32) (mP : Rc) (b : Nat) : Int32 := (dpF W mP (8 * b) (mP 5 b).toNatClampNeg (fun _ => 0) 0).2
def xK (W P : Int32) (mP : Rc) (b : Nat) : Int32 := 1 + mP 4 b * imax 1 ((xD W mP b + P - 1) / P)
def xR (mP : Rc) (b : Nat) : Int32 := (rdF mP (8 * b) (mP 5 b).toNatClampNeg 0 0).1
def xW (mP : Rc) (b : Nat) : Int32 := so (wrW mP) (8 * b) (mP 5 b).toNatClampNeg
def NR (oE : Rc) (W P : Int32) (mP : Rc) (b : Nat) : Prop := oE 0 b = xO mP b ∧ oE 1 b = xC W mP b ∧ oE 2 b = xG W mP b ∧ oE 3 b = xD W mP b ∧ oE 4 b = xK W P mP b ∧ oE 5 b = xR mP b ∧ oE 6 b = xW mP b
/-- a told program, both sides -/
def PG (oP mP : Rc) (nb ns : Nat) (ln : Nat → Nat) : Prop := Pg oP mP nb ns ln ∧ StR oP mP ns ∧ ns ≤ 600 ∧ oP 0 0 = nI nb ∧ mP 0 0 = nI nb
theorem StR_le {oP mP : Rc} {g ns : Nat} (h : StR oP mP ns) (hg : g ≤ ns) : StR oP mP g := fun i hi => h i (by omega)
theorem KR9 {a b : Int32} (h : KR a b) (hb : b = nI 9) : a = nI 4 := by
  rcases h with ⟨a, _⟩ | ⟨_, e⟩ | ⟨_, e⟩ | ⟨c, hc, _, e⟩
  · exact a
  · rw [hb] at e; exact absurd e (by decide)
  · rw [hb] at e; exact absurd e (by decide)
  · rw [hb] at e; exact absurd e.symm (sgN_lit hc).1
theorem PG_v {oP mP : Rc} {g ns : Nat} (h : StR oP mP ns) (hg : g ≤ ns) : ∀ i, i < g → mP 11 i = nI 9 → ∃ v, v < 8 ∧ mP 12 i = nI v := by
  intro i hi e
  obtain ⟨a, b, c⟩ := h i (by omega)
  obtain ⟨v, v8, hv⟩ := c (KR9 a e)
  exact ⟨v, v8, by rw [← b]; exact hv⟩
theorem PG_LW {oP mP : Rc} {nb ns b j : Nat} {ln : Nat → Nat} (h : PG oP mP nb ns ln) (hb : b < nb) (hj : j < ln b) : LW mP (8 * b + j) := by
  obtain ⟨t, f, g, a1, a2, a3, a4, a5, a6, a7, a8, a9, a10, a11, a12⟩ := h.1.2.2 b j hb hj
  have := h.2.2.1
  exact ⟨t, f, g, a1, a2, by omega, a5, a7, a9, a11, a12, PG_v h.2.1 a3⟩
def FE (oE oE' : Rc) (b : Nat) : Prop := (∀ k j, j ≠ b → k ≤ 6 → oE' k j = oE k j) ∧ oE' 4 b = oE 4 b ∧ oE' 9 0 = oE 9 0
theorem sumDep6 {oP mP oE oQ : Rc} {W : Int32} {dp : Ar} {b lc f g NN : Nat} (hN : 1000 ≤ NN) (hlc : lc < 96) (hb : b < 12) (o10 : oP 10 lc = nI f) (o10' : oP 10 (lc + 1) = nI g) (hf : f ≤ g) (hg : g ≤ 600) (hst : StR oP mP g) (hh : Hts (mP 11) f g 1) (hW : oE 9 0 = W) (ha : ∀ i, i < 8 → oE 7 i = dp i) : ∃ oE' oQ', fX2_sumDepth NN oP oE oQ (nI b) (nI lc) = some ((ev (FD W dp) mP f (g - f) []).headD 0, oE', oQ') ∧ CE oE oE' b (sw (fun i => wO (mP 11 i)) f (g - f)) (sw (fun i => wC W (mP 11 i)) f (g - f)) (sw (fun i => wG W (mP 11 i)) f (g - f)) (so (fun i => wA (mP 11 i) (mP 12 i)) f (g - f)) := by
  have hv := PG_v hst (Nat.le_refl g)
  obtain ⟨oE', oQ1, r1, r2, r3, r4, r5⟩ := sumD6 (W := W) (dp := oE 7) hlc hb o10' hg hst NN f 0 [] oE (rs oQ 1 (fun _ => nI 0)) (by omega) hf (HS_of hh) rfl (by omega) trivial (by simp (disch := omega) only [zLet_e, zJn_e, zB1_s, zB2_s, zB3_s, zB4_s, zB5_s, zB6_s, zB7_s, zGd_in, zGd_b0, zGd_b1, rs_s, rs_n, upd_s, upd_n, ite_t, ite_f, if_true, if_false, ne_eq, not_true, not_false_iff]) hW rfl
  rw [ev_agree ha hv (g - f) f [] (by omega)] at r3 r5
  obtain ⟨a, t, e⟩ := one_of (st := ev (FD W dp) mP f (g - f) []) (by omega)
  rw [e] at r3 r5 ⊢
  have ht : t.length = 0 := by have : t.length + 1 = 1 := r5; omega
  obtain ⟨oQ2, p1, p2, p3⟩ := pop6 r3 (by rw [r4, ht]) (by omega)
  refine ⟨oE', oQ2, ?_, r2⟩
  unfold fX2_sumDepth fX3_empty
  simp (disch := omega) only [zLet_q, zJn_q, zB1_q, zGd_in, nIc, o10, lr_0]
  rw [r1]
  simp only [p1, zB2_q]
  rfl
theorem reckLine {oP mP oE oQ : Rc} {W : Int32} {dp : Ar} {b lc l t f g ns NN : Nat} (hN : 1000 ≤ NN) (hlc : lc < 96) (hb : b < 12) (hns : ns ≤ 600) (hst : StR oP mP ns) (ht : t < 8) (hf : f ≤ g) (hg : g ≤ ns) (a4 : oP 8 lc = nI t) (a5 : mP 8 l = nI t) (a6 : oP 10 lc = nI f) (a7 : mP 9 l = nI f) (a8 : oP 10 (lc + 1) = nI g) (a9 : mP 10 l = nI g) (a10 : oP 9 lc = mP 7 l) (a11 : mP 7 l = nM 1 ∨ ∃ a, a < 8 ∧ mP 7 l = nI a) (a12 : Hts (mP 11) f g 1) (hW : oE 9 0 = W) (ha : ∀ i, i < 8 → oE 7 i = dp i) : ∃ oE' oQ', fX2_reckonLine NN oP oE oQ (nI b) (nI lc) = some (oE', oQ') ∧ oE' 0 b = oE 0 b + opW mP l ∧ oE' 1 b = oE 1 b + cdW W mP l ∧ oE' 2 b = oE 2 b + gtW W mP l ∧ oE' 3 b = imax (oE 3 b) (dLn W mP dp l) ∧ oE' 5 b = oE 5 b ||| (asW mP l &&& (oE 10 0 ^^^ (-1))) ∧ oE' 6 b = oE 6 b ||| wrW mP l ∧ oE' 10 0 = (if mP 7 l = (-1 : Int32) then oE 10 0 ||| ((1 : Int32) <<< ((mP 8 l) &&& 31)) else oE 10 0) ∧ (∀ i, i < 8 → oE' 7 i = upd dp (mP 8 l).toNatClampNeg (dLn W mP dp l) i) ∧ FE oE oE' b := by
  obtain ⟨q1, q2⟩ := lFG a7 a9 hf (by omega)
  obtain ⟨oE5, oQ6, s1, s2⟩ := sumDep6 (oE := rs oE 1 (upd (oE 1) b (oE 1 b + 1))) (oQ := oQ) (W := W) (dp := dp) hN hlc hb a6 a8 hf (by omega) (StR_le hst hg) a12 (by rw [rs_n _ _ (by omega)]; exact hW) (fun i hi => by rw [rs_n _ _ (by omega)]; exact ha i hi)
  have hW5 : oE5 9 0 = W := by rw [s2.2.2.2.2.2 9 (by omega) (by omega) (by omega) (by omega), rs_n _ _ (by omega)]; exact hW
  have h75 : ∀ i, i < 8 → oE5 7 i = dp i := fun i hi => by rw [s2.2.2.2.2.2 7 (by omega) (by omega) (by omega) (by omega), rs_n _ _ (by omega)]; exact ha i hi
  have k3 : oE5 3 = oE 3 := by rw [s2.2.2.2.2.2 3 (by omega) (by omega) (by omega) (by omega), rs_n _ _ (by omega)]
  have k4 : oE5 4 = oE 4 := by rw [s2.2.2.2.2.2 4 (by omega) (by omega) (by omega) (by omega), rs_n _ _ (by omega)]
  have k6 : oE5 6 = oE 6 := by rw [s2.2.2.2.2.2 6 (by omega) (by omega) (by omega) (by omega), rs_n _ _ (by omega)]
  have k9 : oE5 9 0 = oE 9 0 := by rw [hW5, hW]
  have k10 : oE5 10 0 = oE 10 0 := by rw [s2.2.2.2.2.2 10 (by omega) (by omega) (by omega) (by omega), rs_n _ _ (by omega)]
  obtain ⟨c0, c1, c2, c5, cf, _⟩ := s2
  rw [rs_n _ _ (by omega)] at c0 c2 c5
  rw [rs_s, upd_s] at c1
  rw [rs_n oE _ (show (10 : Nat) ≠ 1 by omega)] at c5
  have cf' : ∀ j, j ≠ b → oE5 0 j = oE 0 j ∧ oE5 1 j = oE 1 j ∧ oE5 2 j = oE 2 j ∧ oE5 5 j = oE 5 j := fun j hj => by
    obtain ⟨x0, x1, x2, x5⟩ := cf j hj
    rw [rs_n _ _ (by omega)] at x0 x2 x5
    rw [rs_s, upd_n hj] at x1
    exact ⟨x0, x1, x2, x5⟩
  have e8 : (mP 8 l).toNatClampNeg = t := by rw [a5]; exact nIc (by omega)
  have h9 : oP 9 (nI lc).toNatClampNeg = mP 7 l := by rw [nIc (by omega)]; exact a10
  have h8 : oP 8 (nI lc).toNatClampNeg = nI t := by rw [nIc (by omega)]; exact a4
  unfold fX2_reckonLine
  generalize hd0 : (ev (FD W dp) mP f (g - f) []).headD 0 = d0 at *
  rcases a11 with a11 | ⟨a, x8, a11⟩
  · have ca : mP 7 l = (-1 : Int32) := a11
    have hd : dLn W mP dp l = d0 := by unfold dLn; rw [q1, q2, hd0, if_pos ca]
    rw [hd, e8]
    refine ⟨rs (rs (rs (rs oE5 10 (fun _ => oE5 10 0 ||| ((1 : Int32) <<< (nI t &&& 31)))) 7 (upd (oE5 7) t d0)) 3 (upd (oE5 3) b (imax (oE5 3 b) d0))) 6 (upd (oE5 6) b (oE5 6 b ||| ((1 : Int32) <<< (nI t &&& 31)))), oQ6, ?_, ?_, ?_, ?_, ?_, ?_, ?_, ?_, ?_, ⟨?_, ?_, ?_⟩⟩
    · rw [h9, h8]
      simp (disch := omega) only [zLet_q, zJn_q, zGd_in, nIc, s1, zB3_q, if_pos ca, rs_n, rs_s, ↓imax_e]
    · simp (disch := omega) only [rs_n, c0]
      unfold opW; rw [if_pos ca, q1, q2, Int32.zero_add]
    · simp (disch := omega) only [rs_n, c1]
      unfold cdW; rw [if_pos ca, q1, q2, Int32.add_assoc]
    · simp (disch := omega) only [rs_n, c2]
      unfold gtW; rw [if_pos ca, q1, q2, Int32.zero_add]
    · simp (disch := omega) only [rs_n, rs_s, upd_s, k3]
    · simp (disch := omega) only [rs_n, c5]
      unfold asW; rw [if_pos ca, q1, q2]
    · simp (disch := omega) only [rs_s, upd_s, k6]
      unfold wrW; rw [a5]
    · simp (disch := omega) only [rs_n, rs_s, k10]
      rw [if_pos ca, a5]
    · intro i hi
      simp (disch := omega) only [rs_n, rs_s]
      by_cases ci : i = t
      · subst ci; rw [upd_s, upd_s]
      · rw [upd_n ci, upd_n ci]; exact h75 i hi
    · intro k j hj hk
      obtain ⟨x0, x1, x2, x5⟩ := cf' j hj
      have : k = 0 ∨ k = 1 ∨ k = 2 ∨ k = 3 ∨ k = 4 ∨ k = 5 ∨ k = 6 := by omega
      rcases this with rfl | rfl | rfl | rfl | rfl | rfl | rfl
      · simp (disch := omega) only [rs_n, x0]
      · simp (disch := omega) only [rs_n, x1]
      · simp (disch := omega) only [rs_n, x2]
      · simp (disch := omega) only [rs_n, rs_s, upd_n, k3]
      · simp (disch := omega) only [rs_n, k4]
      · simp (disch := omega) only [rs_n, x5]
      · simp (disch := omega) only [rs_s, upd_n, k6]
    · simp (disch := omega) only [rs_n, k4]
    · simp (disch := omega) only [rs_n, k9]
  · have ca : ¬ mP 7 l = (-1 : Int32) := by rw [a11]; exact fun h => (nI_m1 (a := a) (by omega)).mp h
    have ea : (mP 7 l).toNatClampNeg = a := by rw [a11]; exact nIc (by omega)
    have hd : dLn W mP dp l = imax d0 (imax (dp a) (dp t)) + dO W 8 := by unfold dLn; rw [q1, q2, hd0, if_neg ca, ea, e8]
    obtain ⟨oE14, u1, u2⟩ := ask6 (oE := oE5) (x := nI a) hb
    obtain ⟨oE15, v1, v2⟩ := ask6 (oE := oE14) (x := nI t) hb
    have hko : KO (nI 63) (nI 8) := Or.inr (Or.inl ⟨rfl, rfl⟩)
    obtain ⟨oE16, w1, w2⟩ := takeOp6 (oE := oE15) hb hko
    have f9 : oE15 9 0 = W := by rw [v2.2.2.2.2.2 9 (by omega) (by omega) (by omega) (by omega), u2.2.2.2.2.2 9 (by omega) (by omega) (by omega) (by omega)]; exact hW5
    rw [f9] at w2
    have w3 := CE_t (CE_t u2 v2) w2
    have j9 : oE16 9 0 = W := by rw [w3.2.2.2.2.2 9 (by omega) (by omega) (by omega) (by omega)]; exact hW5
    have hdd := depth6 (oE := oE16) hko
    rw [j9] at hdd
    have j7 : oE16 7 = oE5 7 := w3.2.2.2.2.2 7 (by omega) (by omega) (by omega) (by omega)
    have j3 : oE16 3 = oE 3 := (w3.2.2.2.2.2 3 (by omega) (by omega) (by omega) (by omega)).trans k3
    have j4 : oE16 4 = oE 4 := (w3.2.2.2.2.2 4 (by omega) (by omega) (by omega) (by omega)).trans k4
    have j6 : oE16 6 = oE 6 := (w3.2.2.2.2.2 6 (by omega) (by omega) (by omega) (by omega)).trans k6
    have j10 : oE16 10 0 = oE 10 0 := by rw [w3.2.2.2.2.2 10 (by omega) (by omega) (by omega) (by omega)]; exact k10
    have ja := h75 a x8
    have jt := h75 t ht
    rw [← j7] at ja jt
    obtain ⟨y0, y1, y2, y5, yf, _⟩ := w3
    rw [c0] at y0
    rw [c1] at y1
    rw [c2] at y2
    rw [c5, k10, bit2] at y5
    rw [hd, e8]
    have d8 : dO W (nI 8) = dO W 8 := rfl
    rw [d8] at hdd
    generalize dO W 8 = D8 at *
    refine ⟨rs (rs (rs oE16 7 (upd (oE16 7) t (imax d0 (imax (dp a) (dp t)) + D8))) 3 (upd (oE16 3) b (imax (oE16 3 b) (imax d0 (imax (dp a) (dp t)) + D8)))) 6 (upd (oE16 6) b (oE16 6 b ||| ((1 : Int32) <<< (nI t &&& 31)))), oQ6, ?_, ?_, ?_, ?_, ?_, ?_, ?_, ?_, ?_, ⟨?_, ?_, ?_⟩⟩
    · rw [h9, h8]
      simp (disch := omega) only [zLet_q, zJn_q, zGd_in, nIc, s1, zB3_q, if_neg ca]
      rw [a11]
      simp (disch := omega) only [zLet_q, zGd_in, nIc, u1, v1, lr_63, w1, zB1_q, ja, jt, ↓imax_e, hdd, rs_n, rs_s]
    · simp (disch := omega) only [rs_n, y0]
      unfold opW; rw [if_neg ca, q1, q2, Int32.zero_add, Int32.zero_add, Int32.add_assoc, Int32.add_comm 1]
    · simp (disch := omega) only [rs_n, y1]
      unfold cdW
      rw [if_neg ca, q1, q2, show wC W (nI 8) = 1 from rfl, Int32.zero_add, Int32.zero_add]
      rw [show (2 : Int32) = 1 + 1 from rfl]
      generalize sw (fun i => wC W (mP 11 i)) f (g - f) = S
      rw [Int32.add_assoc, Int32.add_assoc, Int32.add_assoc, Int32.add_comm S 1]
    · simp (disch := omega) only [rs_n, y2]
      unfold gtW; rw [if_neg ca, q1, q2, Int32.zero_add, Int32.zero_add, Int32.add_assoc, Int32.add_comm (gO W 8)]; rfl
    · simp (disch := omega) only [rs_n, rs_s, upd_s, j3]
    · simp (disch := omega) only [rs_n, y5]
      unfold asW; rw [if_neg ca, q1, q2, a11, a5, Int32.or_zero]
    · simp (disch := omega) only [rs_s, upd_s, j6]
      unfold wrW; rw [a5]
    · simp (disch := omega) only [rs_n, j10]
      rw [if_neg ca]
    · intro i hi
      simp (disch := omega) only [rs_n, rs_s]
      by_cases ci : i = t
      · subst ci; rw [upd_s, upd_s]
      · rw [upd_n ci, upd_n ci, j7]; exact h75 i hi
    · intro k j hj hk
      obtain ⟨x0, x1, x2, x5⟩ := cf' j hj
      obtain ⟨z0, z1, z2, z5⟩ := yf j hj
      have : k = 0 ∨ k = 1 ∨ k = 2 ∨ k = 3 ∨ k = 4 ∨ k = 5 ∨ k = 6 := by omega
      rcases this with rfl | rfl | rfl | rfl | rfl | rfl | rfl
      · simp (disch := omega) only [rs_n, z0, x0]
      · simp (disch := omega) only [rs_n, z1, x1]
      · simp (disch := omega) only [rs_n, z2, x2]
      · simp (disch := omega) only [rs_n, rs_s, upd_n, j3]
      · simp (disch := omega) only [rs_n, j4]
      · simp (disch := omega) only [rs_n, z5, x5]
      · simp (disch := omega) only [rs_s, upd_n, j6]
    · simp (disch := omega) only [rs_n, j4]
    · simp (disch := omega) only [rs_n]
      rw [j9, hW]
