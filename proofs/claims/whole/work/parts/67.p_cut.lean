/-! own part (pure): a cut followed, both sides -/
theorem B8_so {w : Nat → Int32} {g : Nat} (h : ∀ i, i < g → B8 (w i)) : ∀ (n k : Nat), k + n ≤ g → B8 (so w k n) := by
  intro n
  induction n with
  | zero => intro k _; exact B8_0
  | succ n ih => intro k hk; exact B8_or (h k (by omega)) (ih (k + 1) (by omega))
theorem B8_as {mP : Rc} {l : Nat} (h : LW mP l) : B8 (asW mP l) ∧ B8 (wrW mP l) := by
  obtain ⟨t, f, g, w1, w2, w3, w4, w5, w6, w7, w8, w9⟩ := h
  obtain ⟨q1, q2⟩ := lFG w5 w6 w2 w3
  have hs : B8 (so (fun i => wA (mP 11 i) (mP 12 i)) (lF mP l) (lG mP l)) := by
    rw [q1, q2]
    refine B8_so (g := g) (fun i hi => ?_) _ _ (by omega)
    show B8 (wA (mP 11 i) (mP 12 i))
    unfold wA
    by_cases c : mP 11 i = (9 : Int32)
    · obtain ⟨v, v8, e⟩ := w9 i hi c
      rw [if_pos c, e]
      exact B8_sh v8
    · rw [if_neg c]; exact B8_0
  have ht : B8 ((1 : Int32) <<< ((mP 8 l) &&& 31)) := by rw [w4]; exact B8_sh w1
  refine ⟨?_, ht⟩
  unfold asW
  rcases w7 with w7 | ⟨a, a8, w7⟩
  · rw [if_pos (show mP 7 l = (-1 : Int32) from w7)]; exact hs
  · have ca : ¬ mP 7 l = (-1 : Int32) := by rw [w7]; exact fun h => (nI_m1 (a := a) (by omega)).mp h
    rw [if_neg ca]
    refine B8_or hs (B8_or ?_ ht)
    rw [w7]; exact B8_sh a8
theorem B8_rd {mP : Rc} {e : Nat} : ∀ (n l : Nat) (r w : Int32), (∀ i, l ≤ i → i < l + n → LW mP i) → B8 r → B8 (rdF mP l n r w).1 := by
  intro n
  induction n with
  | zero => intro l r w _ h; exact h
  | succ n ih =>
    intro l r w hL hr
    exact ih (l + 1) _ _ (fun i h1 h2 => hL i (by omega) (by omega)) (B8_or hr (B8_and (B8_as (hL l (by omega) (by omega))).1))
theorem B8_x {oP mP : Rc} {nb ns b : Nat} {ln : Nat → Nat} (h : PG oP mP nb ns ln) (hb : b < nb) : B8 (xR mP b) ∧ B8 (xW mP b) := by
  obtain ⟨l8, m5, _⟩ := h.1.2.1 b hb
  have h12 := h.1.1
  have hl : (mP 5 b).toNatClampNeg = ln b := by rw [m5]; exact nIc (by omega)
  have hL : ∀ i, 8 * b ≤ i → i < 8 * b + ln b → LW mP i := fun i h1 h2 => by
    have := PG_LW h hb (j := i - 8 * b) (by omega)
    rw [show 8 * b + (i - 8 * b) = i by omega] at this
    exact this
  refine ⟨?_, ?_⟩
  · unfold xR; rw [hl]
    exact B8_rd (e := 0) _ _ _ _ hL B8_0
  · unfold xW; rw [hl]
    have key : ∀ n k, 8 * b ≤ k → k + n ≤ 8 * b + ln b → B8 (so (wrW mP) k n) := by
      intro n
      induction n with
      | zero => intro k _ _; exact B8_0
      | succ n ih => intro k h1 h2; exact B8_or (B8_as (hL k h1 (by omega))).2 (ih (k + 1) (by omega) (by omega))
    exact key _ _ (by omega) (by omega)
/-- the side of a block by a cut -/
def sdI (cut : Int32) (b : Nat) : Int32 := (cut >>> (nI b &&& 31)) &&& (1 : Int32)
theorem sd01 (cut : Int32) (b : Nat) : sdI cut b = nI 0 ∨ sdI cut b = nI 1 := by
  obtain ⟨j, j1, j2⟩ := pk_andE (cut >>> (nI b &&& 31)) (m := 1) 1 (by decide)
  unfold sdI
  rw [j2]
  have : j = 0 ∨ j = 1 := by omega
  rcases this with rfl | rfl
  · exact Or.inl rfl
  · exact Or.inr rfl
def frS (mP : Rc) (cut : Int32) : Nat → Int32 × Int32
  | 0 => (255, 255)
  | b + 1 => if sdI cut b = nI 1 then ((frS mP cut b).1 &&& (xW mP b ^^^ (-1)), ((frS mP cut b).2 ||| (xR mP b &&& ((frS mP cut b).2 ^^^ (-1)))) ||| xW mP b) else (((frS mP cut b).1 ||| (xR mP b &&& ((frS mP cut b).1 ^^^ (-1)))) ||| xW mP b, (frS mP cut b).2 &&& (xW mP b ^^^ (-1)))
def mvS (mP : Rc) (cut : Int32) (b : Nat) : Int32 := xR mP b &&& ((if sdI cut b = nI 1 then (frS mP cut b).2 else (frS mP cut b).1) ^^^ (-1))
def bkS (W P : Int32) (mP : Rc) (cut : Int32) (b : Nat) : Int32 := if sdI cut b = nI 1 then xK W P mP b else xC W mP b
def tkS' (W P v : Int32) (mP : Rc) (cut : Int32) : Nat → Int32
  | 0 => 0
  | b + 1 => tkS' W P v mP cut b + (bkS W P mP cut b + v * bc (mvS mP cut b))
def gtS (W : Int32) (mP : Rc) (cut : Int32) : Nat → Int32
  | 0 => 0
  | b + 1 => gtS W mP cut b + (if sdI cut b = nI 1 then xG W mP b else 0)
def enS (mP : Rc) (cut : Int32) (nb : Nat) : Int32 := 255 &&& ((frS mP cut nb).1 ^^^ (-1))
def mcS (mP : Rc) (cut : Int32) : Nat → Int32
  | 0 => 0
  | b + 1 => mcS mP cut b + bc (mvS mP cut b)
def mxS (mP : Rc) (cut : Int32) : Nat → Int32
  | 0 => 0
  | b + 1 => imax (mxS mP cut b) (bc (mvS mP cut b))
def btS (W P : Int32) (mP : Rc) (cut : Int32) : Nat → Int32
  | 0 => 0
  | b + 1 => btS W P mP cut b + bkS W P mP cut b
/-- ticks of a cut -/
def TT (W P v : Int32) (mP : Rc) (nb : Nat) (cut : Int32) : Int32 := tkS' W P v mP cut nb + v * bc (enS mP cut nb)
theorem tk_split (W P v : Int32) (mP : Rc) (cut : Int32) : ∀ b, tkS' W P v mP cut b = btS W P mP cut b + v * mcS mP cut b := by
  intro b
  induction b with
  | zero => show (0 : Int32) = 0 + v * 0; rw [Int32.mul_zero, Int32.add_zero]
  | succ b ih =>
    show tkS' W P v mP cut b + (bkS W P mP cut b + v * bc (mvS mP cut b)) = (btS W P mP cut b + bkS W P mP cut b) + v * (mcS mP cut b + bc (mvS mP cut b))
    rw [ih, Int32.mul_add]
    generalize btS W P mP cut b = a
    generalize bkS W P mP cut b = c
    generalize v * mcS mP cut b = d
    generalize v * bc (mvS mP cut b) = e
    rw [Int32.add_assoc, Int32.add_assoc, ← Int32.add_assoc d c e, Int32.add_comm d c, Int32.add_assoc c d e]
theorem fr_B8 {oP mP : Rc} {nb ns : Nat} {ln : Nat → Nat} (h : PG oP mP nb ns ln) (cut : Int32) : ∀ b, b ≤ nb → B8 (frS mP cut b).1 ∧ B8 (frS mP cut b).2 := by
  intro b
  induction b with
  | zero => intro _; exact ⟨B8_255, B8_255⟩
  | succ b ih =>
    intro hb
    obtain ⟨i1, i2⟩ := ih (by omega)
    obtain ⟨x1, x2⟩ := B8_x h (b := b) (by omega)
    unfold frS
    by_cases c : sdI cut b = nI 1
    · rw [if_pos c]; exact ⟨B8_and i1, B8_or (B8_or i2 (B8_and x1)) x2⟩
    · rw [if_neg c]; exact ⟨B8_or (B8_or i1 (B8_and x1)) x2, B8_and i2⟩
theorem mv_B8 {oP mP : Rc} {nb ns b : Nat} {ln : Nat → Nat} (h : PG oP mP nb ns ln) (cut : Int32) (hb : b < nb) : B8 (mvS mP cut b) := B8_and (B8_x h hb).1
theorem en_B8 (mP : Rc) (cut : Int32) (nb : Nat) : B8 (enS mP cut nb) := B8_and B8_255
/-- the reference's step -/
theorem t22_go {mY mJ mP mK : Rc} {cut W P v : Int32} {NN nb ns b : Nat} {ln : Nat → Nat} {oP : Rc} {x : Int32} (hN : 1000 ≤ NN) (h : PG oP mP nb ns ln) (hb : b < nb) (hj : NJ mJ W P mP b) (y6 : mY 6 0 = v) (k0 : mK 31 0 = (frS mP cut b).1) (k1 : mK 31 1 = (frS mP cut b).2) : ∃ mK', (∀ J n, fX10_ticksOf_L22 mY mJ mP cut NN J (n + 1) x (nI b) mK = fX10_ticksOf_L22 mY mJ mP cut NN J n (x + (bkS W P mP cut b + v * bc (mvS mP cut b))) (nI (b + 1)) mK') ∧ mK' 31 0 = (frS mP cut (b + 1)).1 ∧ mK' 31 1 = (frS mP cut (b + 1)).2 ∧ mK' 30 b = mvS mP cut b ∧ ∀ j, j ≠ b → mK' 30 j = mK 30 j := by
  obtain ⟨j1, j2, j3, j4, j5⟩ := hj
  have h12 := h.1.1
  have hbits := bits10 hN (mv_B8 h cut hb)
  have m0 := h.2.2.2.2
  rcases sd01 cut b with hs | hs
  · have c : ¬ sdI cut b = nI 1 := by rw [hs]; decide
    have hmv : mvS mP cut b = xR mP b &&& ((frS mP cut b).1 ^^^ (-1)) := by unfold mvS; rw [if_neg c]
    have hbk : bkS W P mP cut b = xC W mP b := if_neg c
    have hf : frS mP cut (b + 1) = (((frS mP cut b).1 ||| mvS mP cut b) ||| xW mP b, (frS mP cut b).2 &&& (xW mP b ^^^ (-1))) := by
      rw [hmv]; exact if_neg c
    rw [hf, hbk]
    refine ⟨rs (rs (rs (rs mK 30 (upd (mK 30) b (mvS mP cut b))) 31 (upd (mK 31) 0 ((frS mP cut b).1 ||| mvS mP cut b))) 31 (upd (upd (mK 31) 0 ((frS mP cut b).1 ||| mvS mP cut b)) 0 (((frS mP cut b).1 ||| mvS mP cut b) ||| xW mP b))) 31 (upd (upd (upd (mK 31) 0 ((frS mP cut b).1 ||| mvS mP cut b)) 0 (((frS mP cut b).1 ||| mvS mP cut b) ||| xW mP b)) 1 ((frS mP cut b).2 &&& (xW mP b ^^^ (-1)))), fun J n => ?_, ?_, ?_, ?_, fun j hj => ?_⟩
    · rw [fX10_ticksOf_L22_s]
      have hs' : (cut >>> (nI b &&& 31)) &&& (1 : Int32) = nI 0 := hs
      have e1 : (1 : Int32) - nI 0 = nI 1 := by decide
      have e2 : ¬ nI 0 = (1 : Int32) := by decide
      have hmv' := hmv.symm
      generalize hmm : mvS mP cut b = mm at *
      simp (disch := omega) only [↓zLet_q, ↓zJn_q, zGd_in, nIc, nI_1, m0, nI_le_f, ↓reduceIte, hs', e1, e2, j1, j4, j5, k0, k1, hmv', rs_s, rs_n, upd_s, upd_n, hbits, zB1_q, y6]
    · simp (disch := omega) only [zLet_e, zJn_e, zB1_s, zB2_s, zB3_s, zB4_s, zB5_s, zB6_s, zB7_s, zGd_in, zGd_b0, zGd_b1, rs_s, rs_n, upd_s, upd_n, ite_t, ite_f, if_true, if_false, ne_eq, not_true, not_false_iff]
    · simp (disch := omega) only [zLet_e, zJn_e, zB1_s, zB2_s, zB3_s, zB4_s, zB5_s, zB6_s, zB7_s, zGd_in, zGd_b0, zGd_b1, rs_s, rs_n, upd_s, upd_n, ite_t, ite_f, if_true, if_false, ne_eq, not_true, not_false_iff]
    · simp (disch := omega) only [zLet_e, zJn_e, zB1_s, zB2_s, zB3_s, zB4_s, zB5_s, zB6_s, zB7_s, zGd_in, zGd_b0, zGd_b1, rs_s, rs_n, upd_s, upd_n, ite_t, ite_f, if_true, if_false, ne_eq, not_true, not_false_iff]
    · simp (disch := omega) only [zLet_e, zJn_e, zB1_s, zB2_s, zB3_s, zB4_s, zB5_s, zB6_s, zB7_s, zGd_in, zGd_b0, zGd_b1, rs_s, rs_n, upd_s, upd_n, ite_t, ite_f, if_true, if_false, ne_eq, not_true, not_false_iff]
  · have c : sdI cut b = nI 1 := hs
    have hmv : mvS mP cut b = xR mP b &&& ((frS mP cut b).2 ^^^ (-1)) := by unfold mvS; rw [if_pos c]
    have hbk : bkS W P mP cut b = xK W P mP b := if_pos c
    have hf : frS mP cut (b + 1) = ((frS mP cut b).1 &&& (xW mP b ^^^ (-1)), ((frS mP cut b).2 ||| mvS mP cut b) ||| xW mP b) := by
      rw [hmv]; exact if_pos c
    rw [hf, hbk]
    refine ⟨rs (rs (rs (rs mK 30 (upd (mK 30) b (mvS mP cut b))) 31 (upd (mK 31) 1 ((frS mP cut b).2 ||| mvS mP cut b))) 31 (upd (upd (mK 31) 1 ((frS mP cut b).2 ||| mvS mP cut b)) 1 (((frS mP cut b).2 ||| mvS mP cut b) ||| xW mP b))) 31 (upd (upd (upd (mK 31) 1 ((frS mP cut b).2 ||| mvS mP cut b)) 1 (((frS mP cut b).2 ||| mvS mP cut b) ||| xW mP b)) 0 ((frS mP cut b).1 &&& (xW mP b ^^^ (-1)))), fun J n => ?_, ?_, ?_, ?_, fun j hj => ?_⟩
    · rw [fX10_ticksOf_L22_s]
      have hs' : (cut >>> (nI b &&& 31)) &&& (1 : Int32) = nI 1 := hs
      have e1 : (1 : Int32) - nI 1 = nI 0 := by decide
      have e2 : nI 1 = (1 : Int32) := by decide
      have hmv' := hmv.symm
      generalize hmm : mvS mP cut b = mm at *
      simp (disch := omega) only [↓zLet_q, ↓zJn_q, zGd_in, nIc, m0, nI_le_f, ↓reduceIte, hs', e1, j2, j4, j5, k0, k1, hmv', rs_s, rs_n, upd_s, upd_n, hbits, zB1_q, y6]
      rw [if_pos e2, nI_1]
    · simp (disch := omega) only [zLet_e, zJn_e, zB1_s, zB2_s, zB3_s, zB4_s, zB5_s, zB6_s, zB7_s, zGd_in, zGd_b0, zGd_b1, rs_s, rs_n, upd_s, upd_n, ite_t, ite_f, if_true, if_false, ne_eq, not_true, not_false_iff]
    · simp (disch := omega) only [zLet_e, zJn_e, zB1_s, zB2_s, zB3_s, zB4_s, zB5_s, zB6_s, zB7_s, zGd_in, zGd_b0, zGd_b1, rs_s, rs_n, upd_s, upd_n, ite_t, ite_f, if_true, if_false, ne_eq, not_true, not_false_iff]
    · simp (disch := omega) only [zLet_e, zJn_e, zB1_s, zB2_s, zB3_s, zB4_s, zB5_s, zB6_s, zB7_s, zGd_in, zGd_b0, zGd_b1, rs_s, rs_n, upd_s, upd_n, ite_t, ite_f, if_true, if_false, ne_eq, not_true, not_false_iff]
    · simp (disch := omega) only [zLet_e, zJn_e, zB1_s, zB2_s, zB3_s, zB4_s, zB5_s, zB6_s, zB7_s, zGd_in, zGd_b0, zGd_b1, rs_s, rs_n, upd_s, upd_n, ite_t, ite_f, if_true, if_false, ne_eq, not_true, not_false_iff]
