/-! own part (pure): what always holds between calls; the plain calls -/
def IT (oT mB : Rc) : Prop := ∃ (B : Nat → Nat) (len : Nat), (∀ i, B i < 256) ∧ (∀ i, i < 600 → oT 0 i = nI (B i)) ∧ (∀ i, i < 600 → mB 11 i = sx (B i)) ∧ len ≤ 600 ∧ oT 1 0 = nI len ∧ mB 12 0 = nI len
def IS (oH mY : Rc) (w p v : Nat) : Prop := 4 ≤ w ∧ w ≤ 16 ∧ 1 ≤ p ∧ p ≤ 1000 ∧ v ≤ 100 ∧ oH 7 0 = nI w ∧ mY 4 0 = nI w ∧ oH 8 0 = nI p ∧ mY 5 0 = nI p ∧ oH 9 0 = nI v ∧ mY 6 0 = nI v
def IZ (oH oR mZ : Rc) : Prop := oH 10 0 = mZ 1 0 ∧ oR 2 0 = mZ 3 0 ∧ mZ 2 0 = (if oH 10 0 = (3 : Int32) then oR 3 0 else (-1 : Int32))
def PR (oP oE oC mP : Rc) (w p v nb ns : Nat) (ln : Nat → Nat) : Prop := 1 ≤ nb ∧ PG oP mP nb ns ln ∧ oP 3 0 = mP 2 0 ∧ (∀ b, b < nb → NR oE (nI w) (nI p) mP b) ∧ (oC 5 0 = 0 ∨ (oC 5 0 = 1 ∧ FC (nI w) (nI p) (nI v) mP nb oC))
def IP (mY oP oE oC mP : Rc) (w p v : Nat) : Prop := (mY 9 0 = 0 ∧ oP 0 0 = 0 ∧ oP 3 0 = 0) ∨ (mY 9 0 = 1 ∧ ∃ nb ns ln, PR oP oE oC mP w p v nb ns ln)
def IG (oH mG : Rc) : Prop := ∃ ne, ne ≤ 4096 ∧ oH 5 0 = nI ne ∧ mG 35 0 = nI ne ∧ ∀ i, i < ne → oH 4 i = mG 32 i
def Inv (oH oR oT oS oP : Rc) (oN : Ar) (oE oC mZ mY mB mG mP : Rc) (mN : Ar) : Prop := IT oT mB ∧ (∃ w p v, IS oH mY w p v ∧ IP mY oP oE oC mP w p v) ∧ IZ oH oR mZ ∧ IG oH mG ∧ (oS 10 0 = nI 0 ∧ oP 10 0 = nI 0) ∧ ∀ i, i < 8 → oN i = mN i
/-- the trouble is told anew -/
theorem Inv_t {oH oR oT oS oP oE oC mZ mY mB mG mP : Rc} {oN mN : Ar} (h : Inv oH oR oT oS oP oN oE oC mZ mY mB mG mP mN) {x z : Int32} (hx : ¬ x = (3 : Int32)) : Inv (rs oH 10 (fun _ => x)) oR oT oS oP oN oE oC (rs (rs (rs mZ 0 (fun _ => z)) 1 (fun _ => x)) 2 (fun _ => (-1 : Int32))) mY mB mG mP mN := by
  obtain ⟨h1, h2, h3, h4, h5, h6⟩ := h
  refine ⟨h1, h2, ⟨rfl, h3.2.1, ?_⟩, h4, h5, h6⟩
  show (-1 : Int32) = if x = (3 : Int32) then oR 3 0 else (-1 : Int32)
  rw [if_neg hx]
theorem Inv_g {oH oR oT oS oP oE oC mZ mY mB mG mP : Rc} {oN mN : Ar} (h : Inv oH oR oT oS oP oN oE oC mZ mY mB mG mP mN) {z : Int32} : Inv oH oR oT oS oP oN oE oC (rs mZ 0 (fun _ => z)) mY mB mG mP mN := h
theorem ref0 (oH : Rc) : fX7_refused oH 0 = some (0, rs oH 10 (fun _ => 0)) := rfl
theorem ref1 {oH : Rc} {x : Int32} (hx : ¬ x = 0) : fX7_refused oH x = some (1, rs oH 10 (fun _ => x)) := by
  unfold fX7_refused; rw [zLet_q, if_neg hx]
theorem rfd10 (mZ : Rc) (x : Int32) : fX10_refused mZ x = some (-1, rs (rs mZ 1 (fun _ => x)) 2 (fun _ => (-1 : Int32))) := rfl
theorem dnd10 (mZ : Rc) (x : Int32) : fX10_denied mZ x = some (0, rs (rs mZ 1 (fun _ => x)) 2 (fun _ => (-1 : Int32))) := rfl
theorem don10 (mZ : Rc) (x : Int32) : fX10_done mZ x = some (x, rs (rs mZ 1 (fun _ => (0 : Int32))) 2 (fun _ => (-1 : Int32))) := rfl
theorem grt10 (mZ : Rc) : fX10_granted mZ = some (1, rs (rs mZ 1 (fun _ => (0 : Int32))) 2 (fun _ => (-1 : Int32))) := rfl
theorem zb0 {β : Type} {k : Option β} : zGd (zbit 0) k = k := if_pos (Or.inl rfl)
theorem zb1 {β : Type} {k : Option β} : zGd (zbit 1) k = k := if_pos (Or.inr rfl)
theorem op_fault {oH oR oT oS oP oE oC mZ mY mB mG mP : Rc} {oN mN : Ar} (h : Inv oH oR oT oS oP oN oE oC mZ mY mB mG mP mN) : ∃ v mZ', fX7_fault oR = some v ∧ fX10_fault mZ = some (v, mZ') ∧ Inv oH oR oT oS oP oN oE oC mZ' mY mB mG mP mN :=
  ⟨oR 2 0, _, rfl, by rw [h.2.2.1.2.1]; rfl, Inv_g h⟩
theorem op_where {oH oR oT oS oP oE oC mZ mY mB mG mP : Rc} {oN mN : Ar} (h : Inv oH oR oT oS oP oN oE oC mZ mY mB mG mP mN) : ∃ v mZ', fX7_where oH oR = some v ∧ fX10_where mZ = some (v, mZ') ∧ Inv oH oR oT oS oP oN oE oC mZ' mY mB mG mP mN := by
  refine ⟨mZ 2 0, rs mZ 0 (fun _ => (0 : Int32)), ?_, rfl, Inv_g h⟩
  unfold fX7_where
  rw [h.2.2.1.2.2]
  split <;> rfl
theorem op_trouble {oH oR oT oS oP oE oC mZ mY mB mG mP : Rc} {oN mN : Ar} (h : Inv oH oR oT oS oP oN oE oC mZ mY mB mG mP mN) : ∃ v mZ', fX7_trouble oH = some v ∧ fX10_trouble mZ = some (v, mZ') ∧ Inv oH oR oT oS oP oN oE oC mZ' mY mB mG mP mN :=
  ⟨oH 10 0, rs mZ 0 (fun _ => (0 : Int32)), rfl, by rw [h.2.2.1.1]; rfl, Inv_g h⟩
theorem isNum {k : Int32} : (fX7_isNumber k = some 0 ∧ fX10_in k 0 7 = some 0) ∨ ∃ j, j < 8 ∧ k = nI j ∧ fX7_isNumber k = some 1 ∧ fX10_in k 0 7 = some 1 := by
  rcases pk_ix k (n := 8) (by omega) with h | h | ⟨j, j8, rfl⟩
  · refine Or.inl ⟨?_, ?_⟩
    · unfold fX7_isNumber; rw [if_pos h]
    · unfold fX10_in; rw [if_pos h]
  · have h0 : ¬ k < 0 := by
      intro h'
      rw [Int32.lt_iff_toInt_lt] at h'
      rw [Int32.le_iff_toInt_le, nI_toInt (by omega)] at h
      have : (0 : Int32).toInt = 0 := by decide
      omega
    have h7 : (7 : Int32) < k := by
      rw [Int32.lt_iff_toInt_lt]
      rw [Int32.le_iff_toInt_le, nI_toInt (by omega)] at h
      have : (7 : Int32).toInt = 7 := by decide
      omega
    refine Or.inl ⟨?_, ?_⟩
    · unfold fX7_isNumber; rw [if_neg h0, if_pos (show (8 : Int32) ≤ k from h)]
    · unfold fX10_in; rw [if_neg h0, if_pos h7]
  · refine Or.inr ⟨j, j8, rfl, ?_, ?_⟩
    · unfold fX7_isNumber; rw [if_neg (nI_pos (by omega)), if_neg (show ¬ (8 : Int32) ≤ nI j from nI_ge (b := 8) j8 (by omega))]
    · unfold fX10_in; rw [if_neg (nI_pos (by omega)), if_neg (show ¬ (7 : Int32) < nI j from nI_nlt (a := 7) (by omega) (by omega))]
theorem op_get {oH oR oT oS oP oE oC mZ mY mB mG mP : Rc} {oN mN : Ar} (h : Inv oH oR oT oS oP oN oE oC mZ mY mB mG mP mN) (k : Int32) : ∃ v mZ', fX7_get oN k = some v ∧ fX10_get mZ mN k = some (v, mZ') ∧ Inv oH oR oT oS oP oN oE oC mZ' mY mB mG mP mN := by
  rcases isNum (k := k) with ⟨h1, h2⟩ | ⟨j, j8, rfl, h1, h2⟩
  · refine ⟨(-1 : Int32), rs mZ 0 (fun _ => (0 : Int32)), ?_, ?_, Inv_g h⟩
    · unfold fX7_get; rw [h1, zB1_q, if_pos rfl]
    · unfold fX10_get; rw [zLet_q, h2, zB1_q, if_pos rfl]
  · refine ⟨mN j, rs mZ 0 (fun _ => (0 : Int32)), ?_, ?_, Inv_g h⟩
    · unfold fX7_get; rw [h1, zB1_q, if_neg (by decide), zGd_in j8 (by omega), nIc (by omega), h.2.2.2.2.2 j j8]
    · unfold fX10_get; rw [zLet_q, h2, zB1_q, if_neg (by decide), zGd_in j8 (by omega), nIc (by omega)]
theorem msk {oH mY : Rc} {w p v : Nat} (h : IS oH mY w p v) : fX7_mask oH = some (lw10 mY) := by
  unfold fX7_mask lw10; rw [h.2.2.2.2.2.1, h.2.2.2.2.2.2.1]
theorem op_put {oH oR oT oS oP oE oC mZ mY mB mG mP : Rc} {oN mN : Ar} (h : Inv oH oR oT oS oP oN oE oC mZ mY mB mG mP mN) (k x : Int32) : ∃ v oH' oN' mZ' mN', fX7_put oH oN k x = some (v, oH', oN') ∧ fX10_put mZ mY mN k x = some (v, mZ', mN') ∧ Inv oH' oR oT oS oP oN' oE oC mZ' mY mB mG mP mN' := by
  have hh := h
  obtain ⟨_, ⟨w, p, v, hS, _⟩, _, _, _, hn⟩ := hh
  rcases isNum (k := k) with ⟨h1, h2⟩ | ⟨j, j8, rfl, h1, h2⟩
  · refine ⟨0, rs oH 10 (fun _ => (1 : Int32)), oN, rs (rs (rs mZ 0 (fun _ => (0 : Int32))) 1 (fun _ => (1 : Int32))) 2 (fun _ => (-1 : Int32)), mN, ?_, ?_, Inv_t h (by decide)⟩
    · unfold fX7_put; rw [h1, zB1_q, zJn_q, if_pos rfl]; show zB2 (fX7_refused oH 1) _ = _; rw [ref1 (show ¬ (1 : Int32) = 0 by decide), zB2_q, if_neg (by decide)]
    · unfold fX10_put; rw [zLet_q, h2, zB1_q, if_pos rfl, dnd10, zB2_q, zb0]
  · have hm := msk (oH := rs oH 10 (fun _ => (0 : Int32))) (mY := mY) (w := w) (p := p) (v := v) hS
    have hI : Inv (rs oH 10 (fun _ => (0 : Int32))) oR oT oS oP (upd oN j (x &&& lw10 mY)) oE oC (rs (rs (rs mZ 0 (fun _ => (0 : Int32))) 1 (fun _ => (0 : Int32))) 2 (fun _ => (-1 : Int32))) mY mB mG mP (upd mN j (x &&& lw10 mY)) := by
      obtain ⟨g1, g2, g3, g4, g5, g6⟩ := Inv_t h (x := 0) (z := 0) (by decide)
      refine ⟨g1, g2, g3, g4, g5, fun i hi => ?_⟩
      by_cases ci : i = j
      · rw [ci, upd_s, upd_s]
      · rw [upd_n ci, upd_n ci]; exact g6 i hi
    refine ⟨1, _, _, _, _, ?_, ?_, hI⟩
    · unfold fX7_put; rw [h1, zB1_q, zJn_q, if_neg (by decide)]; show zB2 (fX7_refused oH 0) _ = _; rw [ref0, zB2_q, if_pos rfl, hm, zB1_q, zGd_in j8 (by omega), nIc (by omega), zLet_q]
    · unfold fX10_put; rw [zLet_q, h2, zB1_q, if_neg (by decide), low10, zB1_q, zGd_in j8 (by omega), nIc (by omega), zLet_q, grt10, zB2_q, zb1]
theorem op_edge {oH oR oT oS oP oE oC mZ mY mB mG mP : Rc} {oN mN : Ar} (h : Inv oH oR oT oS oP oN oE oC mZ mY mB mG mP mN) (i : Int32) : ∃ v mZ', fX7_edge oH i = some v ∧ fX10_edge mZ mG i = some (v, mZ') ∧ Inv oH oR oT oS oP oN oE oC mZ' mY mB mG mP mN := by
  have hh := h
  obtain ⟨_, _, _, ⟨ne, n1, n2, n3, n4⟩, _⟩ := hh
  unfold fX7_edge fX10_edge
  rw [n2, n3, zLet_q]
  rcases pk_ix i (n := ne) (by omega) with c | c | ⟨j, j8, rfl⟩
  · refine ⟨(-1 : Int32), rs mZ 0 (fun _ => (0 : Int32)), ?_, ?_, Inv_g h⟩
    · rw [if_pos c]
    · rw [if_pos c]
  · refine ⟨(-1 : Int32), rs mZ 0 (fun _ => (0 : Int32)), ?_, ?_, Inv_g h⟩
    · split
      · rfl
      · first | rfl | rw [if_pos c]
    · split
      · rfl
      · first | rfl | rw [if_pos c]
  · refine ⟨mG 32 j, rs mZ 0 (fun _ => (0 : Int32)), ?_, ?_, Inv_g h⟩
    · rw [if_neg (nI_pos (by omega)), if_neg (nI_ge j8 (by omega)), zGd_in (by omega) (by omega), nIc (by omega), n4 j j8]
    · rw [if_neg (nI_pos (by omega)), if_neg (nI_ge j8 (by omega)), zGd_in (by omega) (by omega), nIc (by omega)]
theorem op_count {oH oR oT oS oP oE oC mZ mY mB mG mP : Rc} {oN mN : Ar} (h : Inv oH oR oT oS oP oN oE oC mZ mY mB mG mP mN) (x : Int32) : ∃ v mZ', fX7_count oH oT oP x = some v ∧ fX10_count mZ mY mB mP x = some (v, mZ') ∧ Inv oH oR oT oS oP oN oE oC mZ' mY mB mG mP mN := by
  have hh := h
  obtain ⟨⟨B, len, _, _, _, _, t5, t6⟩, ⟨w, p, v, ⟨_, _, _, _, _, s6, s7, s8, s9, s10, s11⟩, hP⟩, _⟩ := hh
  unfold fX7_count fX10_count
  rw [zLet_q, s6, s7, s8, s9, s10, s11, t5, t6]
  rcases hP with ⟨p1, p2, p3⟩ | ⟨p1, nb, ns, ln, q1, q2, q3, q4, q5⟩
  · rw [p1, p2, p3]
    by_cases c0 : x = 0
    · exact ⟨_, _, if_pos c0, if_pos c0, Inv_g h⟩
    · rw [if_neg c0, if_neg c0]
      by_cases c1 : x = 1
      · exact ⟨_, _, if_pos c1, if_pos c1, Inv_g h⟩
      · rw [if_neg c1, if_neg c1]
        by_cases c2 : x = 2
        · exact ⟨_, _, if_pos c2, if_pos c2, Inv_g h⟩
        · rw [if_neg c2, if_neg c2]
          by_cases c3 : x = 3
          · exact ⟨_, _, if_pos c3, (if_pos c3).trans (if_pos rfl), Inv_g h⟩
          · rw [if_neg c3, if_neg c3]
            by_cases c4 : x = 4
            · exact ⟨_, _, if_pos c4, if_pos c4, Inv_g h⟩
            · rw [if_neg c4, if_neg c4]
              by_cases c5 : x = 5
              · exact ⟨_, _, if_pos c5, (if_pos c5).trans (if_pos rfl), Inv_g h⟩
              · exact ⟨_, _, if_neg c5, if_neg c5, Inv_g h⟩
  · have n0 : ¬ mY 9 0 = 0 := by rw [p1]; decide
    rw [q2.2.2.2.1, q2.2.2.2.2, q3]
    by_cases c0 : x = 0
    · exact ⟨_, _, if_pos c0, if_pos c0, Inv_g h⟩
    · rw [if_neg c0, if_neg c0]
      by_cases c1 : x = 1
      · exact ⟨_, _, if_pos c1, if_pos c1, Inv_g h⟩
      · rw [if_neg c1, if_neg c1]
        by_cases c2 : x = 2
        · exact ⟨_, _, if_pos c2, if_pos c2, Inv_g h⟩
        · rw [if_neg c2, if_neg c2]
          by_cases c3 : x = 3
          · exact ⟨_, _, if_pos c3, (if_pos c3).trans (if_neg n0), Inv_g h⟩
          · rw [if_neg c3, if_neg c3]
            by_cases c4 : x = 4
            · exact ⟨_, _, if_pos c4, if_pos c4, Inv_g h⟩
            · rw [if_neg c4, if_neg c4]
              by_cases c5 : x = 5
              · exact ⟨_, _, if_pos c5, (if_pos c5).trans (if_neg n0), Inv_g h⟩
              · exact ⟨_, _, if_neg c5, if_neg c5, Inv_g h⟩
/-- is there such a block -/
theorem isBlk {mY oP oE oC mP : Rc} {w p v : Nat} (h : IP mY oP oE oC mP w p v) (b : Int32) : (fX7_isBlock oP b = some 0 ∧ fX10_isBlock mY mP b = some 0) ∨ ∃ nb ns ln j, PR oP oE oC mP w p v nb ns ln ∧ mY 9 0 = 1 ∧ j < nb ∧ b = nI j ∧ fX7_isBlock oP b = some 1 ∧ fX10_isBlock mY mP b = some 1 := by
  unfold fX7_isBlock fX10_isBlock
  rcases h with ⟨p1, p2, p3⟩ | ⟨p1, nb, ns, ln, q⟩
  · refine Or.inl ⟨?_, if_pos p1⟩
    rw [p2]
    by_cases c : b < 0
    · rw [if_pos c]
    · rw [if_neg c, if_pos]
      rw [Int32.le_iff_toInt_le]
      exact i32le c
  · have n0 : ¬ mY 9 0 = 0 := by rw [p1]; decide
    have h12 := q.2.1.1.1
    rw [if_neg n0, q.2.1.2.2.2.1, q.2.1.2.2.2.2]
    rcases pk_ix b (n := nb) (by omega) with c | c | ⟨j, j8, rfl⟩
    · exact Or.inl ⟨if_pos c, if_pos c⟩
    · refine Or.inl ⟨?_, ?_⟩
      · split
        · rfl
        · first | rfl | rw [if_pos c]
      · split
        · rfl
        · first | rfl | rw [if_pos c]
    · refine Or.inr ⟨nb, ns, ln, j, q, p1, j8, rfl, ?_, ?_⟩
      · rw [if_neg (nI_pos (by omega)), if_neg (nI_ge j8 (by omega))]
      · rw [if_neg (nI_pos (by omega)), if_neg (nI_ge j8 (by omega))]
