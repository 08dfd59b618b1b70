/-! own part (pure): quickest, fewest, edges -/
def QK (T G : Nat → Int32) (most : Int) (A e : Nat) : Prop := e < A ∧ (G e).toInt ≤ most ∧ ∀ x, x < A → (G x).toInt ≤ most → (T e).toInt < (T x).toInt ∨ ((T e).toInt = (T x).toInt ∧ ((G e).toInt < (G x).toInt ∨ ((G e).toInt = (G x).toInt ∧ e ≤ x)))
theorem QK_u {T G : Nat → Int32} {most : Int} {A e e' : Nat} (h : QK T G most A e) (h' : QK T G most A e') : e = e' := by
  have a := h.2.2 e' h'.1 h'.2.1
  have b := h'.2.2 e h.1 h.2.1
  omega
def FQ (T G : Nat → Int32) (tk : Int) (A : Nat) (r : Int32) : Prop := (∃ x, x < A ∧ (T x).toInt ≤ tk ∧ r = G x ∧ ∀ y, y < A → (T y).toInt ≤ tk → (G x).toInt ≤ (G y).toInt) ∨ ((∀ y, y < A → ¬ (T y).toInt ≤ tk) ∧ r = nM 2)
theorem FQ_u {T G : Nat → Int32} {tk : Int} {A : Nat} {r r' : Int32} (h : FQ T G tk A r) (h' : FQ T G tk A r') : r = r' := by
  rcases h with ⟨x, x1, x2, x3, x4⟩ | ⟨x1, x2⟩
  · rcases h' with ⟨y, y1, y2, y3, y4⟩ | ⟨y1, y2⟩
    · rw [x3, y3]
      have a := x4 y y1 y2
      have b := y4 x x1 x2
      exact Int32.toInt_inj.mp (by omega)
    · exact absurd x2 (y1 x x1)
  · rcases h' with ⟨y, y1, y2, y3, y4⟩ | ⟨y1, y2⟩
    · exact absurd y2 (x1 y y1)
    · rw [x2, y2]
theorem quick6 {T G : Nat → Int32} {oC : Rc} {E : Nat → Nat} {m A NN : Nat} {most : Int32} (hN : 5000 ≤ NN) (hA : A ≤ 4096) (hA0 : 0 < A) (hrw : RW T G oC A) (heg : EG oC E m) (hf : Fr (fun c => (T c).toInt) (fun c => (G c).toInt) E m A) (h0 : (G 0).toInt ≤ most.toInt) : ∃ e, fX0_quickestWithin NN oC most = some (nI e) ∧ QK T G most.toInt A e := by
  have hm := hf.2.2.2
  obtain ⟨a, w1, w2, w3, w4⟩ := within6 (most := most) hN hA hm hrw heg hf.1 (fun i j h1 h2 => (hf.2.1 i j h1 h2).1)
  have ha : 0 < a := by
    obtain ⟨i, i1, i2, i3, i4⟩ := hf.2.2.1 0 hA0
    by_cases c : i < a
    · omega
    · have := w4 i (by omega) i1
      have i2 : (G (E i)).toInt ≤ (G 0).toInt := i2
      omega
  refine ⟨E (a - 1), ?_, hf.1 _ (by omega), w3 _ (by omega), fun x hx hg => ?_⟩
  · unfold fX0_quickestWithin
    rw [w1, zB1_q, if_neg (nI_nle ha (by omega)), lr_1, nI_sub (by omega), zGd_in (by omega) (by omega), nIc (by omega), heg.2 _ (by omega)]
  · obtain ⟨i, i1, i2, i3, i4⟩ := hf.2.2.1 x hx
    have i2 : (G (E i)).toInt ≤ (G x).toInt := i2
    have i3 : (T (E i)).toInt ≤ (T x).toInt := i3
    have ia : i < a := by
      by_cases c : i < a
      · exact c
      · have := w4 i (by omega) i1; omega
    by_cases ci : i = a - 1
    · subst ci
      by_cases ct : (T (E (a - 1))).toInt = (T x).toInt
      · by_cases cg : (G (E (a - 1))).toInt = (G x).toInt
        · exact Or.inr ⟨ct, Or.inr ⟨cg, i4 cg ct⟩⟩
        · exact Or.inr ⟨ct, Or.inl (by omega)⟩
      · exact Or.inl (by omega)
    · have t : (T (E (a - 1))).toInt < (T (E i)).toInt := (hf.2.1 i (a - 1) (by omega) (by omega)).2
      exact Or.inl (by omega)
theorem few6 {T G : Nat → Int32} {oC : Rc} {E : Nat → Nat} {m A NN : Nat} {tk : Int32} (hN : 5000 ≤ NN) (hA : A ≤ 4096) (hrw : RW T G oC A) (heg : EG oC E m) (hf : Fr (fun c => (T c).toInt) (fun c => (G c).toInt) E m A) : ∃ r, fX0_fewestGatesWithin NN oC tk = some r ∧ FQ T G tk.toInt A r := by
  have hm := hf.2.2.2
  have key : ∀ (n i : Nat), m - i < n → i ≤ m → (∀ j, j < i → tk.toInt < (T (E j)).toInt) → ∃ r, fX0_fewestGatesWithin_L2 oC tk (fun _ => some (-2 : Int32)) n (nI i) = some r ∧ FQ T G tk.toInt A r := by
    intro n
    induction n with
    | zero => intro i h; omega
    | succ n ih =>
      intro i hn hi hj
      rw [fX0_fewestGatesWithin_L2_s, heg.1]
      by_cases c : i < m
      · rw [if_neg (nI_ge c (by omega))]
        have he := heg.2 i c
        have hEi := hf.1 i c
        obtain ⟨h9, h10⟩ := hrw _ hEi
        by_cases ct : tk < T (E i)
        · obtain ⟨r, r1, r2⟩ := ih (i + 1) (by omega) (by omega) (fun j hj' => by
            by_cases cj : j = i
            · rw [cj]; exact Int32.lt_iff_toInt_lt.mp ct
            · exact hj j (by omega))
          refine ⟨r, ?_, r2⟩
          simp (disch := omega) only [zGd_in, nIc, he, h9, if_pos ct]
          rw [zLet_q, nI_1]
          exact r1
        · refine ⟨G (E i), ?_, Or.inl ⟨E i, hEi, i32le ct, rfl, fun y hy hty => ?_⟩⟩
          · simp (disch := omega) only [zGd_in, nIc, he, h9, h10, if_neg ct]
          · obtain ⟨q, q1, q2, q3, q4⟩ := hf.2.2.1 y hy
            have q2 : (G (E q)).toInt ≤ (G y).toInt := q2
            have q3 : (T (E q)).toInt ≤ (T y).toInt := q3
            by_cases cq : q < i
            · have := hj q cq; omega
            · by_cases cq' : q = i
              · rw [← cq']; exact q2
              · have : (G (E i)).toInt < (G (E q)).toInt := (hf.2.1 i q (by omega) q1).1
                omega
      · rw [if_pos (nI_le (by omega) (by omega))]
        refine ⟨nM 2, rfl, Or.inr ⟨fun y hy hty => ?_, rfl⟩⟩
        obtain ⟨q, q1, q2, q3, q4⟩ := hf.2.2.1 y hy
        have q3 : (T (E q)).toInt ≤ (T y).toInt := q3
        have := hj q (by omega)
        omega
  unfold fX0_fewestGatesWithin
  exact key NN 0 (by omega) (by omega) (fun j hj => by omega)
theorem qk10 {oP mP mY mJ : Rc} {W P v most : Int32} {nb ns NN : Nat} {ln : Nat → Nat} (hN : 5000 ≤ NN) (h : PG oP mP nb ns ln) (hj : ∀ b, b < nb → NJ mJ W P mP b) (y6 : mY 6 0 = v) : ∀ (n c e : Nat) (mK : Rc), 2 ^ nb - c < n → c ≤ 2 ^ nb → QK (fun c => TT W P v mP nb (nI c)) (fun c => gtS W mP (nI c) nb) most.toInt c e → ∃ e' mK', (∀ J, fX10_quickest_L53 mY mP most NN mJ J n (nI e) (TT W P v mP nb (nI e)) (gtS W mP (nI e) nb) (nI c) mK = J (nI e') mK') ∧ QK (fun c => TT W P v mP nb (nI c)) (fun c => gtS W mP (nI c) nb) most.toInt (2 ^ nb) e' := by
  have h12 := h.1.1
  have p12 := two12 h12
  have m0 := h.2.2.2.2
  intro n
  induction n with
  | zero => intro c e mK h; omega
  | succ n ih =>
    intro c e mK hn hc hq
    by_cases cc : c < 2 ^ nb
    · have hg := gates10 (cut := nI c) (NN := NN) (by omega) h hj
      obtain ⟨mK1, t1, t2, t3⟩ := ticks10 (mK := mK) (cut := nI c) (NN := NN) (by omega) h hj y6
      have st : ∀ J, fX10_quickest_L53 mY mP most NN mJ J (n + 1) (nI e) (TT W P v mP nb (nI e)) (gtS W mP (nI e) nb) (nI c) mK = (if gtS W mP (nI c) nb ≤ most then (if TT W P v mP nb (nI e) < TT W P v mP nb (nI c) then fX10_quickest_L53 mY mP most NN mJ J n (nI e) (TT W P v mP nb (nI e)) (gtS W mP (nI e) nb) (nI (c + 1)) mK1 else if TT W P v mP nb (nI c) = TT W P v mP nb (nI e) then (if gtS W mP (nI c) nb < gtS W mP (nI e) nb then fX10_quickest_L53 mY mP most NN mJ J n (nI c) (TT W P v mP nb (nI c)) (gtS W mP (nI c) nb) (nI (c + 1)) mK1 else fX10_quickest_L53 mY mP most NN mJ J n (nI e) (TT W P v mP nb (nI e)) (gtS W mP (nI e) nb) (nI (c + 1)) mK1) else fX10_quickest_L53 mY mP most NN mJ J n (nI c) (TT W P v mP nb (nI c)) (gtS W mP (nI c) nb) (nI (c + 1)) mK1) else fX10_quickest_L53 mY mP most NN mJ J n (nI e) (TT W P v mP nb (nI e)) (gtS W mP (nI e) nb) (nI (c + 1)) mK) := by
        intro J
        rw [fX10_quickest_L53_s, m0, one_sh h12, if_neg (nI_ge cc (by omega)), hg, zB1_q]
        simp only [t1, zB2_q, zLet_q, zJn_q, nI_1]
      obtain ⟨q1, q2, q3⟩ := hq
      have keep : (∀ J, ∃ mK2, fX10_quickest_L53 mY mP most NN mJ J (n + 1) (nI e) (TT W P v mP nb (nI e)) (gtS W mP (nI e) nb) (nI c) mK = fX10_quickest_L53 mY mP most NN mJ J n (nI e) (TT W P v mP nb (nI e)) (gtS W mP (nI e) nb) (nI (c + 1)) mK2) → True := fun _ => trivial
      have kp : ∀ mK2, (∀ J, fX10_quickest_L53 mY mP most NN mJ J (n + 1) (nI e) (TT W P v mP nb (nI e)) (gtS W mP (nI e) nb) (nI c) mK = fX10_quickest_L53 mY mP most NN mJ J n (nI e) (TT W P v mP nb (nI e)) (gtS W mP (nI e) nb) (nI (c + 1)) mK2) → ((gtS W mP (nI c) nb).toInt ≤ most.toInt → (TT W P v mP nb (nI e)).toInt < (TT W P v mP nb (nI c)).toInt ∨ ((TT W P v mP nb (nI e)).toInt = (TT W P v mP nb (nI c)).toInt ∧ ((gtS W mP (nI e) nb).toInt < (gtS W mP (nI c) nb).toInt ∨ ((gtS W mP (nI e) nb).toInt = (gtS W mP (nI c) nb).toInt ∧ e ≤ c)))) → ∃ e' mK', (∀ J, fX10_quickest_L53 mY mP most NN mJ J (n + 1) (nI e) (TT W P v mP nb (nI e)) (gtS W mP (nI e) nb) (nI c) mK = J (nI e') mK') ∧ QK (fun c => TT W P v mP nb (nI c)) (fun c => gtS W mP (nI c) nb) most.toInt (2 ^ nb) e' := by
        intro mK2 hst hcmp
        obtain ⟨e', mK', r1, r2⟩ := ih (c + 1) e mK2 (by omega) (by omega) ⟨by omega, q2, fun x hx hgx => by
          by_cases cx : x = c
          · subst cx; exact hcmp hgx
          · exact q3 x (by omega) hgx⟩
        exact ⟨e', mK', fun J => by rw [hst]; exact r1 J, r2⟩
      have tk : ∀ mK2, (∀ J, fX10_quickest_L53 mY mP most NN mJ J (n + 1) (nI e) (TT W P v mP nb (nI e)) (gtS W mP (nI e) nb) (nI c) mK = fX10_quickest_L53 mY mP most NN mJ J n (nI c) (TT W P v mP nb (nI c)) (gtS W mP (nI c) nb) (nI (c + 1)) mK2) → (gtS W mP (nI c) nb).toInt ≤ most.toInt → ((TT W P v mP nb (nI c)).toInt < (TT W P v mP nb (nI e)).toInt ∨ ((TT W P v mP nb (nI c)).toInt = (TT W P v mP nb (nI e)).toInt ∧ (gtS W mP (nI c) nb).toInt < (gtS W mP (nI e) nb).toInt)) → ∃ e' mK', (∀ J, fX10_quickest_L53 mY mP most NN mJ J (n + 1) (nI e) (TT W P v mP nb (nI e)) (gtS W mP (nI e) nb) (nI c) mK = J (nI e') mK') ∧ QK (fun c => TT W P v mP nb (nI c)) (fun c => gtS W mP (nI c) nb) most.toInt (2 ^ nb) e' := by
        intro mK2 hst hgc hcmp
        obtain ⟨e', mK', r1, r2⟩ := ih (c + 1) c mK2 (by omega) (by omega) ⟨by omega, hgc, fun x hx hgx => by
          by_cases cx : x = c
          · subst cx; exact Or.inr ⟨rfl, Or.inr ⟨rfl, Nat.le_refl _⟩⟩
          · have := q3 x (by omega) hgx
            simp only at this ⊢
            omega⟩
        exact ⟨e', mK', fun J => by rw [hst]; exact r1 J, r2⟩
      by_cases cg : gtS W mP (nI c) nb ≤ most
      · have cg' := Int32.le_iff_toInt_le.mp cg
        by_cases ct : TT W P v mP nb (nI e) < TT W P v mP nb (nI c)
        · exact kp mK1 (fun J => by rw [st, if_pos cg, if_pos ct]) (fun _ => Or.inl (Int32.lt_iff_toInt_lt.mp ct))
        · have ct' := i32le ct
          by_cases ce : TT W P v mP nb (nI c) = TT W P v mP nb (nI e)
          · by_cases cl : gtS W mP (nI c) nb < gtS W mP (nI e) nb
            · exact tk mK1 (fun J => by rw [st, if_pos cg, if_neg ct, if_pos ce, if_pos cl]) cg' (Or.inr ⟨by rw [ce], Int32.lt_iff_toInt_lt.mp cl⟩)
            · have cl' := i32le cl
              refine kp mK1 (fun J => by rw [st, if_pos cg, if_neg ct, if_pos ce, if_neg cl]) (fun _ => Or.inr ⟨by rw [ce], ?_⟩)
              by_cases cq : (gtS W mP (nI e) nb).toInt = (gtS W mP (nI c) nb).toInt
              · have q1 : e < c := q1
                exact Or.inr ⟨cq, by omega⟩
              · exact Or.inl (by omega)
          · have ce' := i32ne ce
            exact tk mK1 (fun J => by rw [st, if_pos cg, if_neg ct, if_neg ce]) cg' (Or.inl (by omega))
      · refine kp mK (fun J => by rw [st, if_neg cg]) (fun hgc => ?_)
        rw [Int32.le_iff_toInt_le] at cg
        exact absurd hgc cg
    · have : c = 2 ^ nb := by omega
      subst this
      refine ⟨e, mK, fun J => ?_, hq⟩
      rw [fX10_quickest_L53_s, m0, one_sh h12, if_pos (nI_le (Nat.le_refl _) (by omega))]
theorem few10 {oP mP mY mJ : Rc} {W P v tk : Int32} {nb ns NN : Nat} {ln : Nat → Nat} (hN : 5000 ≤ NN) (h : PG oP mP nb ns ln) (hj : ∀ b, b < nb → NJ mJ W P mP b) (y6 : mY 6 0 = v) (hG : ∀ c, 0 ≤ (gtS W mP (nI c) nb).toInt) : ∀ (n c : Nat) (r : Int32) (mK : Rc), 2 ^ nb - c < n → c ≤ 2 ^ nb → FQ (fun c => TT W P v mP nb (nI c)) (fun c => gtS W mP (nI c) nb) tk.toInt c r → ∃ r' mK', (∀ J, fX10_fewest_L37 mY mP tk NN mJ J n r (nI c) mK = J r' mK') ∧ FQ (fun c => TT W P v mP nb (nI c)) (fun c => gtS W mP (nI c) nb) tk.toInt (2 ^ nb) r' := by
  have h12 := h.1.1
  have p12 := two12 h12
  have m0 := h.2.2.2.2
  intro n
  induction n with
  | zero => intro c r mK h; omega
  | succ n ih =>
    intro c r mK hn hc hq
    by_cases cc : c < 2 ^ nb
    · have hg := gates10 (cut := nI c) (NN := NN) (by omega) h hj
      obtain ⟨mK1, t1, t2, t3⟩ := ticks10 (mK := mK) (cut := nI c) (NN := NN) (by omega) h hj y6
      by_cases ct : TT W P v mP nb (nI c) ≤ tk
      · have ct' := Int32.le_iff_toInt_le.mp ct
        by_cases cr : r = (-2 : Int32)
        · obtain ⟨r', mK', r1, r2⟩ := ih (c + 1) (gtS W mP (nI c) nb) mK1 (by omega) (by omega) (Or.inl ⟨c, by omega, ct', rfl, fun y hy hty => by
            by_cases cy : y = c
            · subst cy; exact Int.le_refl _
            · rcases hq with ⟨x, x1, x2, x3, x4⟩ | ⟨x1, x2⟩
              · exfalso
                have := hG x
                rw [← show r = gtS W mP (nI x) nb from x3, cr] at this
                exact absurd this (by decide)
              · exact absurd hty (x1 y (by omega))⟩)
          refine ⟨r', mK', fun J => ?_, r2⟩
          rw [fX10_fewest_L37_s, m0, one_sh h12, if_neg (nI_ge cc (by omega)), t1, zB2_q, if_pos ct, hg, zB1_q, if_pos cr, zLet_q, nI_1]
          exact r1 J
        · rcases hq with ⟨x, x1, x2, x3, x4⟩ | ⟨x1, x2⟩
          · by_cases cm : gtS W mP (nI c) nb < r
            · have cm' := Int32.lt_iff_toInt_lt.mp cm
              rw [show r = gtS W mP (nI x) nb from x3] at cm'
              obtain ⟨r', mK', r1, r2⟩ := ih (c + 1) (gtS W mP (nI c) nb) mK1 (by omega) (by omega) (Or.inl ⟨c, by omega, ct', rfl, fun y hy hty => by
                by_cases cy : y = c
                · subst cy; exact Int.le_refl _
                · have := x4 y (by omega) hty
                  simp only at this ⊢
                  omega⟩)
              refine ⟨r', mK', fun J => ?_, r2⟩
              rw [fX10_fewest_L37_s, m0, one_sh h12, if_neg (nI_ge cc (by omega)), t1, zB2_q, if_pos ct, hg, zB1_q, if_neg cr, if_pos cm, zLet_q, zLet_q, nI_1]
              exact r1 J
            · have cm' := i32le cm
              rw [show r = gtS W mP (nI x) nb from x3] at cm'
              obtain ⟨r', mK', r1, r2⟩ := ih (c + 1) r mK1 (by omega) (by omega) (Or.inl ⟨x, by omega, x2, x3, fun y hy hty => by
                by_cases cy : y = c
                · subst cy; exact cm'
                · exact x4 y (by omega) hty⟩)
              refine ⟨r', mK', fun J => ?_, r2⟩
              rw [fX10_fewest_L37_s, m0, one_sh h12, if_neg (nI_ge cc (by omega)), t1, zB2_q, if_pos ct, hg, zB1_q, if_neg cr, if_neg cm, zLet_q, zLet_q, nI_1]
              exact r1 J
          · exact absurd x2 cr
      · have ct' : ¬ (TT W P v mP nb (nI c)).toInt ≤ tk.toInt := fun e => ct (Int32.le_iff_toInt_le.mpr e)
        obtain ⟨r', mK', r1, r2⟩ := ih (c + 1) r mK1 (by omega) (by omega) (by
          rcases hq with ⟨x, x1, x2, x3, x4⟩ | ⟨x1, x2⟩
          · exact Or.inl ⟨x, by omega, x2, x3, fun y hy hty => by
              by_cases cy : y = c
              · subst cy; exact absurd hty ct'
              · exact x4 y (by omega) hty⟩
          · exact Or.inr ⟨fun y hy hty => by
              by_cases cy : y = c
              · subst cy; exact ct' hty
              · exact x1 y (by omega) hty, x2⟩)
        refine ⟨r', mK', fun J => ?_, r2⟩
        rw [fX10_fewest_L37_s, m0, one_sh h12, if_neg (nI_ge cc (by omega)), t1, zB2_q, if_neg ct, zLet_q, nI_1]
        exact r1 J
    · have : c = 2 ^ nb := by omega
      subst this
      refine ⟨r, mK, fun J => ?_, hq⟩
      rw [fX10_fewest_L37_s, m0, one_sh h12, if_pos (nI_le (Nat.le_refl _) (by omega))]
