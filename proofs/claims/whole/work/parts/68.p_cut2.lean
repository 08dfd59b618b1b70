/-! own part (pure): a cut followed whole -/
theorem ticks10 {oP mP mY mJ mK : Rc} {cut W P v : Int32} {nb ns NN : Nat} {ln : Nat → Nat} (hN : 1000 ≤ NN) (h : PG oP mP nb ns ln) (hj : ∀ b, b < nb → NJ mJ W P mP b) (y6 : mY 6 0 = v) : ∃ mK', fX10_ticksOf NN mY mJ mK mP cut = some (TT W P v mP nb cut, mK') ∧ (∀ b, b < nb → mK' 30 b = mvS mP cut b) ∧ mK' 30 nb = enS mP cut nb := by
  have h12 := h.1.1
  have key : ∀ (n b : Nat) (mK : Rc) (x : Int32), nb - b < n → b ≤ nb → x = tkS' W P v mP cut b → mK 31 0 = (frS mP cut b).1 → mK 31 1 = (frS mP cut b).2 → (∀ i, i < b → mK 30 i = mvS mP cut i) → ∃ mK', (∀ J, fX10_ticksOf_L22 mY mJ mP cut NN J n x (nI b) mK = J (tkS' W P v mP cut nb) mK') ∧ mK' 31 0 = (frS mP cut nb).1 ∧ ∀ i, i < nb → mK' 30 i = mvS mP cut i := by
    intro n
    induction n with
    | zero => intro b mK x h; omega
    | succ n ih =>
      intro b mK x hn hb hx k0 k1 k30
      by_cases c : b < nb
      · obtain ⟨mK1, g1, g2, g3, g4, g5⟩ := t22_go (x := x) hN h c (hj b c) y6 k0 k1
        obtain ⟨mK2, r1, r2, r3⟩ := ih (b + 1) mK1 (x + (bkS W P mP cut b + v * bc (mvS mP cut b))) (by omega) (by omega) (by rw [hx]; rfl) g2 g3 (fun i hi => by
          by_cases ci : i = b
          · subst ci; exact g4
          · rw [g5 i ci]; exact k30 i (by omega))
        exact ⟨mK2, fun J => by rw [g1]; exact r1 J, r2, r3⟩
      · have : b = nb := by omega
        subst this
        refine ⟨mK, fun J => ?_, k0, k30⟩
        rw [fX10_ticksOf_L22_s]
        simp (disch := omega) only [h.2.2.2.2, nI_le_t, ↓reduceIte]
        rw [hx]
  obtain ⟨mK1, q1, q2, q3⟩ := key NN 0 (rs (rs mK 31 (upd (mK 31) 0 (255 : Int32))) 31 (upd (upd (mK 31) 0 (255 : Int32)) 1 (255 : Int32))) 0 (by omega) (by omega) rfl (by simp (disch := omega) only [zLet_e, zJn_e, zB1_s, zB2_s, zB3_s, zB4_s, zB5_s, zB6_s, zB7_s, zGd_in, zGd_b0, zGd_b1, rs_s, rs_n, upd_s, upd_n, ite_t, ite_f, if_true, if_false, ne_eq, not_true, not_false_iff]; rfl) (by simp (disch := omega) only [zLet_e, zJn_e, zB1_s, zB2_s, zB3_s, zB4_s, zB5_s, zB6_s, zB7_s, zGd_in, zGd_b0, zGd_b1, rs_s, rs_n, upd_s, upd_n, ite_t, ite_f, if_true, if_false, ne_eq, not_true, not_false_iff]; rfl) (fun i hi => by omega)
  have hbits := bits10 hN (en_B8 mP cut nb)
  have m0 := h.2.2.2.2
  have e0 : (0 : Int32).toNatClampNeg = 0 := by decide
  have e1 : (1 : Int32).toNatClampNeg = 1 := by decide
  refine ⟨rs mK1 30 (upd (mK1 30) nb (enS mP cut nb)), ?_, fun b hb => ?_, ?_⟩
  · unfold fX10_ticksOf
    have hg0 : inb (0 : Int32) 2 := by decide
    have hg1 : inb (1 : Int32) 2 := by decide
    simp only [zGd_t hg0, zGd_t hg1, zLet_q, zJn_q, e0, e1, rs_s]
    refine (q1 _).trans ?_
    have e3 : (255 : Int32) &&& ((frS mP cut nb).1 ^^^ (-1)) = enS mP cut nb := rfl
    simp (disch := omega) only [m0, zGd_in, nIc, q2, rs_s, upd_s, e3, hbits, zB1_q, y6]
    rfl
  · have := q3 b hb
    simp (disch := omega) only [zLet_e, zJn_e, zB1_s, zB2_s, zB3_s, zB4_s, zB5_s, zB6_s, zB7_s, zGd_in, zGd_b0, zGd_b1, rs_s, rs_n, upd_s, upd_n, ite_t, ite_f, if_true, if_false, ne_eq, not_true, not_false_iff, this]
  · simp (disch := omega) only [zLet_e, zJn_e, zB1_s, zB2_s, zB3_s, zB4_s, zB5_s, zB6_s, zB7_s, zGd_in, zGd_b0, zGd_b1, rs_s, rs_n, upd_s, upd_n, ite_t, ite_f, if_true, if_false, ne_eq, not_true, not_false_iff]
theorem gates10 {oP mP mJ : Rc} {cut W P : Int32} {nb ns NN : Nat} {ln : Nat → Nat} (hN : 1000 ≤ NN) (h : PG oP mP nb ns ln) (hj : ∀ b, b < nb → NJ mJ W P mP b) : fX10_gatesOfCut NN mJ mP cut = some (gtS W mP cut nb) := by
  have h12 := h.1.1
  have m0 := h.2.2.2.2
  have key : ∀ (n b : Nat) (x : Int32), nb - b < n → b ≤ nb → x = gtS W mP cut b → fX10_gatesOfCut_L4 mJ mP cut (fun x => some x) n x (nI b) = some (gtS W mP cut nb) := by
    intro n
    induction n with
    | zero => intro b x h; omega
    | succ n ih =>
      intro b x hn hb hx
      rw [fX10_gatesOfCut_L4_s]
      by_cases c : b < nb
      · refine Eq.trans ?_ (ih (b + 1) (gtS W mP cut (b + 1)) (by omega) (by omega) rfl)
        have e : gtS W mP cut (b + 1) = x + (if sdI cut b = nI 1 then xG W mP b else 0) := by rw [hx]; rfl
        rw [e]
        have j3 := (hj b c).2.2.1
        by_cases cs : sdI cut b = nI 1
        · have cs' : (cut >>> (nI b &&& 31)) &&& (1 : Int32) = (1 : Int32) := cs
          rw [if_pos cs]
          simp (disch := omega) only [↓zLet_q, zGd_in, nIc, m0, nI_le_f, ↓reduceIte, cs', j3]
          rw [nI_1]
        · have cs' : ¬ (cut >>> (nI b &&& 31)) &&& (1 : Int32) = (1 : Int32) := cs
          rw [if_neg cs]
          simp (disch := omega) only [↓zLet_q, zGd_in, nIc, m0, nI_le_f, ↓reduceIte, cs']
          rw [nI_1]
      · have : b = nb := by omega
        subst this
        simp (disch := omega) only [m0, nI_le_t, ↓reduceIte]
        rw [hx]
  unfold fX10_gatesOfCut
  exact key NN 0 0 (by omega) (by omega) rfl
theorem note6 {oC : Rc} {b : Nat} {m : Int32} (hb : b < 13) : fX0_note oC (nI b) m = some (rs (rs (rs oC 0 (upd (oC 0) b m)) 3 (fun _ => oC 3 0 + bc m)) 4 (fun _ => imax (oC 4 0) (bc m))) := by
  unfold fX0_note
  simp (disch := omega) only [↓zLet_q, zGd_in, nIc, bc6, zB1_q, rs_n, rs_s, ↓imax_e]
theorem fol_go {oP mP oE oC : Rc} {cut fr W P : Int32} {nb ns b : Nat} {ln : Nat → Nat} (h : PG oP mP nb ns ln) (hb : b < nb) (hr : NR oE W P mP b) (hf : FR fr (frS mP cut b).1 (frS mP cut b).2) : ∃ fr' oC', (∀ J n, fX0_follow_L27 oE (nI nb) cut J (n + 1) fr (nI b) oC = fX0_follow_L27 oE (nI nb) cut J n fr' (nI (b + 1)) oC') ∧ FR fr' (frS mP cut (b + 1)).1 (frS mP cut (b + 1)).2 ∧ oC' 0 = upd (oC 0) b (mvS mP cut b) ∧ oC' 1 0 = oC 1 0 + bkS W P mP cut b ∧ oC' 2 0 = oC 2 0 + (if sdI cut b = nI 1 then xG W mP b else 0) ∧ oC' 3 0 = oC 3 0 + bc (mvS mP cut b) ∧ oC' 4 0 = imax (oC 4 0) (bc (mvS mP cut b)) ∧ ∀ k, 5 ≤ k → oC' k = oC k := by
  have h12 := h.1.1
  obtain ⟨r0, r1, r2, r3, r4, r5, r6⟩ := hr
  obtain ⟨x1, x2⟩ := B8_x h hb
  have hn := note6 (oC := oC) (b := b) (m := mvS mP cut b) (by omega)
  rcases sd01 cut b with hs | hs
  · have c : ¬ sdI cut b = nI 1 := by rw [hs]; decide
    have hmv : mvS mP cut b = xR mP b &&& ((frS mP cut b).1 ^^^ (-1)) := by unfold mvS; rw [if_neg c]
    have hlk : lk fr (oE 5 b) (nI 0) = mvS mP cut b := by rw [r5, hmv]; exact lk_0 hf x1
    have hbk : bkS W P mP cut b = xC W mP b := if_neg c
    have hfr := fb_0 hf x1 x2
    have hf' : frS mP cut (b + 1) = (((frS mP cut b).1 ||| (xR mP b &&& ((frS mP cut b).1 ^^^ (-1)))) ||| xW mP b, (frS mP cut b).2 &&& (xW mP b ^^^ (-1))) := if_neg c
    have hfb := fb6 (oE := oE) (fr := fr) (s := nI 0) (b := b) (by omega)
    rw [r5, r6] at hfb
    have ht : fX0_ticksOn oE (nI b) (nI 0) = some (xC W mP b) := by
      unfold fX0_ticksOn; rw [if_neg (by decide), zGd_in (by omega) (by omega), nIc (by omega), r1]
    have hg : fX0_gatesOn oE (nI b) (nI 0) = some 0 := by
      unfold fX0_gatesOn; rw [if_neg (by decide)]
    refine ⟨fb fr (xR mP b) (xW mP b) (nI 0), rs (rs (rs (rs (rs oC 0 (upd (oC 0) b (mvS mP cut b))) 3 (fun _ => oC 3 0 + bc (mvS mP cut b))) 4 (fun _ => imax (oC 4 0) (bc (mvS mP cut b)))) 1 (fun _ => oC 1 0 + xC W mP b)) 2 (fun _ => oC 2 0 + 0), fun J n => ?_, by rw [hf']; exact hfr, ?_, ?_, ?_, ?_, ?_, fun k hk => ?_⟩
    · rw [fX0_follow_L27_s]
      have hs' : (cut >>> (nI b &&& 31)) &&& (1 : Int32) = nI 0 := hs
      simp (disch := omega) only [↓zLet_q, zGd_in, nIc, nI_le_f, ↓reduceIte, hs', lk6, hlk, zB1_q, hn, hfb, ht, hg, rs_n, rs_s]
      rw [nI_1]
    · simp (disch := omega) only [zLet_e, zJn_e, zB1_s, zB2_s, zB3_s, zB4_s, zB5_s, zB6_s, zB7_s, zGd_in, zGd_b0, zGd_b1, rs_s, rs_n, upd_s, upd_n, ite_t, ite_f, if_true, if_false, ne_eq, not_true, not_false_iff]
    · rw [hbk]; simp (disch := omega) only [zLet_e, zJn_e, zB1_s, zB2_s, zB3_s, zB4_s, zB5_s, zB6_s, zB7_s, zGd_in, zGd_b0, zGd_b1, rs_s, rs_n, upd_s, upd_n, ite_t, ite_f, if_true, if_false, ne_eq, not_true, not_false_iff]
    · rw [if_neg c]; simp (disch := omega) only [zLet_e, zJn_e, zB1_s, zB2_s, zB3_s, zB4_s, zB5_s, zB6_s, zB7_s, zGd_in, zGd_b0, zGd_b1, rs_s, rs_n, upd_s, upd_n, ite_t, ite_f, if_true, if_false, ne_eq, not_true, not_false_iff]
    · simp (disch := omega) only [zLet_e, zJn_e, zB1_s, zB2_s, zB3_s, zB4_s, zB5_s, zB6_s, zB7_s, zGd_in, zGd_b0, zGd_b1, rs_s, rs_n, upd_s, upd_n, ite_t, ite_f, if_true, if_false, ne_eq, not_true, not_false_iff]
    · simp (disch := omega) only [zLet_e, zJn_e, zB1_s, zB2_s, zB3_s, zB4_s, zB5_s, zB6_s, zB7_s, zGd_in, zGd_b0, zGd_b1, rs_s, rs_n, upd_s, upd_n, ite_t, ite_f, if_true, if_false, ne_eq, not_true, not_false_iff]
    · simp (disch := omega) only [zLet_e, zJn_e, zB1_s, zB2_s, zB3_s, zB4_s, zB5_s, zB6_s, zB7_s, zGd_in, zGd_b0, zGd_b1, rs_s, rs_n, upd_s, upd_n, ite_t, ite_f, if_true, if_false, ne_eq, not_true, not_false_iff]
  · have c : sdI cut b = nI 1 := hs
    have hmv : mvS mP cut b = xR mP b &&& ((frS mP cut b).2 ^^^ (-1)) := by unfold mvS; rw [if_pos c]
    have hlk : lk fr (oE 5 b) (nI 1) = mvS mP cut b := by rw [r5, hmv]; exact lk_1 hf x1
    have hbk : bkS W P mP cut b = xK W P mP b := if_pos c
    have hfr := fb_1 hf x1 x2
    have hf' : frS mP cut (b + 1) = ((frS mP cut b).1 &&& (xW mP b ^^^ (-1)), ((frS mP cut b).2 ||| (xR mP b &&& ((frS mP cut b).2 ^^^ (-1)))) ||| xW mP b) := if_pos c
    have hfb := fb6 (oE := oE) (fr := fr) (s := nI 1) (b := b) (by omega)
    rw [r5, r6] at hfb
    have ht : fX0_ticksOn oE (nI b) (nI 1) = some (xK W P mP b) := by
      unfold fX0_ticksOn; rw [if_pos (show nI 1 = (1 : Int32) from rfl), zGd_in (by omega) (by omega), nIc (by omega), r4]
    have hg : fX0_gatesOn oE (nI b) (nI 1) = some (xG W mP b) := by
      unfold fX0_gatesOn; rw [if_pos (show nI 1 = (1 : Int32) from rfl), zGd_in (by omega) (by omega), nIc (by omega), r2]
    refine ⟨fb fr (xR mP b) (xW mP b) (nI 1), rs (rs (rs (rs (rs oC 0 (upd (oC 0) b (mvS mP cut b))) 3 (fun _ => oC 3 0 + bc (mvS mP cut b))) 4 (fun _ => imax (oC 4 0) (bc (mvS mP cut b)))) 1 (fun _ => oC 1 0 + xK W P mP b)) 2 (fun _ => oC 2 0 + xG W mP b), fun J n => ?_, by rw [hf']; exact hfr, ?_, ?_, ?_, ?_, ?_, fun k hk => ?_⟩
    · rw [fX0_follow_L27_s]
      have hs' : (cut >>> (nI b &&& 31)) &&& (1 : Int32) = nI 1 := hs
      simp (disch := omega) only [↓zLet_q, zGd_in, nIc, nI_le_f, ↓reduceIte, hs', lk6, hlk, zB1_q, hn, hfb, ht, hg, rs_n, rs_s]
      rw [nI_1]
    · simp (disch := omega) only [zLet_e, zJn_e, zB1_s, zB2_s, zB3_s, zB4_s, zB5_s, zB6_s, zB7_s, zGd_in, zGd_b0, zGd_b1, rs_s, rs_n, upd_s, upd_n, ite_t, ite_f, if_true, if_false, ne_eq, not_true, not_false_iff]
    · rw [hbk]; simp (disch := omega) only [zLet_e, zJn_e, zB1_s, zB2_s, zB3_s, zB4_s, zB5_s, zB6_s, zB7_s, zGd_in, zGd_b0, zGd_b1, rs_s, rs_n, upd_s, upd_n, ite_t, ite_f, if_true, if_false, ne_eq, not_true, not_false_iff]
    · rw [if_pos c]; simp (disch := omega) only [zLet_e, zJn_e, zB1_s, zB2_s, zB3_s, zB4_s, zB5_s, zB6_s, zB7_s, zGd_in, zGd_b0, zGd_b1, rs_s, rs_n, upd_s, upd_n, ite_t, ite_f, if_true, if_false, ne_eq, not_true, not_false_iff]
    · simp (disch := omega) only [zLet_e, zJn_e, zB1_s, zB2_s, zB3_s, zB4_s, zB5_s, zB6_s, zB7_s, zGd_in, zGd_b0, zGd_b1, rs_s, rs_n, upd_s, upd_n, ite_t, ite_f, if_true, if_false, ne_eq, not_true, not_false_iff]
    · simp (disch := omega) only [zLet_e, zJn_e, zB1_s, zB2_s, zB3_s, zB4_s, zB5_s, zB6_s, zB7_s, zGd_in, zGd_b0, zGd_b1, rs_s, rs_n, upd_s, upd_n, ite_t, ite_f, if_true, if_false, ne_eq, not_true, not_false_iff]
    · simp (disch := omega) only [zLet_e, zJn_e, zB1_s, zB2_s, zB3_s, zB4_s, zB5_s, zB6_s, zB7_s, zGd_in, zGd_b0, zGd_b1, rs_s, rs_n, upd_s, upd_n, ite_t, ite_f, if_true, if_false, ne_eq, not_true, not_false_iff]
theorem follow6 {oP mP oE oC : Rc} {cut W P : Int32} {nb ns NN : Nat} {ln : Nat → Nat} (hN : 1000 ≤ NN) (h : PG oP mP nb ns ln) (hr : ∀ b, b < nb → NR oE W P mP b) : ∃ oC', fX0_follow NN oE oC (nI nb) cut = some oC' ∧ oC' 1 0 = btS W P mP cut nb ∧ oC' 2 0 = gtS W mP cut nb ∧ oC' 3 0 = mcS mP cut nb + bc (enS mP cut nb) ∧ oC' 4 0 = imax (mxS mP cut nb) (bc (enS mP cut nb)) ∧ (∀ b, b < nb → oC' 0 b = mvS mP cut b) ∧ oC' 0 nb = enS mP cut nb ∧ ∀ k, 5 ≤ k → oC' k = oC k := by
  have h12 := h.1.1
  have key : ∀ (n b : Nat) (fr : Int32) (oC : Rc), nb - b < n → b ≤ nb → FR fr (frS mP cut b).1 (frS mP cut b).2 → oC 1 0 = btS W P mP cut b → oC 2 0 = gtS W mP cut b → oC 3 0 = mcS mP cut b → oC 4 0 = mxS mP cut b → (∀ i, i < b → oC 0 i = mvS mP cut i) → ∃ fr' oC', (∀ J, fX0_follow_L27 oE (nI nb) cut J n fr (nI b) oC = J fr' oC') ∧ FR fr' (frS mP cut nb).1 (frS mP cut nb).2 ∧ oC' 1 0 = btS W P mP cut nb ∧ oC' 2 0 = gtS W mP cut nb ∧ oC' 3 0 = mcS mP cut nb ∧ oC' 4 0 = mxS mP cut nb ∧ (∀ i, i < nb → oC' 0 i = mvS mP cut i) ∧ ∀ k, 5 ≤ k → oC' k = oC k := by
    intro n
    induction n with
    | zero => intro b fr oC h; omega
    | succ n ih =>
      intro b fr oC hn hb hf e1 e2 e3 e4 e0
      by_cases c : b < nb
      · obtain ⟨fr1, oC1, g1, g2, g3, g4, g5, g6, g7, g8⟩ := fol_go (oC := oC) h c (hr b c) hf
        obtain ⟨fr2, oC2, r1, r2, r3, r4, r5, r6, r7, r8⟩ := ih (b + 1) fr1 oC1 (by omega) (by omega) g2 (by rw [g4, e1]; rfl) (by rw [g5, e2]; rfl) (by rw [g6, e3]; rfl) (by rw [g7, e4]; rfl) (fun i hi => by
          rw [g3]
          by_cases ci : i = b
          · subst ci; rw [upd_s]
          · rw [upd_n ci]; exact e0 i (by omega))
        exact ⟨fr2, oC2, fun J => by rw [g1]; exact r1 J, r2, r3, r4, r5, r6, r7, fun k hk => (r8 k hk).trans (g8 k hk)⟩
      · have : b = nb := by omega
        subst this
        refine ⟨fr, oC, fun J => ?_, hf, e1, e2, e3, e4, e0, fun _ _ => rfl⟩
        rw [fX0_follow_L27_s]
        simp (disch := omega) only [nI_le_t, ↓reduceIte]
  obtain ⟨fr, oC1, q1, q2, q3, q4, q5, q6, q7, q8⟩ := key NN 0 65535 (rs (rs (rs (rs oC 1 (fun _ => (0 : Int32))) 2 (fun _ => (0 : Int32))) 3 (fun _ => (0 : Int32))) 4 (fun _ => (0 : Int32))) (by omega) (by omega) FR_0 (by simp (disch := omega) only [rs_s, rs_n]; rfl) (by simp (disch := omega) only [rs_s, rs_n]; rfl) (by simp (disch := omega) only [rs_s, rs_n]; rfl) (by simp (disch := omega) only [rs_s, rs_n]; rfl) (fun i hi => by omega)
  have hlk : lk fr (255 : Int32) (0 : Int32) = enS mP cut nb := lk_0 q2 B8_255
  have hn := note6 (oC := oC1) (b := nb) (m := enS mP cut nb) (by omega)
  refine ⟨rs (rs (rs oC1 0 (upd (oC1 0) nb (enS mP cut nb))) 3 (fun _ => oC1 3 0 + bc (enS mP cut nb))) 4 (fun _ => imax (oC1 4 0) (bc (enS mP cut nb))), ?_, ?_, ?_, ?_, ?_, fun b hb => ?_, ?_, fun k hk => ?_⟩
  · unfold fX0_follow
    simp only [zLet_q, zJn_q]
    refine (q1 _).trans ?_
    simp only [lk6, zB1_q, hlk, hn]
  · simp (disch := omega) only [zLet_e, zJn_e, zB1_s, zB2_s, zB3_s, zB4_s, zB5_s, zB6_s, zB7_s, zGd_in, zGd_b0, zGd_b1, rs_s, rs_n, upd_s, upd_n, ite_t, ite_f, if_true, if_false, ne_eq, not_true, not_false_iff, q3]
  · simp (disch := omega) only [zLet_e, zJn_e, zB1_s, zB2_s, zB3_s, zB4_s, zB5_s, zB6_s, zB7_s, zGd_in, zGd_b0, zGd_b1, rs_s, rs_n, upd_s, upd_n, ite_t, ite_f, if_true, if_false, ne_eq, not_true, not_false_iff, q4]
  · simp (disch := omega) only [zLet_e, zJn_e, zB1_s, zB2_s, zB3_s, zB4_s, zB5_s, zB6_s, zB7_s, zGd_in, zGd_b0, zGd_b1, rs_s, rs_n, upd_s, upd_n, ite_t, ite_f, if_true, if_false, ne_eq, not_true, not_false_iff, q5]
  · simp (disch := omega) only [zLet_e, zJn_e, zB1_s, zB2_s, zB3_s, zB4_s, zB5_s, zB6_s, zB7_s, zGd_in, zGd_b0, zGd_b1, rs_s, rs_n, upd_s, upd_n, ite_t, ite_f, if_true, if_false, ne_eq, not_true, not_false_iff, q6]
  · have := q7 b hb
    simp (disch := omega) only [zLet_e, zJn_e, zB1_s, zB2_s, zB3_s, zB4_s, zB5_s, zB6_s, zB7_s, zGd_in, zGd_b0, zGd_b1, rs_s, rs_n, upd_s, upd_n, ite_t, ite_f, if_true, if_false, ne_eq, not_true, not_false_iff, this]
  · simp (disch := omega) only [zLet_e, zJn_e, zB1_s, zB2_s, zB3_s, zB4_s, zB5_s, zB6_s, zB7_s, zGd_in, zGd_b0, zGd_b1, rs_s, rs_n, upd_s, upd_n, ite_t, ite_f, if_true, if_false, ne_eq, not_true, not_false_iff]
  · have := q8 k hk
    simp (disch := omega) only [rs_n] at this ⊢
    rw [this]
