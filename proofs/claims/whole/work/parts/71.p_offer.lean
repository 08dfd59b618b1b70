/-! own part (pure): a cut offered; all offered -/
theorem i32le {a b : Int32} (h : ¬ a < b) : b.toInt ≤ a.toInt := by
  rw [Int32.lt_iff_toInt_lt] at h; omega
theorem i32ne {a b : Int32} (h : ¬ a = b) : ¬ a.toInt = b.toInt := fun e => h (Int32.toInt_inj.mp e)
def oJ (oC : Rc) (p1 x3 : Int32) : Int32 → Option Rc := fun (x5 : Int32) =>
              zLet ((oC 7 0) - x5) fun x7 =>
              if ((x3 + (1 : Int32)) + x7) ≤ (4096 : Int32) then (
                zGd ((¬ x5 < 0) ∧ (¬ (x3 + (1 : Int32)) < 0) ∧ (¬ x7 < 0) ∧ x5.toNatClampNeg + x7.toNatClampNeg ≤ 4096 ∧ (x3 + (1 : Int32)).toNatClampNeg + x7.toNatClampNeg ≤ 4096) <|
                zLet (rs oC 6 (va_cpy (oC 6) (oC 6) x5.toNatClampNeg (x3 + (1 : Int32)).toNatClampNeg x7.toNatClampNeg)) fun oC_8 =>
                zGd (inb x3 4096) <|
                zLet (rs oC_8 6 (upd (oC_8 6) x3.toNatClampNeg p1)) fun oC_9 =>
                zLet (rs oC_9 7 (fun _ => ((x3 + (1 : Int32)) + x7))) fun oC_10 =>
                some oC_10
              ) else (
                some oC
              )
theorem offer_e (NN : Nat) (oC : Rc) (p1 : Int32) : fX0_offer NN oC p1 = (
  zGd (inb p1 4096) <|
  zB1 (fX0_edgesWithin NN oC (oC 10 p1.toNatClampNeg)) fun v1 =>
  zJn (fun (_ : Unit) =>
      zJn (fun (x3 : Int32) =>
          fX0_offer_L69 oC p1 (oJ oC p1 x3) NN x3
        ) fun J67_4 =>
      if v1 ≤ 0 then (
        J67_4 v1
      ) else (
        zGd (inb (v1 - (1 : Int32)) 4096) <|
        zGd (inb (oC 6 (v1 - (1 : Int32)).toNatClampNeg) 4096) <|
        zGd (inb p1 4096) <|
        if (oC 10 (oC 6 (v1 - (1 : Int32)).toNatClampNeg).toNatClampNeg) = (oC 10 p1.toNatClampNeg) then (
          zLet (v1 + (-1)) fun x14 =>
          J67_4 x14
        ) else (
          J67_4 v1
        )
      )
    ) fun J38_2 =>
  if v1 ≤ 0 then (
    J38_2 ()
  ) else (
    zGd (inb (v1 - (1 : Int32)) 4096) <|
    zGd (inb (oC 6 (v1 - (1 : Int32)).toNatClampNeg) 4096) <|
    zGd (inb p1 4096) <|
    if (oC 9 p1.toNatClampNeg) < (oC 9 (oC 6 (v1 - (1 : Int32)).toNatClampNeg).toNatClampNeg) then (
      J38_2 ()
    ) else (
      some oC
    )
  )) := rfl
/-- the end of an offer: the cut comes in at a, the edges from a to k go -/
theorem offer_in {T G : Nat → Int32} {oC : Rc} {E : Nat → Nat} {m A c a k NN : Nat} (hN : 5000 ≤ NN) (hA : A ≤ 4096) (hmc : m ≤ c) (hc : c < A) (hrw : RW T G oC A) (heg : EG oC E m) (hak : a ≤ k) (hkm : k ≤ m) (hl : ∀ J, fX0_offer_L69 oC (nI c) J NN (nI a) = J (nI k)) : ∃ oC', fX0_offer_L69 oC (nI c) (oJ oC (nI c) (nI a)) NN (nI a) = some oC' ∧ EG oC' (fun i => if i < a then E i else if i = a then c else E (k + (i - (a + 1)))) (a + 1 + (m - k)) ∧ RW T G oC' A ∧ ∀ j, j ≠ 6 → j ≠ 7 → oC' j = oC j := by
  refine ⟨rs (rs (rs oC 6 (va_cpy (oC 6) (oC 6) k (a + 1) (m - k))) 6 (upd (va_cpy (oC 6) (oC 6) k (a + 1) (m - k)) a (nI c))) 7 (fun _ => nI (a + 1 + (m - k))), ?_, ⟨?_, fun i hi => ?_⟩, fun x hx => ?_, fun j h6 h7 => ?_⟩
  · rw [hl]
    unfold oJ
    rw [zLet_q, heg.1, nI_sub hkm, nI_1, nI_add]
    rw [if_pos (show nI (a + 1 + (m - k)) ≤ (4096 : Int32) from nI_le (b := 4096) (by omega) (by omega))]
    rw [nIc (by omega), nIc (by omega), nIc (by omega)]
    rw [zGd_t ⟨nI_pos (by omega), nI_pos (by omega), nI_pos (by omega), by omega, by omega⟩, zLet_q, zGd_in (by omega) (by omega), nIc (by omega), zLet_q, zLet_q, rs_s]
  · rw [rs_s]
  · rw [rs_n _ _ (by omega), rs_s]
    by_cases c1 : i < a
    · rw [upd_n (by omega), pk_cpy_out (by omega)]
      show _ = nI (if i < a then E i else _)
      rw [if_pos c1]
      exact heg.2 i (by omega)
    · by_cases c2 : i = a
      · rw [c2, upd_s]
        show _ = nI (if a < a then E a else if a = a then c else _)
        rw [if_neg (by omega), if_pos rfl]
      · rw [upd_n c2, pk_cpy_in (by omega) (by omega)]
        show _ = nI (if i < a then E i else if i = a then c else E (k + (i - (a + 1))))
        rw [if_neg c1, if_neg c2]
        exact heg.2 _ (by omega)
  · have := hrw x hx
    simp (disch := omega) only [rs_n]
    exact this
  · simp (disch := omega) only [rs_n]
theorem offer6 {T G : Nat → Int32} {oC : Rc} {E : Nat → Nat} {m A c NN : Nat} (hN : 5000 ≤ NN) (hA : A ≤ 4096) (hc : c < A) (hrw : RW T G oC A) (heg : EG oC E m) (hf : Fr (fun c => (T c).toInt) (fun c => (G c).toInt) E m c) : ∃ oC' E' m', fX0_offer NN oC (nI c) = some oC' ∧ EG oC' E' m' ∧ Fr (fun c => (T c).toInt) (fun c => (G c).toInt) E' m' (c + 1) ∧ RW T G oC' A ∧ ∀ j, j ≠ 6 → j ≠ 7 → oC' j = oC j := by
  have hE : ∀ i, i < m → E i < A := fun i hi => by have := hf.1 i hi; omega
  have hmc := hf.2.2.2
  have h10c := (hrw _ hc).2
  have h9c := (hrw _ hc).1
  obtain ⟨a, w1, w2, w3, w4⟩ := within6 (most := G c) hN hA (by omega) hrw heg hE (fun i j h1 h2 => (hf.2.1 i j h1 h2).1)
  have hoff := offer_e NN oC (nI c)
  simp (disch := omega) only [zGd_in, nIc, h10c, h9c, w1, zB1_q, ↓zJn_q] at hoff
  rw [hoff]
  clear hoff
  by_cases a0 : a = 0
  · subst a0
    rw [if_pos (show nI 0 ≤ 0 by decide), if_pos (show nI 0 ≤ 0 by decide)]
    obtain ⟨k, k1, k2, k3, k4, k5⟩ := l69 hA (by omega) hc hrw heg hE NN 0 (by omega) (by omega)
    obtain ⟨oC', q1, q2, q3, q4⟩ := offer_in hN hA hmc hc hrw heg k2 k3 k1
    refine ⟨oC', _, _, q1, q2, Fr_put hf (by omega) (fun i hi => by omega) k2 k3 (fun i i1 i2 => ?_) (fun i i1 i2 => ?_), q3, q4⟩
    · have u := w4 i (by omega) (by omega)
      have v := k4 i i1 i2
      exact ⟨by omega, v, fun e => by have e : (G (E i)).toInt = (G c).toInt := e; omega⟩
    · have u := w4 i (by omega) i2
      have v := k5 (by omega)
      refine ⟨u, ?_⟩
      by_cases ci : i = k
      · rw [ci]; exact v
      · have := (hf.2.1 k i (by omega) i2).2
        have t : (T (E i)).toInt < (T (E k)).toInt := this
        show (T (E i)).toInt < (T c).toInt
        omega
  · have hle : ¬ nI a ≤ (0 : Int32) := nI_nle (by omega) (by omega)
    have hpred : nI a - (1 : Int32) = nI (a - 1) := by rw [lq_1, nI_sub (by omega)]
    have he := heg.2 (a - 1) (by omega)
    have hEa := hE (a - 1) (by omega)
    have h9 := (hrw _ hEa).1
    have h10 := (hrw _ hEa).2
    simp (disch := omega) only [if_neg hle, hpred, zGd_in, nIc, he, h9, h10]
    by_cases ct : T c < T (E (a - 1))
    · have ct' := Int32.lt_iff_toInt_lt.mp ct
      rw [if_pos ct]
      by_cases cg : G (E (a - 1)) = G c
      · have hdec : nI a + (-1) = nI (a - 1) := sb_m1 (by omega)
        rw [if_pos cg, zLet_q, hdec]
        obtain ⟨k, k1, k2, k3, k4, k5⟩ := l69 hA (by omega) hc hrw heg hE NN (a - 1) (by omega) (by omega)
        obtain ⟨oC', q1, q2, q3, q4⟩ := offer_in hN hA hmc hc hrw heg k2 k3 k1
        have hka : a ≤ k := by
          by_cases hk : k = a - 1
          · have := k5 (by omega)
            rw [hk] at this
            omega
          · omega
        refine ⟨oC', _, _, q1, q2, Fr_put hf (by omega) (fun i hi => ?_) k2 k3 (fun i i1 i2 => ?_) (fun i i1 i2 => ?_), q3, q4⟩
        · obtain ⟨u, v⟩ := hf.2.1 i (a - 1) hi (by omega)
          have u : (G (E i)).toInt < (G (E (a - 1))).toInt := u
          have v : (T (E (a - 1))).toInt < (T (E i)).toInt := v
          rw [cg] at u
          exact ⟨u, by show (T c).toInt < (T (E i)).toInt; omega⟩
        · have v := k4 i i1 i2
          by_cases ci : i = a - 1
          · subst ci
            refine ⟨by show (G c).toInt ≤ (G (E (a - 1))).toInt; rw [cg]; exact Int.le_refl _, v, fun _ => ct'⟩
          · have u := w4 i (by omega) (by omega)
            exact ⟨by show (G c).toInt ≤ _; omega, v, fun e => by have e : (G (E i)).toInt = (G c).toInt := e; omega⟩
        · have u := w4 i (by omega) i2
          have v := k5 (by omega)
          refine ⟨u, ?_⟩
          show (T (E i)).toInt < (T c).toInt
          by_cases ci : i = k
          · rw [ci]; exact v
          · have t : (T (E i)).toInt < (T (E k)).toInt := (hf.2.1 k i (by omega) i2).2
            omega
      · have cg' := i32ne cg
        rw [if_neg cg]
        obtain ⟨k, k1, k2, k3, k4, k5⟩ := l69 hA (by omega) hc hrw heg hE NN a (by omega) (by omega)
        obtain ⟨oC', q1, q2, q3, q4⟩ := offer_in hN hA hmc hc hrw heg k2 k3 k1
        refine ⟨oC', _, _, q1, q2, Fr_put hf (by omega) (fun i hi => ?_) k2 k3 (fun i i1 i2 => ?_) (fun i i1 i2 => ?_), q3, q4⟩
        · have wl := w3 (a - 1) (by omega)
          show (G (E i)).toInt < (G c).toInt ∧ (T c).toInt < (T (E i)).toInt
          by_cases ci : i = a - 1
          · rw [ci]; exact ⟨by omega, ct'⟩
          · obtain ⟨u, v⟩ := hf.2.1 i (a - 1) (by omega) (by omega)
            have u : (G (E i)).toInt < (G (E (a - 1))).toInt := u
            have v : (T (E (a - 1))).toInt < (T (E i)).toInt := v
            exact ⟨by omega, by omega⟩
        · have v := k4 i i1 i2
          have u := w4 i (by omega) (by omega)
          exact ⟨by show (G c).toInt ≤ _; omega, v, fun e => by have e : (G (E i)).toInt = (G c).toInt := e; omega⟩
        · have u := w4 i (by omega) i2
          have v := k5 (by omega)
          refine ⟨u, ?_⟩
          show (T (E i)).toInt < (T c).toInt
          by_cases ci : i = k
          · rw [ci]; exact v
          · have t : (T (E i)).toInt < (T (E k)).toInt := (hf.2.1 k i (by omega) i2).2
            omega
    · rw [if_neg ct]
      exact ⟨oC, E, m, rfl, heg, Fr_skip (a := a - 1) hf (by omega) (w3 (a - 1) (by omega)) (i32le ct), hrw, fun _ _ _ => rfl⟩
/-- the class's rows and edges hold for the program and settings of now -/
def FC (W P v : Int32) (mP : Rc) (nb : Nat) (oC : Rc) : Prop := RW (fun c => TT W P v mP nb (nI c)) (fun c => gtS W mP (nI c) nb) oC (2 ^ nb) ∧ ∃ E m, EG oC E m ∧ Fr (fun c => (TT W P v mP nb (nI c)).toInt) (fun c => (gtS W mP (nI c) nb).toInt) E m (2 ^ nb)
theorem prepare6 {oP mP oE oC : Rc} {W P v : Int32} {nb ns NN : Nat} {ln : Nat → Nat} (hN : 5000 ≤ NN) (h : PG oP mP nb ns ln) (hr : ∀ b, b < nb → NR oE W P mP b) (hC : oC 5 0 = 0 ∨ (oC 5 0 = 1 ∧ FC W P v mP nb oC)) : ∃ oC', fX0_prepare NN oE oC (nI nb) v = some oC' ∧ oC' 5 0 = 1 ∧ FC W P v mP nb oC' := by
  have h12 := h.1.1
  have p12 := two12 h12
  unfold fX0_prepare
  rcases hC with h5 | ⟨h5, hF⟩
  · obtain ⟨oC1, a1, a2, a3⟩ := all6 (oC := oC) (v := v) hN h hr
    rw [if_pos h5, a1, zB1_q, zLet_q, zJn_q]
    have key : ∀ (n c : Nat) (oC : Rc) (E : Nat → Nat) (m : Nat), 2 ^ nb - c < n → c ≤ 2 ^ nb → RW (fun c => TT W P v mP nb (nI c)) (fun c => gtS W mP (nI c) nb) oC (2 ^ nb) → EG oC E m → Fr (fun c => (TT W P v mP nb (nI c)).toInt) (fun c => (gtS W mP (nI c) nb).toInt) E m c → ∃ oC', (∀ J, fX0_prepare_L23 (nI nb) NN J n (nI c) oC = J oC') ∧ FC W P v mP nb oC' := by
      intro n
      induction n with
      | zero => intro c oC E m h; omega
      | succ n ih =>
        intro c oC E m hn hc hrw heg hf
        by_cases cc : c < 2 ^ nb
        · obtain ⟨oC', E', m', o1, o2, o3, o4, o5⟩ := offer6 hN p12 cc hrw heg hf
          obtain ⟨oC2, q1, q2⟩ := ih (c + 1) oC' E' m' (by omega) (by omega) o4 o2 o3
          refine ⟨oC2, fun J => ?_, q2⟩
          rw [fX0_prepare_L23_s, one_sh h12, if_neg (nI_ge cc (by omega)), o1, zB1_q, zLet_q, nI_1]
          exact q1 J
        · have : c = 2 ^ nb := by omega
          subst this
          refine ⟨oC, fun J => ?_, hrw, E, m, heg, hf⟩
          rw [fX0_prepare_L23_s, one_sh h12, if_pos (nI_le (Nat.le_refl _) (by omega))]
    obtain ⟨oC2, q1, q2⟩ := key NN 0 (rs oC1 7 (fun _ => (0 : Int32))) (fun _ => 0) 0 (by omega) (Nat.zero_le _) (fun c hc => by
      rw [rs_n _ _ (by omega), rs_n _ _ (by omega)]; exact a2 c hc) ⟨by rw [rs_s]; rfl, fun i hi => by omega⟩ ⟨fun i hi => by omega, fun i j _ hj => by omega, fun x hx => by omega, Nat.le_refl _⟩
    refine ⟨rs oC2 5 (fun _ => (1 : Int32)), ?_, by rw [rs_s], ?_⟩
    · refine (q1 _).trans ?_
      rw [zLet_q]
    · obtain ⟨r1, E, m, r2, r3⟩ := q2
      refine ⟨fun c hc => ?_, E, m, ⟨?_, fun i hi => ?_⟩, r3⟩
      · rw [rs_n _ _ (by omega), rs_n _ _ (by omega)]; exact r1 c hc
      · rw [rs_n _ _ (by omega)]; exact r2.1
      · rw [rs_n _ _ (by omega)]; exact r2.2 i hi
  · rw [if_neg (by rw [h5]; decide)]
    exact ⟨oC, rfl, h5, hF⟩
