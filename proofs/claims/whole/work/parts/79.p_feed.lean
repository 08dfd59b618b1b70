/-! own part (pure): feed -/
theorem bt_i8 (y : Int32) : y.toInt8 = (y &&& 255).toInt8 := by
  apply Int8.toBitVec_inj.mp
  apply BitVec.eq_of_getLsbD_eq
  intro i hi
  have e1 : y.toInt8.toBitVec = y.toBitVec.signExtend 8 := rfl
  have e2 : (y &&& 255).toInt8.toBitVec = (y &&& 255).toBitVec.signExtend 8 := rfl
  rw [e1, e2, BitVec.getLsbD_signExtend, BitVec.getLsbD_signExtend]
  have h1 : (y &&& 255).toBitVec.getLsbD i = y.toBitVec.getLsbD i := by
    have := bt_and y 255 i
    unfold bt at this
    rw [this]
    have h255 := bt_255 (i := i) (by omega)
    unfold bt at h255
    rw [h255, decide_eq_true hi, Bool.and_true]
  rw [if_pos (by omega), if_pos (by omega), h1]
theorem i8sx {b : Nat} (hb : b < 256) : (nI b).toInt8.toInt32 = sx b := byteAll (P := fun b => (nI b).toInt8.toInt32 = sx b) (by decide +kernel) hb
/-- byte q of a number, the highest first -/
def yb (x : Int32) (q : Nat) : Nat := x.toBitVec.toNat / 2 ^ (24 - 8 * q) % 256
theorem yb_lt (x : Int32) (q : Nat) : yb x q < 256 := Nat.mod_lt _ (by omega)
theorem yb6 (x : Int32) {q : Nat} (hq : q < 4) : ((x.toUInt32 >>> ((nI (24 - 8 * q)).toUInt32 &&& Int32.toUInt32 31)).toInt32) &&& (255 : Int32) = nI (yb x q) := by
  have hs : (((nI (24 - 8 * q)).toUInt32 &&& Int32.toUInt32 31).toBitVec % 32).toNat = 24 - 8 * q := by
    have : ∀ q, q < 4 → (((nI (24 - 8 * q)).toUInt32 &&& Int32.toUInt32 31).toBitVec % 32).toNat = 24 - 8 * q := by decide +kernel
    exact this q hq
  have h := pk_ushr x (nI (24 - 8 * q)) (24 - 8 * q) hs
  have h2 := pk_and ((x.toUInt32 >>> ((nI (24 - 8 * q)).toUInt32 &&& Int32.toUInt32 31)).toInt32) (m := 255) 8 (by decide)
  rw [h2, h]
  rfl
theorem shr_and {x : Int32} {k : Nat} (hk : k ≤ 24) (s : Int32) (hs : (s.toBitVec.smod 32).toNat = k) : (x >>> s) &&& (255 : Int32) = nI (x.toBitVec.toNat / 2 ^ k % 256) := by
  have h2 := pk_and (x >>> s) (m := 255) 8 (by decide)
  rw [h2]
  congr 1
  have e : (x >>> s).toBitVec = x.toBitVec.sshiftRight k := by
    rw [← hs]; rfl
  apply Nat.eq_of_testBit_eq
  intro i
  rw [show (256 : Nat) = 2 ^ 8 from rfl, Nat.testBit_mod_two_pow, Nat.testBit_mod_two_pow]
  by_cases c : i < 8
  · rw [decide_eq_true c, Bool.true_and, Bool.true_and, Nat.testBit_div_two_pow]
    show (x >>> s).toBitVec.getLsbD i = x.toBitVec.getLsbD (i + k)
    rw [e, BitVec.getLsbD_sshiftRight]
    simp [show ¬ 32 ≤ i by omega, show k + i < 32 by omega, Nat.add_comm]
    try intro h; try omega
  · rw [decide_eq_false c, Bool.false_and, Bool.false_and]
theorem yb10 (x : Int32) {k : Nat} (hk : k < 20) : vp_nar .byte ((x >>> (((24 : Int32) - ((8 : Int32) * (nI k - nI k / (4 : Int32) * (4 : Int32)))) &&& 31)).toInt8.toInt32) = sx (yb x (k % 4)) := by
  have hs : ((((24 : Int32) - ((8 : Int32) * (nI k - nI k / (4 : Int32) * (4 : Int32)))) &&& 31).toBitVec.smod 32).toNat = 24 - 8 * (k % 4) := by
    have : ∀ k, k < 20 → ((((24 : Int32) - ((8 : Int32) * (nI k - nI k / (4 : Int32) * (4 : Int32)))) &&& 31).toBitVec.smod 32).toNat = 24 - 8 * (k % 4) := by decide +kernel
    exact this k hk
  rw [pk_vb, bt_i8, shr_and (by omega) _ hs]
  exact i8sx (Nat.mod_lt _ (by omega))
theorem app6 {oT : Rc} {x : Int32} {len NN : Nat} (hN : 5000 ≤ NN) (hl : len + 4 ≤ 600) (o1 : oT 1 0 = nI len) : ∃ oT', fX6_append NN oT x = some oT' ∧ oT' 1 0 = nI (len + 4) ∧ ∀ i, oT' 0 i = if len ≤ i ∧ i < len + 4 then nI (yb x (i - len)) else oT 0 i := by
  have key : ∀ (m q : Nat) (oT1 : Rc), 4 - q < m → q < 4 → oT1 1 0 = nI (len + q) → (∀ i, oT1 0 i = if len ≤ i ∧ i < len + q then nI (yb x (i - len)) else oT 0 i) → ∃ oT', fX6_append_L3 x (fun o => some o) (m + 1) (nI (24 - 8 * q)) oT1 = some oT' ∧ oT' 1 0 = nI (len + 4) ∧ ∀ i, oT' 0 i = if len ≤ i ∧ i < len + 4 then nI (yb x (i - len)) else oT 0 i := by
    intro m
    induction m with
    | zero => intro q oT1 h; omega
    | succ m ih =>
      intro q oT1 h1 h2 h3 h4
      have hy := yb6 x h2
      have nxt : ∀ i, (rs (rs oT1 0 (upd (oT1 0) (len + q) (nI (yb x q)))) 1 (fun _ => nI (len + q + 1))) 0 i = if len ≤ i ∧ i < len + (q + 1) then nI (yb x (i - len)) else oT 0 i := by
        intro i
        rw [rs_n _ _ (by omega), rs_s]
        by_cases c : i = len + q
        · rw [c, upd_s, if_pos (by omega), Nat.add_sub_cancel_left]
        · rw [upd_n c, h4 i]
          by_cases c' : len ≤ i ∧ i < len + q
          · rw [if_pos c', if_pos (by omega)]
          · rw [if_neg c', if_neg (by omega)]
      have st : fX6_append_L3 x (fun o => some o) (m + 1 + 1) (nI (24 - 8 * q)) oT1 = fX6_append_L3 x (fun o => some o) (m + 1) (nI (24 - 8 * q) + (-8)) (rs (rs oT1 0 (upd (oT1 0) (len + q) (nI (yb x q)))) 1 (fun _ => nI (len + q + 1))) := by
        rw [fX6_append_L3_s, if_neg (nI_pos (by omega)), h3, if_neg (show ¬ (600 : Int32) ≤ nI (len + q) from nI_ge (b := 600) (by omega) (by omega)), zGd_in (by omega) (by omega), nIc (by omega), hy, zLet_q, rs_n _ _ (by omega), h3, nI_1, zLet_q, zLet_q]
      rw [st]
      by_cases c : q = 3
      · subst c
        refine ⟨_, ?_, ?_, nxt⟩
        · rw [fX6_append_L3_s, if_pos (by decide)]
        · rw [rs_s]
      · have e : nI (24 - 8 * q) + (-8) = nI (24 - 8 * (q + 1)) := by
          have : ∀ q, q < 3 → nI (24 - 8 * q) + (-8) = nI (24 - 8 * (q + 1)) := by decide +kernel
          exact this q (by omega)
        rw [e]
        exact ih (q + 1) _ (by omega) (by omega) (by rw [rs_s]; rfl) nxt
  obtain ⟨n, rfl⟩ : ∃ n, NN = n + 1 := ⟨NN - 1, by omega⟩
  exact key n 0 oT (by omega) (by omega) o1 (fun i => by rw [if_neg (by omega)])
def wv (a b c d e : Int32) (q : Nat) : Int32 := if q = 0 then a else if q = 1 then b else if q = 2 then c else if q = 3 then d else e
def CC (B : Nat → Nat) (w : Nat → Int32) (len k i : Nat) : Nat := if len ≤ i ∧ i < len + k then yb (w ((i - len) / 4)) ((i - len) % 4) else B i
theorem CC_lt {B : Nat → Nat} {w : Nat → Int32} {len k : Nat} (hB : ∀ i, B i < 256) (i : Nat) : CC B w len k i < 256 := by
  unfold CC; split
  · exact yb_lt _ _
  · exact hB i
theorem CC_4 {B : Nat → Nat} {w : Nat → Int32} {len q i : Nat} {o o' : Int32} (h : o = nI (CC B w len (4 * q) i)) (h' : o' = if len + 4 * q ≤ i ∧ i < len + 4 * q + 4 then nI (yb (w q) (i - (len + 4 * q))) else o) : o' = nI (CC B w len (4 * (q + 1)) i) := by
  rw [h']
  unfold CC at h ⊢
  by_cases c : len + 4 * q ≤ i ∧ i < len + 4 * q + 4
  · rw [if_pos c, if_pos (by omega)]
    have e1 : (i - len) / 4 = q := by omega
    have e2 : (i - len) % 4 = i - (len + 4 * q) := by omega
    rw [e1, e2]
  · rw [if_neg c, h]
    by_cases c' : len ≤ i ∧ i < len + 4 * q
    · rw [if_pos c', if_pos (by omega)]
    · rw [if_neg c', if_neg (by omega)]
theorem op_feed {oH oR oT oS oP oE oC mZ mY mB mG mP : Rc} {oN mN : Ar} {NN : Nat} (hN : 5000 ≤ NN) (h : Inv oH oR oT oS oP oN oE oC mZ mY mB mG mP mN) (a b c d e : Int32) : ∃ v oT' mZ' mB', fX7_feed NN oT a b c d e = some (v, oT') ∧ fX10_feed NN mZ mB a b c d e = some (v, mZ', mB') ∧ Inv oH oR oT' oS oP oN oE oC mZ' mY mB' mG mP mN := by
  have hh := h
  obtain ⟨⟨B, len, hB, h0, hM, hl, t1, m12⟩, _⟩ := hh
  unfold fX7_feed fX10_feed
  rw [t1, zLet_q, m12]
  have e20 : nI len + (20 : Int32) = nI (len + 20) := by rw [lq_20, nI_add]
  rw [e20]
  by_cases cl : len + 20 ≤ 600
  · have c6 : nI (len + 20) ≤ (600 : Int32) := nI_le (b := 600) cl (by omega)
    rw [if_pos c6, if_pos c6]
    obtain ⟨oT1, a1, a2, a3⟩ := app6 (x := a) hN (by omega) t1
    obtain ⟨oT2, b1, b2, b3⟩ := app6 (x := b) hN (by omega) a2
    obtain ⟨oT3, c1, c2, c3⟩ := app6 (x := c) hN (by omega) b2
    obtain ⟨oT4, d1, d2, d3⟩ := app6 (x := d) hN (by omega) c2
    obtain ⟨oT5, f1, f2, f3⟩ := app6 (x := e) hN (by omega) d2
    have fin : ∀ i, i < 600 → oT5 0 i = nI (CC B (wv a b c d e) len 20 i) := by
      intro i hi
      have s0 : oT 0 i = nI (CC B (wv a b c d e) len (4 * 0) i) := by
        rw [h0 i hi]; unfold CC; rw [if_neg (by omega)]
      have s1 := CC_4 (w := wv a b c d e) s0 (a3 i)
      have s2 := CC_4 (w := wv a b c d e) (q := 1) s1 (b3 i)
      have s3 := CC_4 (w := wv a b c d e) (q := 2) s2 (c3 i)
      have s4 := CC_4 (w := wv a b c d e) (q := 3) s3 (d3 i)
      exact CC_4 (w := wv a b c d e) (q := 4) s4 (f3 i)
    have key : ∀ (n k : Nat) (mB1 : Rc), 20 - k < n → k ≤ 20 → mB1 12 0 = nI (len + k) → (∀ i, i < 600 → mB1 11 i = sx (CC B (wv a b c d e) len k i)) → ∃ mB', (∀ J, fX10_feed_L23 a b c d e J n (nI k) mB1 = J mB') ∧ mB' 12 0 = nI (len + 20) ∧ ∀ i, i < 600 → mB' 11 i = sx (CC B (wv a b c d e) len 20 i) := by
      intro n
      induction n with
      | zero => intro k mB1 h; omega
      | succ n ih =>
        intro k mB1 h1 h2 h3 h4
        by_cases ck : k < 20
        · have hy := yb10 (wv a b c d e (k / 4)) ck
          obtain ⟨mB', q1, q2, q3⟩ := ih (k + 1) (rs (rs mB1 11 (upd (mB1 11) (len + k) (sx (yb (wv a b c d e (k / 4)) (k % 4))))) 12 (fun _ => nI (len + k + 1))) (by omega) (by omega) (by rw [rs_s]; rfl) (fun i hi => by
            rw [rs_n _ _ (by omega), rs_s]
            by_cases ci : i = len + k
            · rw [ci, upd_s]
              unfold CC
              rw [if_pos (by omega), Nat.add_sub_cancel_left]
            · rw [upd_n ci, h4 i hi]
              congr 1
              unfold CC
              by_cases c' : len ≤ i ∧ i < len + k
              · rw [if_pos c', if_pos (by omega)]
              · rw [if_neg c', if_neg (by omega)])
          refine ⟨mB', fun J => ?_, q2, q3⟩
          rw [fX10_feed_L23_s, if_neg (show ¬ (20 : Int32) ≤ nI k from nI_ge (b := 20) ck (by omega))]
          have go : ∀ t, t = wv a b c d e (k / 4) → (zGd (inb (mB1 12 0) 600) <| zLet (rs mB1 11 (upd (mB1 11) (mB1 12 0).toNatClampNeg (vp_nar .byte ((t >>> (((24 : Int32) - ((8 : Int32) * (nI k - nI k / (4 : Int32) * (4 : Int32)))) &&& 31)).toInt8.toInt32)))) fun mB_9 => zLet (rs mB_9 12 (fun _ => ((mB_9 12 0) + (1 : Int32)))) fun mB_10 => zLet (nI k + 1) fun x11 => fX10_feed_L23 a b c d e J n x11 mB_10) = J mB' := by
            intro t ht
            rw [ht, hy, h3, zGd_in (by omega) (by omega), nIc (by omega), zLet_q, rs_n _ _ (by omega), h3, nI_1, zLet_q, nI_1, zLet_q]
            exact q1 J
          simp only [zJn_q]
          by_cases k4 : 4 ≤ k
          · rw [if_pos (show (4 : Int32) ≤ nI k from nI_le (a := 4) k4 (by omega))]
            by_cases k8 : 8 ≤ k
            · rw [if_pos (show (8 : Int32) ≤ nI k from nI_le (a := 8) k8 (by omega))]
              by_cases k12 : 12 ≤ k
              · rw [if_pos (show (12 : Int32) ≤ nI k from nI_le (a := 12) k12 (by omega))]
                by_cases k16 : 16 ≤ k
                · rw [if_pos (show (16 : Int32) ≤ nI k from nI_le (a := 16) k16 (by omega))]
                  exact go e (by rw [show k / 4 = 4 by omega]; rfl)
                · rw [if_neg (show ¬ (16 : Int32) ≤ nI k from nI_ge (b := 16) (by omega) (by omega))]
                  exact go d (by rw [show k / 4 = 3 by omega]; rfl)
              · rw [if_neg (show ¬ (12 : Int32) ≤ nI k from nI_ge (b := 12) (by omega) (by omega))]
                exact go c (by rw [show k / 4 = 2 by omega]; rfl)
            · rw [if_neg (show ¬ (8 : Int32) ≤ nI k from nI_ge (b := 8) (by omega) (by omega))]
              exact go b (by rw [show k / 4 = 1 by omega]; rfl)
          · rw [if_neg (show ¬ (4 : Int32) ≤ nI k from nI_ge (b := 4) (by omega) (by omega))]
            exact go a (by rw [show k / 4 = 0 by omega]; rfl)
        · have : k = 20 := by omega
          subst this
          refine ⟨mB1, fun J => ?_, h3, h4⟩
          rw [fX10_feed_L23_s, if_pos (show (20 : Int32) ≤ nI 20 by decide)]
    obtain ⟨mB', k1, k2, k3⟩ := key NN 0 mB (by omega) (by omega) m12 (fun i hi => by
      rw [hM i hi]; congr 1; unfold CC; rw [if_neg (by omega)])
    refine ⟨nI (len + 20), oT5, rs mZ 0 (fun _ => (0 : Int32)), mB', ?_, ?_, ⟨⟨CC B (wv a b c d e) len 20, len + 20, CC_lt hB, fin, k3, cl, f2, k2⟩, h.2⟩⟩
    · rw [a1, zB1_q, b1, zB1_q, c1, zB1_q, d1, zB1_q, f1, zB1_q, f2]
    · rw [zJn_q]
      refine (k1 _).trans ?_
      rw [k2]
  · have c6 : ¬ nI (len + 20) ≤ (600 : Int32) := nI_ge (a := 600) (by omega) (by omega)
    rw [if_neg c6, if_neg c6]
    exact ⟨_, _, _, _, rfl, rfl, Inv_g h⟩
