/-! own part (pure): all cuts reckoned by the class -/
theorem two12 {b : Nat} (hb : b ≤ 12) : 2 ^ b ≤ 4096 := by
  have := Nat.pow_le_pow_right (n := 2) (by omega) hb
  omega
theorem sm32 {b : Nat} (hb : b < 32) : ((nI b &&& 31).toBitVec.smod 32).toNat = b := by
  have : ∀ b, b < 32 → ((nI b &&& 31).toBitVec.smod 32).toNat = b := by decide +kernel
  exact this b hb
theorem one_sh {b : Nat} (hb : b ≤ 12) : (1 : Int32) <<< (nI b &&& 31) = nI (2 ^ b) := by
  have : ∀ b, b < 13 → (1 : Int32) <<< (nI b &&& 31) = nI (2 ^ b) := by decide +kernel
  exact this b (by omega)
theorem zero_sh {b : Nat} (hb : b ≤ 12) : (nI 0) <<< (nI b &&& 31) = 0 := by
  have : ∀ b, b < 13 → (nI 0) <<< (nI b &&& 31) = 0 := by decide +kernel
  exact this b (by omega)
theorem sdN {n b : Nat} (hn : n < 2 ^ 31) (hb : b < 32) : sdI (nI n) b = nI (n / 2 ^ b % 2) := by
  unfold sdI
  rw [pk_shrN hn _ b (sm32 hb)]
  exact pk_andN (Nat.lt_of_le_of_lt (Nat.div_le_self _ _) (by omega)) 1 (by decide)
theorem nI_or (a b : Nat) : nI a ||| nI b = nI (a ||| b) := by
  apply Int32.toBitVec_inj.mp
  rw [Int32.toBitVec_or]
  show BitVec.ofNat 32 a ||| BitVec.ofNat 32 b = BitVec.ofNat 32 (a ||| b)
  rw [BitVec.ofNat_or]
theorem or_two {c b : Nat} (h : c < 2 ^ b) : c ||| 2 ^ b = c + 2 ^ b := by
  have := Nat.two_pow_add_eq_or_of_lt h 1
  rw [Nat.mul_one] at this
  rw [Nat.or_comm, ← this, Nat.add_comm]
theorem lg1 {c b : Nat} (hb : b ≤ 12) (h : c < 2 ^ b) : nI c ||| (nI 1 <<< (nI b &&& 31)) = nI (c + 2 ^ b) := by
  have : nI 1 <<< (nI b &&& 31) = nI (2 ^ b) := one_sh hb
  rw [this, nI_or, or_two h]
theorem lg0 {c b : Nat} (hb : b ≤ 12) : nI c ||| (nI 0 <<< (nI b &&& 31)) = nI c := by
  rw [zero_sh hb, Int32.or_zero]
theorem sd_hi {c b : Nat} (hb : b < 12) (h : c < 2 ^ b) : sdI (nI (c + 2 ^ b)) b = nI 1 := by
  have h12 := two12 (b := b) (by omega)
  rw [sdN (by omega) (by omega), Nat.add_div_right _ (Nat.two_pow_pos b), Nat.div_eq_of_lt h]
theorem sd_lo {c b : Nat} (hb : b < 12) (h : c < 2 ^ b) : sdI (nI c) b = nI 0 := by
  have h12 := two12 (b := b) (by omega)
  rw [sdN (by omega) (by omega), Nat.div_eq_of_lt h]
theorem sd_same {c b j : Nat} (hb : b < 12) (h : c < 2 ^ b) (hj : j < b) : sdI (nI (c + 2 ^ b)) j = sdI (nI c) j := by
  have h12 := two12 (b := b) (by omega)
  rw [sdN (by omega) (by omega), sdN (by omega) (by omega)]
  have e : 2 ^ b = 2 ^ j * (2 * 2 ^ (b - j - 1)) := by
    rw [← Nat.mul_assoc, ← Nat.pow_succ, ← Nat.pow_add]
    congr 1
    omega
  rw [e, Nat.add_mul_div_left _ _ (Nat.two_pow_pos j), Nat.add_mul_mod_self_left]
theorem sd_congr {W P v : Int32} {mP : Rc} {c c' : Int32} : ∀ b, (∀ j, j < b → sdI c j = sdI c' j) → frS mP c b = frS mP c' b ∧ tkS' W P v mP c b = tkS' W P v mP c' b ∧ gtS W mP c b = gtS W mP c' b := by
  intro b
  induction b with
  | zero => intro _; exact ⟨rfl, rfl, rfl⟩
  | succ b ih =>
    intro h
    obtain ⟨i1, i2, i3⟩ := ih (fun j hj => h j (by omega))
    have hb := h b (by omega)
    refine ⟨?_, ?_, ?_⟩
    · show (if sdI c b = nI 1 then _ else _) = (if sdI c' b = nI 1 then _ else _)
      rw [hb, i1]
    · show tkS' W P v mP c b + (bkS W P mP c b + v * bc (mvS mP c b)) = tkS' W P v mP c' b + (bkS W P mP c' b + v * bc (mvS mP c' b))
      unfold bkS mvS
      rw [hb, i1, i2]
    · show gtS W mP c b + (if sdI c b = nI 1 then xG W mP b else 0) = gtS W mP c' b + (if sdI c' b = nI 1 then xG W mP b else 0)
      rw [hb, i3]
theorem ext6 {oE oC : Rc} {b c d : Nat} {s v tk gk : Int32} (hb : b < 12) (hc : c < 4096) (hd : d < 4096) (hx : nI c ||| (s <<< (nI b &&& 31)) = nI d) (ht : fX0_ticksOn oE (nI b) s = some tk) (hg : fX0_gatesOn oE (nI b) s = some gk) : fX0_extend oE oC (nI b) (nI c) s v = some (rs (rs (rs oC 9 (upd (oC 9) d ((oC 9 c + tk) + v * bc (lk (oC 8 c) (oE 5 b) s)))) 10 (upd (oC 10) d (oC 10 c + gk))) 8 (upd (oC 8) d (fb (oC 8 c) (oE 5 b) (oE 6 b) s))) := by
  unfold fX0_extend
  simp (disch := omega) only [↓zLet_q, zGd_in, nIc, hx, lk6, zB1_q, ht, bc6, hg, rs_n, fb6]
/-- one cut at one stage -/
def D1 (W P v : Int32) (mP oC : Rc) (b c : Nat) : Prop := FR (oC 8 c) (frS mP (nI c) b).1 (frS mP (nI c) b).2 ∧ oC 9 c = tkS' W P v mP (nI c) b ∧ oC 10 c = gtS W mP (nI c) b
theorem ext2 {oP mP oE oC : Rc} {W P v : Int32} {nb ns b c : Nat} {ln : Nat → Nat} (h : PG oP mP nb ns ln) (hb : b < nb) (hr : NR oE W P mP b) (hc : c < 2 ^ b) (h1 : D1 W P v mP oC b c) : ∃ oC1 oC2, fX0_extend oE oC (nI b) (nI c) (1 : Int32) v = some oC1 ∧ fX0_extend oE oC1 (nI b) (nI c) (0 : Int32) v = some oC2 ∧ D1 W P v mP oC2 (b + 1) c ∧ D1 W P v mP oC2 (b + 1) (c + 2 ^ b) ∧ (∀ x, x ≠ c → x ≠ c + 2 ^ b → oC2 8 x = oC 8 x ∧ oC2 9 x = oC 9 x ∧ oC2 10 x = oC 10 x) ∧ ∀ k, k ≤ 7 → oC2 k = oC k := by
  have h12 := h.1.1
  obtain ⟨r0, r1, r2, r3, r4, r5, r6⟩ := hr
  obtain ⟨x1, x2⟩ := B8_x h hb
  obtain ⟨d1, d2, d3⟩ := h1
  have p12 := two12 (b := b + 1) (by omega)
  have pS : 2 ^ (b + 1) = 2 ^ b * 2 := Nat.pow_succ ..
  have t1 : fX0_ticksOn oE (nI b) (1 : Int32) = some (xK W P mP b) := by
    unfold fX0_ticksOn; rw [if_pos rfl, zGd_in (by omega) (by omega), nIc (by omega), r4]
  have g1 : fX0_gatesOn oE (nI b) (1 : Int32) = some (xG W mP b) := by
    unfold fX0_gatesOn; rw [if_pos rfl, zGd_in (by omega) (by omega), nIc (by omega), r2]
  have t0 : fX0_ticksOn oE (nI b) (0 : Int32) = some (xC W mP b) := by
    unfold fX0_ticksOn; rw [if_neg (by decide), zGd_in (by omega) (by omega), nIc (by omega), r1]
  have g0 : fX0_gatesOn oE (nI b) (0 : Int32) = some 0 := by
    unfold fX0_gatesOn; rw [if_neg (by decide)]
  have E1 := ext6 (oE := oE) (oC := oC) (v := v) (s := (1 : Int32)) (d := c + 2 ^ b) (c := c) (b := b) (by omega) (by omega) (by omega) (lg1 (by omega) hc) t1 g1
  have pos := Nat.two_pow_pos b
  obtain ⟨c1, c2, c3⟩ := sd_congr (W := W) (P := P) (v := v) (mP := mP) (c := nI (c + 2 ^ b)) (c' := nI c) b (fun j hj => sd_same (by omega) hc hj)
  have shi := sd_hi (c := c) (b := b) (by omega) hc
  have slo := sd_lo (c := c) (b := b) (by omega) hc
  have nlo : ¬ sdI (nI c) b = nI 1 := by rw [slo]; decide
  generalize hoC1 : rs (rs (rs oC 9 (upd (oC 9) (c + 2 ^ b) ((oC 9 c + xK W P mP b) + v * bc (lk (oC 8 c) (oE 5 b) (1 : Int32))))) 10 (upd (oC 10) (c + 2 ^ b) (oC 10 c + xG W mP b))) 8 (upd (oC 8) (c + 2 ^ b) (fb (oC 8 c) (oE 5 b) (oE 6 b) (1 : Int32))) = oC1 at E1
  have a8 : ∀ x, x ≠ c + 2 ^ b → oC1 8 x = oC 8 x := fun x hx => by rw [← hoC1]; simp (disch := omega) only [rs_s, upd_n]
  have a9 : ∀ x, x ≠ c + 2 ^ b → oC1 9 x = oC 9 x := fun x hx => by rw [← hoC1]; simp (disch := omega) only [rs_s, rs_n, upd_n]
  have a10 : ∀ x, x ≠ c + 2 ^ b → oC1 10 x = oC 10 x := fun x hx => by rw [← hoC1]; simp (disch := omega) only [rs_s, rs_n, upd_n]
  have E0 := ext6 (oE := oE) (oC := oC1) (v := v) (s := (0 : Int32)) (d := c) (c := c) (b := b) (by omega) (by omega) (by omega) (lg0 (by omega)) t0 g0
  rw [a8 c (by omega), a9 c (by omega), a10 c (by omega)] at E0
  refine ⟨oC1, _, E1, E0, ⟨?_, ?_, ?_⟩, ⟨?_, ?_, ?_⟩, ?_, ?_⟩
  · have hf' : frS mP (nI c) (b + 1) = (((frS mP (nI c) b).1 ||| (xR mP b &&& ((frS mP (nI c) b).1 ^^^ (-1)))) ||| xW mP b, (frS mP (nI c) b).2 &&& (xW mP b ^^^ (-1))) := if_neg nlo
    rw [rs_s, upd_s, hf', r5, r6]
    exact fb_0 d1 x1 x2
  · have hl : lk (oC 8 c) (oE 5 b) (0 : Int32) = mvS mP (nI c) b := by
      rw [r5]; unfold mvS; rw [if_neg nlo]; exact lk_0 d1 x1
    simp (disch := omega) only [rs_n, rs_s, upd_s, hl, d2]
    show _ = tkS' W P v mP (nI c) b + (bkS W P mP (nI c) b + v * bc (mvS mP (nI c) b))
    rw [show bkS W P mP (nI c) b = xC W mP b from if_neg nlo, Int32.add_assoc]
  · simp (disch := omega) only [rs_n, rs_s, upd_s, d3]
    show _ = gtS W mP (nI c) b + (if sdI (nI c) b = nI 1 then xG W mP b else 0)
    rw [if_neg nlo]
  · have hf' : frS mP (nI (c + 2 ^ b)) (b + 1) = ((frS mP (nI c) b).1 &&& (xW mP b ^^^ (-1)), ((frS mP (nI c) b).2 ||| (xR mP b &&& ((frS mP (nI c) b).2 ^^^ (-1)))) ||| xW mP b) := by
      rw [← c1]; exact if_pos shi
    rw [rs_s, upd_n (by omega), ← hoC1, rs_s, upd_s, hf', r5, r6]
    exact fb_1 d1 x1 x2
  · have hl : lk (oC 8 c) (oE 5 b) (1 : Int32) = mvS mP (nI (c + 2 ^ b)) b := by
      rw [r5]; unfold mvS; rw [if_pos shi, c1]; exact lk_1 d1 x1
    simp (disch := omega) only [rs_n, rs_s, upd_n]
    rw [← hoC1]
    simp (disch := omega) only [rs_n, rs_s, upd_s, hl, d2]
    show _ = tkS' W P v mP (nI (c + 2 ^ b)) b + (bkS W P mP (nI (c + 2 ^ b)) b + v * bc (mvS mP (nI (c + 2 ^ b)) b))
    rw [show bkS W P mP (nI (c + 2 ^ b)) b = xK W P mP b from if_pos shi, Int32.add_assoc, c2]
  · simp (disch := omega) only [rs_n, rs_s, upd_n]
    rw [← hoC1]
    simp (disch := omega) only [rs_n, rs_s, upd_s, d3]
    show _ = gtS W mP (nI (c + 2 ^ b)) b + (if sdI (nI (c + 2 ^ b)) b = nI 1 then xG W mP b else 0)
    rw [if_pos shi, c3]
  · intro x hx hx'
    refine ⟨?_, ?_, ?_⟩
    · rw [rs_s, upd_n hx, a8 x hx']
    · simp (disch := omega) only [rs_n, rs_s, upd_n, a9 x hx']
    · simp (disch := omega) only [rs_n, rs_s, upd_n, a10 x hx']
  · intro k hk
    simp (disch := omega) only [rs_n]
    rw [← hoC1]
    simp (disch := omega) only [rs_n]
theorem D1_fr {W P v : Int32} {mP oC oC' : Rc} {b c : Nat} (h : D1 W P v mP oC b c) (h8 : oC' 8 c = oC 8 c) (h9 : oC' 9 c = oC 9 c) (h10 : oC' 10 c = oC 10 c) : D1 W P v mP oC' b c := by
  obtain ⟨a, b, c⟩ := h
  exact ⟨by rw [h8]; exact a, by rw [h9]; exact b, by rw [h10]; exact c⟩
theorem all6 {oP mP oE oC : Rc} {W P v : Int32} {nb ns NN : Nat} {ln : Nat → Nat} (hN : 5000 ≤ NN) (h : PG oP mP nb ns ln) (hr : ∀ b, b < nb → NR oE W P mP b) : ∃ oC', fX0_reckonAll NN oE oC (nI nb) v = some oC' ∧ (∀ c, c < 2 ^ nb → oC' 9 c = TT W P v mP nb (nI c) ∧ oC' 10 c = gtS W mP (nI c) nb) ∧ ∀ k, k ≤ 7 → oC' k = oC k := by
  have h12 := h.1.1
  have inner : ∀ b, b < nb → ∀ (n c : Nat) (oC : Rc), 2 ^ b - c < n → c ≤ 2 ^ b → (∀ x, x < c → D1 W P v mP oC (b + 1) x ∧ D1 W P v mP oC (b + 1) (x + 2 ^ b)) → (∀ x, c ≤ x → x < 2 ^ b → D1 W P v mP oC b x) → ∃ oC', (∀ J, fX0_reckonAll_L34 oE v (nI b) J n (nI c) oC = J oC') ∧ (∀ x, x < 2 ^ b → D1 W P v mP oC' (b + 1) x ∧ D1 W P v mP oC' (b + 1) (x + 2 ^ b)) ∧ ∀ k, k ≤ 7 → oC' k = oC k := by
    intro b hb n
    have p12 := two12 (b := b) (by omega)
    induction n with
    | zero => intro c oC h; omega
    | succ n ih =>
      intro c oC hn hc d1 d2
      by_cases cc : c < 2 ^ b
      · obtain ⟨oC1, oC2, e1, e2, e3, e4, e5, e6⟩ := ext2 h hb (hr b hb) cc (d2 c (Nat.le_refl _) cc)
        obtain ⟨oC', q1, q2, q3⟩ := ih (c + 1) oC2 (by omega) (by omega) (fun x hx => by
          by_cases cx : x = c
          · subst cx; exact ⟨e3, e4⟩
          · obtain ⟨y1, y2, y3⟩ := e5 x cx (by omega)
            obtain ⟨z1, z2, z3⟩ := e5 (x + 2 ^ b) (by omega) (by omega)
            exact ⟨D1_fr (d1 x (by omega)).1 y1 y2 y3, D1_fr (d1 x (by omega)).2 z1 z2 z3⟩) (fun x hx hx' => by
          obtain ⟨y1, y2, y3⟩ := e5 x (by omega) (by omega)
          exact D1_fr (d2 x (by omega) hx') y1 y2 y3)
        refine ⟨oC', fun J => ?_, q2, fun k hk => (q3 k hk).trans (e6 k hk)⟩
        rw [fX0_reckonAll_L34_s, one_sh (by omega), if_neg (nI_ge cc (by omega)), e1, zB1_q, e2, zB1_q, zLet_q, nI_1]
        exact q1 J
      · have : c = 2 ^ b := by omega
        subst this
        refine ⟨oC, fun J => ?_, d1, fun _ _ => rfl⟩
        rw [fX0_reckonAll_L34_s, one_sh (by omega), if_pos (nI_le (Nat.le_refl _) (by omega))]
  have outer : ∀ (n b : Nat) (oC : Rc), nb - b < n → b ≤ nb → (∀ x, x < 2 ^ b → D1 W P v mP oC b x) → ∃ oC', (∀ J, fX0_reckonAll_L25 oE (nI nb) v NN J n (nI b) oC = J oC') ∧ (∀ x, x < 2 ^ nb → D1 W P v mP oC' nb x) ∧ ∀ k, k ≤ 7 → oC' k = oC k := by
    intro n
    induction n with
    | zero => intro b oC h; omega
    | succ n ih =>
      intro b oC hn hb d
      by_cases c : b < nb
      · have p12 := two12 (b := b) (by omega)
        obtain ⟨oC1, i1, i2, i3⟩ := inner b c NN 0 oC (by omega) (Nat.zero_le _) (fun x hx => by omega) (fun x _ hx => d x hx)
        obtain ⟨oC', q1, q2, q3⟩ := ih (b + 1) oC1 (by omega) (by omega) (fun x hx => by
          have pS : 2 ^ (b + 1) = 2 ^ b * 2 := Nat.pow_succ ..
          by_cases cx : x < 2 ^ b
          · exact (i2 x cx).1
          · have := (i2 (x - 2 ^ b) (by omega)).2
            rw [show x - 2 ^ b + 2 ^ b = x by omega] at this
            exact this)
        refine ⟨oC', fun J => ?_, q2, fun k hk => (q3 k hk).trans (i3 k hk)⟩
        rw [fX0_reckonAll_L25_s, if_neg (nI_ge c (by omega)), zJn_q, lr_0, i1, zLet_q, nI_1]
        exact q1 J
      · have : b = nb := by omega
        subst this
        refine ⟨oC, fun J => ?_, d, fun _ _ => rfl⟩
        rw [fX0_reckonAll_L25_s, if_pos (nI_le (Nat.le_refl _) (by omega))]
  have p12 := two12 (b := nb) h12
  have last : ∀ (n c : Nat) (oC : Rc), 2 ^ nb - c < n → c ≤ 2 ^ nb → (∀ x, x < c → oC 9 x = TT W P v mP nb (nI x) ∧ oC 10 x = gtS W mP (nI x) nb) → (∀ x, c ≤ x → x < 2 ^ nb → D1 W P v mP oC nb x) → ∃ oC', fX0_reckonAll_L80 (nI nb) v (fun c => some c) n (nI c) oC = some oC' ∧ (∀ x, x < 2 ^ nb → oC' 9 x = TT W P v mP nb (nI x) ∧ oC' 10 x = gtS W mP (nI x) nb) ∧ ∀ k, k ≤ 7 → oC' k = oC k := by
    intro n
    induction n with
    | zero => intro c oC h; omega
    | succ n ih =>
      intro c oC hn hc d1 d2
      by_cases cc : c < 2 ^ nb
      · obtain ⟨y1, y2, y3⟩ := d2 c (Nat.le_refl _) cc
        have hlk : lk (oC 8 c) (255 : Int32) (0 : Int32) = enS mP (nI c) nb := lk_0 y1 B8_255
        obtain ⟨oC', q1, q2, q3⟩ := ih (c + 1) (rs oC 9 (upd (oC 9) c (oC 9 c + v * bc (enS mP (nI c) nb)))) (by omega) (by omega) (fun x hx => by
          by_cases cx : x = c
          · subst cx
            refine ⟨?_, ?_⟩
            · rw [rs_s, upd_s, y2]; rfl
            · rw [rs_n _ _ (by omega)]; exact y3
          · rw [rs_s, upd_n cx, rs_n _ _ (by omega)]; exact d1 x (by omega)) (fun x hx hx' => D1_fr (d2 x (by omega) hx') (by rw [rs_n _ _ (by omega)]) (by rw [rs_s, upd_n (by omega)]) (by rw [rs_n _ _ (by omega)]))
        refine ⟨oC', ?_, q2, fun k hk => (q3 k hk).trans (rs_n _ _ (by omega))⟩
        rw [fX0_reckonAll_L80_s, one_sh h12, if_neg (nI_ge cc (by omega))]
        simp (disch := omega) only [↓zLet_q, zGd_in, nIc, lk6, zB1_q, hlk, bc6]
        rw [nI_1]
        exact q1
      · have : c = 2 ^ nb := by omega
        subst this
        refine ⟨oC, ?_, d1, fun _ _ => rfl⟩
        rw [fX0_reckonAll_L80_s, one_sh h12, if_pos (nI_le (Nat.le_refl _) (by omega))]
  obtain ⟨oC1, o1, o2, o3⟩ := outer NN 0 (rs (rs (rs oC 8 (upd (oC 8) 0 (65535 : Int32))) 9 (upd (oC 9) 0 (0 : Int32))) 10 (upd (oC 10) 0 (0 : Int32))) (by omega) (by omega) (fun x hx => by
    have : x = 0 := by have : (2 : Nat) ^ 0 = 1 := rfl; omega
    subst this
    refine ⟨?_, ?_, ?_⟩
    · simp (disch := omega) only [rs_n, rs_s, upd_s]; exact FR_0
    · simp (disch := omega) only [rs_n, rs_s, upd_s]; rfl
    · simp (disch := omega) only [rs_s, upd_s]; rfl)
  obtain ⟨oC2, l1, l2, l3⟩ := last NN 0 oC1 (by omega) (Nat.zero_le _) (fun x hx => by omega) (fun x _ hx => o2 x hx)
  refine ⟨oC2, ?_, l2, fun k hk => ?_⟩
  · have e0 : (0 : Int32).toNatClampNeg = 0 := by decide
    have hg : inb (0 : Int32) 4096 := by decide
    unfold fX0_reckonAll
    simp (disch := omega) only [zGd_t hg, ↓zLet_q, ↓zJn_q, e0, rs_n, rs_s]
    refine Eq.trans ?_ l1
    exact o1 _
  · rw [l3 k hk, o3 k hk]
    simp (disch := omega) only [rs_n]
