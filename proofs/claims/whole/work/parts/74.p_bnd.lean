/-! own part (pure): bounds of gates and ticks -/
def Bn (x : Int32) (N : Nat) : Prop := ∃ k, k ≤ N ∧ x = nI k
theorem Bn_m {x : Int32} {N M : Nat} (h : Bn x N) (hm : N ≤ M) : Bn x M := by obtain ⟨k, a, b⟩ := h; exact ⟨k, by omega, b⟩
theorem Bn_add {x y : Int32} {N M : Nat} (h : Bn x N) (h' : Bn y M) : Bn (x + y) (N + M) := by
  obtain ⟨k, a, rfl⟩ := h; obtain ⟨j, c, rfl⟩ := h'
  exact ⟨k + j, by omega, nI_add k j⟩
theorem Bn_mul {x y : Int32} {N M : Nat} (h : Bn x N) (h' : Bn y M) : Bn (x * y) (N * M) := by
  obtain ⟨k, a, rfl⟩ := h; obtain ⟨j, c, rfl⟩ := h'
  exact ⟨k * j, Nat.mul_le_mul a c, nI_mul k j⟩
theorem Bn_k (k : Nat) : Bn (nI k) k := ⟨k, Nat.le_refl _, rfl⟩
theorem Bn_0 (N : Nat) : Bn 0 N := ⟨0, by omega, rfl⟩
theorem Bn_1 : Bn 1 1 := ⟨1, by omega, rfl⟩
theorem Bn_max {x y : Int32} {N : Nat} (h : Bn x N) (h' : Bn y N) : Bn (imax x y) N := by
  unfold imax; split <;> assumption
theorem Bn_ge {x : Int32} {N : Nat} (h : Bn x N) (hN : N < 2 ^ 31) : 0 ≤ x.toInt ∧ x.toInt ≤ N := by
  obtain ⟨k, a, rfl⟩ := h
  rw [nI_toInt (by omega)]
  omega
theorem gO_bn {w : Nat} (s : Int32) (hw : w ≤ 16) : Bn (gO (nI w) s) 1536 := by
  have hW : Bn (nI w) 16 := Bn_m (Bn_k w) hw
  have h1 : Bn ((5 : Int32) * nI w) 1536 := Bn_m (Bn_mul (Bn_k 5) hW) (by omega)
  have h2 : Bn ((6 : Int32) * nI w) 1536 := Bn_m (Bn_mul (Bn_k 6) hW) (by omega)
  have h3 : Bn (((6 : Int32) * nI w) * nI w) 1536 := Bn_m (Bn_mul (Bn_mul (Bn_k 6) hW) hW) (by omega)
  have h4 : Bn ((4 : Int32) * nI w) 1536 := Bn_m (Bn_mul (Bn_k 4) hW) (by omega)
  have h5 : Bn (nI w) 1536 := Bn_m hW (by omega)
  unfold gO fX10_gatesOf
  (repeat' split) <;> assumption
theorem dO_bn {w : Nat} (s : Int32) (hw : w ≤ 16) : Bn (dO (nI w) s) 64 := by
  have hW : Bn (nI w) 16 := Bn_m (Bn_k w) hw
  have h1 : Bn ((2 : Int32) * nI w) 64 := Bn_m (Bn_mul (Bn_k 2) hW) (by omega)
  have h2 : Bn (((2 : Int32) * nI w) + 1) 64 := Bn_m (Bn_add (Bn_mul (Bn_k 2) hW) (Bn_k 1)) (by omega)
  have h3 : Bn ((4 : Int32) * nI w) 64 := Bn_m (Bn_mul (Bn_k 4) hW) (by omega)
  have h4 : Bn (((2 : Int32) * nI w) + 2) 64 := Bn_m (Bn_add (Bn_mul (Bn_k 2) hW) (Bn_k 2)) (by omega)
  have h5 : Bn (1 : Int32) 64 := Bn_m Bn_1 (by omega)
  have h6 : Bn (5 : Int32) 64 := Bn_m (Bn_k 5) (by omega)
  unfold dO fX10_depthOf
  (repeat' split) <;> assumption
theorem sw_bn {w : Nat → Int32} {N : Nat} (h : ∀ i, Bn (w i) N) : ∀ n k, Bn (sw w k n) (n * N) := by
  intro n
  induction n with
  | zero => intro k; exact Bn_0 _
  | succ n ih =>
    intro k
    refine Bn_m (Bn_add (h k) (ih (k + 1))) ?_
    rw [Nat.succ_mul]; omega
theorem swl_bn {w : Nat → Int32} {N g : Nat} : ∀ n k, (∀ i, k ≤ i → i < k + n → Bn (w i) N) → Bn (sw w k n) (n * N) := by
  intro n
  induction n with
  | zero => intro k _; exact Bn_0 _
  | succ n ih =>
    intro k h
    refine Bn_m (Bn_add (h k (by omega) (by omega)) (ih (k + 1) (fun i a b => h i (by omega) (by omega)))) ?_
    rw [Nat.succ_mul]; omega
theorem gtW_bn {mP : Rc} {l w : Nat} (h : LW mP l) (hw : w ≤ 16) : Bn (gtW (nI w) mP l) 1000000 := by
  obtain ⟨t, f, g, w1, w2, w3, w4, w5, w6, w7, w8, w9⟩ := h
  obtain ⟨q1, q2⟩ := lFG w5 w6 w2 w3
  have a : Bn (sw (fun i => wG (nI w) (mP 11 i)) (lF mP l) (lG mP l)) (600 * 1536) := by
    refine Bn_m (sw_bn (N := 1536) (fun i => ?_) _ _) (Nat.mul_le_mul (by omega) (Nat.le_refl _))
    show Bn (wG (nI w) (mP 11 i)) 1536
    unfold wG
    split
    · exact Bn_0 _
    · exact gO_bn _ hw
  unfold gtW
  split
  · exact Bn_m (Bn_add (Bn_0 1536) a) (by omega)
  · exact Bn_m (Bn_add (gO_bn 8 hw) a) (by omega)
theorem cdW_bn {mP : Rc} {l w : Nat} (h : LW mP l) (hw : w ≤ 16) : Bn (cdW (nI w) mP l) 10000 := by
  obtain ⟨t, f, g, w1, w2, w3, w4, w5, w6, w7, w8, w9⟩ := h
  obtain ⟨q1, q2⟩ := lFG w5 w6 w2 w3
  have a : Bn (sw (fun i => wC (nI w) (mP 11 i)) (lF mP l) (lG mP l)) (600 * 16) := by
    refine Bn_m (sw_bn (N := 16) (fun i => ?_) _ _) (Nat.mul_le_mul (by omega) (Nat.le_refl _))
    show Bn (wC (nI w) (mP 11 i)) 16
    unfold wC
    (repeat' split)
    · exact Bn_m (Bn_k w) hw
    · exact Bn_0 _
    · exact Bn_m Bn_1 (by omega)
  unfold cdW
  split
  · exact Bn_m (Bn_add (Bn_k 1) a) (by omega)
  · exact Bn_m (Bn_add (Bn_k 2) a) (by omega)
def BL (st : List Int32) (N : Nat) : Prop := ∀ x, x ∈ st → Bn x N
theorem BL_m {st : List Int32} {N M : Nat} (h : BL st N) (hm : N ≤ M) : BL st M := fun x hx => Bn_m (h x hx) hm
theorem FD_bn {w N : Nat} {dp : Ar} {s v : Int32} {st : List Int32} (hw : w ≤ 16) (hv : s = nI 9 → ∃ x, x < 8 ∧ v = nI x) (hd : ∀ i, i < 8 → Bn (dp i) N) (h : BL st N) : BL (FD (nI w) dp s v st) (N + 64) := by
  unfold FD
  by_cases c1 : s = nI 9
  · rw [if_pos c1]
    obtain ⟨x, x8, e⟩ := hv c1
    rw [e, nIc (by omega)]
    intro y hy
    rcases List.mem_cons.mp hy with rfl | hy
    · exact Bn_m (hd x x8) (by omega)
    · exact Bn_m (h y hy) (by omega)
  · rw [if_neg c1]
    by_cases c2 : s = nI 10
    · rw [if_pos c2]
      intro y hy
      rcases List.mem_cons.mp hy with rfl | hy
      · exact Bn_0 _
      · exact Bn_m (h y hy) (by omega)
    · rw [if_neg c2]
      by_cases c3 : s = nI 7
      · rw [if_pos c3]
        match st, h with
        | [], h => intro y hy; cases hy
        | a :: t, h =>
          intro y hy
          rcases List.mem_cons.mp hy with rfl | hy
          · exact Bn_add (h a (List.mem_cons_self ..)) (dO_bn _ hw)
          · exact Bn_m (h y (List.mem_cons_of_mem _ hy)) (by omega)
      · rw [if_neg c3]
        match st, h with
        | [], h => intro y hy; cases hy
        | [a], h => intro y hy; cases hy
        | b :: a :: t, h =>
          intro y hy
          rcases List.mem_cons.mp hy with rfl | hy
          · exact Bn_add (Bn_max (h a (List.mem_cons_of_mem _ (List.mem_cons_self ..))) (h b (List.mem_cons_self ..))) (dO_bn _ hw)
          · exact Bn_m (h y (List.mem_cons_of_mem _ (List.mem_cons_of_mem _ hy))) (by omega)
theorem ev_bn {w g : Nat} {dp : Ar} {mP : Rc} (hw : w ≤ 16) (hv : ∀ i, i < g → mP 11 i = nI 9 → ∃ v, v < 8 ∧ mP 12 i = nI v) : ∀ (n k N : Nat) (st : List Int32), k + n ≤ g → (∀ i, i < 8 → Bn (dp i) N) → BL st N → BL (ev (FD (nI w) dp) mP k n st) (N + 64 * n) := by
  intro n
  induction n with
  | zero => intro k N st _ _ h; exact h
  | succ n ih =>
    intro k N st hk hd h
    exact BL_m (ih (k + 1) (N + 64) _ (by omega) (fun i hi => Bn_m (hd i hi) (by omega)) (FD_bn hw (hv k (by omega)) hd h)) (by omega)
theorem dLn_bn {mP : Rc} {l w N : Nat} {dp : Ar} (h : LW mP l) (hw : w ≤ 16) (hd : ∀ i, i < 8 → Bn (dp i) N) : Bn (dLn (nI w) mP dp l) (N + 38464) := by
  obtain ⟨t, f, g, w1, w2, w3, w4, w5, w6, w7, w8, w9⟩ := h
  obtain ⟨q1, q2⟩ := lFG w5 w6 w2 w3
  have he : Bn ((ev (FD (nI w) dp) mP (lF mP l) (lG mP l) []).headD 0) (N + 38400) := by
    rw [q1, q2]
    have := ev_bn (dp := dp) hw w9 (g - f) f N [] (by omega) hd (fun x hx => by cases hx)
    revert this
    generalize ev (FD (nI w) dp) mP f (g - f) [] = L
    intro this
    match L, this with
    | [], _ => exact Bn_0 _
    | a :: t, this => exact Bn_m (this a (List.mem_cons_self ..)) (by omega)
  unfold dLn
  rcases w7 with w7 | ⟨a, a8, w7⟩
  · rw [if_pos (show mP 7 l = (-1 : Int32) from w7)]; exact Bn_m he (by omega)
  · have ca : ¬ mP 7 l = (-1 : Int32) := by rw [w7]; exact fun h => (nI_m1 (a := a) (by omega)).mp h
    rw [if_neg ca, w7, w4, nIc (by omega), nIc (by omega)]
    exact Bn_m (Bn_add (Bn_max he (Bn_m (Bn_max (hd a a8) (hd t w1)) (by omega))) (dO_bn 8 hw)) (by omega)
theorem dpF_bn {mP : Rc} {w : Nat} (hw : w ≤ 16) : ∀ (n l N : Nat) (dp : Ar) (m : Int32), (∀ i, l ≤ i → i < l + n → LW mP i) → (∀ i, i < 8 → Bn (dp i) N) → Bn m N → Bn (dpF (nI w) mP l n dp m).2 (N + 38464 * n) := by
  intro n
  induction n with
  | zero => intro l N dp m _ _ h; exact h
  | succ n ih =>
    intro l N dp m hL hd hm
    have hb := dLn_bn (hL l (by omega) (by omega)) hw hd
    refine Bn_m (ih (l + 1) (N + 38464) _ _ (fun i a b => hL i (by omega) (by omega)) (fun i hi => ?_) (Bn_max (Bn_m hm (by omega)) hb)) (by omega)
    unfold upd
    split
    · exact hb
    · exact Bn_m (hd i hi) (by omega)
theorem xs_bn {oP mP : Rc} {nb ns b w p : Nat} {ln : Nat → Nat} (h : PG oP mP nb ns ln) (hb : b < nb) (hw : w ≤ 16) (hp : 1 ≤ p) (hp' : p ≤ 1000) : Bn (xG (nI w) mP b) 8000000 ∧ Bn (xC (nI w) mP b) 4000000 ∧ Bn (xK (nI w) (nI p) mP b) 16000000 := by
  obtain ⟨l8, m5, _, _, _, ⟨t, t1, t2, t3, t4⟩⟩ := h.1.2.1 b hb
  have h12 := h.1.1
  have hl : (mP 5 b).toNatClampNeg = ln b := by rw [m5]; exact nIc (by omega)
  have hL : ∀ i, 8 * b ≤ i → i < 8 * b + ln b → LW mP i := fun i h1 h2 => by
    have := PG_LW h hb (j := i - 8 * b) (by omega)
    rw [show 8 * b + (i - 8 * b) = i by omega] at this
    exact this
  have h4 : Bn (mP 4 b) 50 := by rw [t4]; exact Bn_m (Bn_k t) t2
  refine ⟨?_, ?_, ?_⟩
  · unfold xG; rw [hl]
    exact Bn_m (swl_bn (g := 0) _ _ (fun i a b => gtW_bn (hL i a b) hw)) (Nat.le_trans (Nat.mul_le_mul l8 (Nat.le_refl _)) (by omega))
  · unfold xC; rw [hl]
    exact Bn_m (Bn_mul (Bn_m (swl_bn (g := 0) _ _ (fun i a b => cdW_bn (hL i a b) hw)) (Nat.mul_le_mul l8 (Nat.le_refl _))) h4) (by omega)
  · have hD : Bn (xD (nI w) mP b) 307712 := by
      unfold xD; rw [hl]
      exact Bn_m (dpF_bn hw (ln b) (8 * b) 0 (fun _ => 0) 0 hL (fun _ _ => Bn_0 _) (Bn_0 _)) (by omega)
    obtain ⟨d, d1, d2⟩ := hD
    unfold xK
    rw [d2]
    have e : nI d + nI p - 1 = nI (d + p - 1) := by rw [nI_add, lq_1, nI_sub (by omega)]
    rw [e, pk_div (by omega) (by omega) (by omega)]
    have : (d + p - 1) / p ≤ d + p - 1 := Nat.div_le_self _ _
    exact Bn_m (Bn_add (Bn_k 1) (Bn_mul h4 (Bn_max (Bn_m (Bn_k 1) (by omega : 1 ≤ 310000)) (Bn_m (Bn_k _) (by omega))))) (by omega)
theorem bc_bn {x : Int32} (h : B8 x) : Bn (bc x) 8 := by
  obtain ⟨k, k1, rfl⟩ := B8_k h
  have : (List.range 256).all (fun k => (List.range 9).any (fun j => bc (nI k) == nI j)) = true := by decide +kernel
  have := List.all_eq_true.mp this k (List.mem_range.mpr k1)
  obtain ⟨j, j1, j2⟩ := List.any_eq_true.mp this
  exact ⟨j, by have := List.mem_range.mp j1; omega, eq_of_beq j2⟩
theorem G_bn {oP mP : Rc} {nb ns w : Nat} {ln : Nat → Nat} (h : PG oP mP nb ns ln) (hw : w ≤ 16) (cut : Int32) : 0 ≤ (gtS (nI w) mP cut nb).toInt := by
  have h12 := h.1.1
  have key : ∀ b, b ≤ nb → Bn (gtS (nI w) mP cut b) (b * 8000000) := by
    intro b
    induction b with
    | zero => intro _; exact Bn_0 _
    | succ b ih =>
      intro hb
      have := (xs_bn (p := 1) h (b := b) (by omega) hw (by omega) (by omega)).1
      refine Bn_m (Bn_add (ih (by omega)) (y := if sdI cut b = nI 1 then xG (nI w) mP b else 0) (M := 8000000) ?_) (by rw [Nat.succ_mul]; omega)
      split
      · exact this
      · exact Bn_0 _
  exact (Bn_ge (key nb (Nat.le_refl _)) (by omega)).1
theorem T_bn {oP mP : Rc} {nb ns w p v : Nat} {ln : Nat → Nat} (h : PG oP mP nb ns ln) (hw : w ≤ 16) (hp : 1 ≤ p) (hp' : p ≤ 1000) (hv : v ≤ 100) (cut : Int32) : (TT (nI w) (nI p) (nI v) mP nb cut).toInt < 2147483647 := by
  have h12 := h.1.1
  have hV : Bn (nI v) 100 := Bn_m (Bn_k v) hv
  have key : ∀ b, b ≤ nb → Bn (tkS' (nI w) (nI p) (nI v) mP cut b) (b * 16000800) := by
    intro b
    induction b with
    | zero => intro _; exact Bn_0 _
    | succ b ih =>
      intro hb
      obtain ⟨_, x2, x3⟩ := xs_bn (p := p) h (b := b) (by omega) hw hp hp'
      have hk : Bn (bkS (nI w) (nI p) mP cut b) 16000000 := by
        unfold bkS
        split
        · exact x3
        · exact Bn_m x2 (by omega)
      have hm : Bn (nI v * bc (mvS mP cut b)) 800 := Bn_m (Bn_mul hV (bc_bn (mv_B8 h cut (by omega)))) (by omega)
      exact Bn_m (Bn_add (ih (by omega)) (Bn_add hk hm)) (by rw [Nat.succ_mul]; omega)
  have : Bn (TT (nI w) (nI p) (nI v) mP nb cut) (nb * 16000800 + 800) := Bn_add (key nb (Nat.le_refl _)) (Bn_m (Bn_mul hV (bc_bn (en_B8 mP cut nb))) (by omega))
  have := (Bn_ge this (by omega)).2
  omega
