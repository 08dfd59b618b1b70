/-! own part (pure): edges -/
theorem all10 {oP mP mY mJ : Rc} {W P v : Int32} {nb ns NN : Nat} {ln : Nat → Nat} (hN : 5000 ≤ NN) (h : PG oP mP nb ns ln) (hj : ∀ b, b < nb → NJ mJ W P mP b) (y6 : mY 6 0 = v) : ∀ (n c : Nat) (mK mA : Rc), 2 ^ nb - c < n → c ≤ 2 ^ nb → (∀ x, x < c → mA 33 x = TT W P v mP nb (nI x) ∧ mA 34 x = gtS W mP (nI x) nb) → ∃ mK' mA', (∀ J, fX10_edges_L34 mY mP NN mJ (nI (2 ^ nb)) J n (nI c) mK mA = J mK' mA') ∧ ∀ x, x < 2 ^ nb → mA' 33 x = TT W P v mP nb (nI x) ∧ mA' 34 x = gtS W mP (nI x) nb := by
  have h12 := h.1.1
  have p12 := two12 h12
  intro n
  induction n with
  | zero => intro c mK mA h; omega
  | succ n ih =>
    intro c mK mA hn hc hq
    by_cases cc : c < 2 ^ nb
    · have hg := gates10 (cut := nI c) (NN := NN) (by omega) h hj
      obtain ⟨mK1, t1, t2, t3⟩ := ticks10 (mK := mK) (cut := nI c) (NN := NN) (by omega) h hj y6
      obtain ⟨mK2, mA2, r1, r2⟩ := ih (c + 1) mK1 (rs (rs mA 33 (upd (mA 33) c (TT W P v mP nb (nI c)))) 34 (upd (mA 34) c (gtS W mP (nI c) nb))) (by omega) (by omega) (fun x hx => by
        by_cases cx : x = c
        · subst cx
          refine ⟨?_, ?_⟩
          · rw [rs_n _ _ (by omega), rs_s, upd_s]
          · rw [rs_s, upd_s]
        · rw [rs_n _ _ (by omega), rs_s, rs_s, upd_n cx, upd_n cx]; exact hq x (by omega))
      refine ⟨mK2, mA2, fun J => ?_, r2⟩
      rw [fX10_edges_L34_s, if_neg (nI_ge cc (by omega))]
      simp (disch := omega) only [t1, zB2_q, zGd_in, nIc, ↓zLet_q, hg, zB1_q, nI_1, rs_n]
      exact r1 J
    · have : c = 2 ^ nb := by omega
      subst this
      refine ⟨mK, mA, fun J => ?_, hq⟩
      rw [fX10_edges_L34_s, if_pos (nI_le (Nat.le_refl _) (by omega))]
def LX (T G : Nat → Int32) (e x : Nat) : Prop := (G e).toInt < (G x).toInt ∨ ((G e).toInt = (G x).toInt ∧ ((T e).toInt < (T x).toInt ∨ ((T e).toInt = (T x).toInt ∧ e ≤ x)))
def MN (T G : Nat → Int32) (t : Int) (c : Nat) (best : Int32) : Prop := (best = nM 1 ∧ ∀ x, x < c → ¬ (T x).toInt < t) ∨ ∃ e, e < c ∧ best = nI e ∧ (T e).toInt < t ∧ ∀ x, x < c → (T x).toInt < t → LX T G e x
theorem m88 {T G : Nat → Int32} {mA : Rc} {A : Nat} {t : Int32} (hA : A ≤ 4096) (hrw : ∀ x, x < A → mA 33 x = T x ∧ mA 34 x = G x) : ∀ (n c : Nat) (best : Int32), A - c < n → c ≤ A → MN T G t.toInt c best → ∃ best', (∀ J, fX10_edges_L88 (nI A) mA t J n best (nI c) = J best') ∧ MN T G t.toInt A best' := by
  intro n
  induction n with
  | zero => intro c best h; omega
  | succ n ih =>
    intro c best hn hc hq
    by_cases cc : c < A
    · obtain ⟨h33, h34⟩ := hrw c cc
      by_cases ct : T c < t
      · have ct' := Int32.lt_iff_toInt_lt.mp ct
        rcases hq with ⟨q1, q2⟩ | ⟨e, e1, e2, e3, e4⟩
        · obtain ⟨b', r1, r2⟩ := ih (c + 1) (nI c) (by omega) (by omega) (Or.inr ⟨c, by omega, rfl, ct', fun x hx hxt => by
            by_cases cx : x = c
            · subst cx; exact Or.inr ⟨rfl, Or.inr ⟨rfl, Nat.le_refl _⟩⟩
            · exact absurd hxt (q2 x (by omega))⟩)
          refine ⟨b', fun J => ?_, r2⟩
          rw [fX10_edges_L88_s, if_neg (nI_ge cc (by omega))]
          simp (disch := omega) only [zGd_in, nIc, h33, if_pos ct, if_pos (show best = (-1 : Int32) from q1), zLet_q, nI_1]
          exact r1 J
        · obtain ⟨k33, k34⟩ := hrw e (by omega)
          subst e2
          have hb : ¬ nI e = (-1 : Int32) := fun h => (nI_m1 (a := e) (by omega)).mp h
          have st : ∀ J, fX10_edges_L88 (nI A) mA t J (n + 1) (nI e) (nI c) = (if G c < G e then fX10_edges_L88 (nI A) mA t J n (nI c) (nI (c + 1)) else if G c = G e then (if T e ≤ T c then fX10_edges_L88 (nI A) mA t J n (nI e) (nI (c + 1)) else fX10_edges_L88 (nI A) mA t J n (nI c) (nI (c + 1))) else fX10_edges_L88 (nI A) mA t J n (nI e) (nI (c + 1))) := by
            intro J
            rw [fX10_edges_L88_s, if_neg (nI_ge cc (by omega))]
            simp (disch := omega) only [zGd_in, nIc, h33, if_pos ct, if_neg hb, h34, k34, k33, zLet_q, nI_1]
          have keep : ((G e).toInt < (G c).toInt ∨ ((G e).toInt = (G c).toInt ∧ (T e).toInt ≤ (T c).toInt)) → (∀ J, fX10_edges_L88 (nI A) mA t J (n + 1) (nI e) (nI c) = fX10_edges_L88 (nI A) mA t J n (nI e) (nI (c + 1))) → ∃ best', (∀ J, fX10_edges_L88 (nI A) mA t J (n + 1) (nI e) (nI c) = J best') ∧ MN T G t.toInt A best' := by
            intro hcmp hst
            obtain ⟨b', r1, r2⟩ := ih (c + 1) (nI e) (by omega) (by omega) (Or.inr ⟨e, by omega, rfl, e3, fun x hx hxt => by
              by_cases cx : x = c
              · subst cx
                unfold LX
                omega
              · exact e4 x (by omega) hxt⟩)
            exact ⟨b', fun J => by rw [hst]; exact r1 J, r2⟩
          have take : ((G c).toInt < (G e).toInt ∨ ((G c).toInt = (G e).toInt ∧ (T c).toInt < (T e).toInt)) → (∀ J, fX10_edges_L88 (nI A) mA t J (n + 1) (nI e) (nI c) = fX10_edges_L88 (nI A) mA t J n (nI c) (nI (c + 1))) → ∃ best', (∀ J, fX10_edges_L88 (nI A) mA t J (n + 1) (nI e) (nI c) = J best') ∧ MN T G t.toInt A best' := by
            intro hcmp hst
            obtain ⟨b', r1, r2⟩ := ih (c + 1) (nI c) (by omega) (by omega) (Or.inr ⟨c, by omega, rfl, ct', fun x hx hxt => by
              by_cases cx : x = c
              · subst cx; exact Or.inr ⟨rfl, Or.inr ⟨rfl, Nat.le_refl _⟩⟩
              · have := e4 x (by omega) hxt
                unfold LX at this ⊢
                omega⟩)
            exact ⟨b', fun J => by rw [hst]; exact r1 J, r2⟩
          by_cases cg : G c < G e
          · exact take (Or.inl (Int32.lt_iff_toInt_lt.mp cg)) (fun J => by rw [st, if_pos cg])
          · have cg' := i32le cg
            by_cases ce : G c = G e
            · by_cases cl : T e ≤ T c
              · exact keep (Or.inr ⟨by rw [ce], Int32.le_iff_toInt_le.mp cl⟩) (fun J => by rw [st, if_neg cg, if_pos ce, if_pos cl])
              · have cl' : (T c).toInt < (T e).toInt := by
                  rw [Int32.le_iff_toInt_le] at cl
                  omega
                exact take (Or.inr ⟨by rw [ce], cl'⟩) (fun J => by rw [st, if_neg cg, if_pos ce, if_neg cl])
            · have ce' := i32ne ce
              exact keep (Or.inl (by omega)) (fun J => by rw [st, if_neg cg, if_neg ce])
      · have ct' : ¬ (T c).toInt < t.toInt := fun e => ct (Int32.lt_iff_toInt_lt.mpr e)
        obtain ⟨b', r1, r2⟩ := ih (c + 1) best (by omega) (by omega) (by
          rcases hq with ⟨q1, q2⟩ | ⟨e, e1, e2, e3, e4⟩
          · exact Or.inl ⟨q1, fun x hx hxt => by
              by_cases cx : x = c
              · subst cx; exact ct' hxt
              · exact q2 x (by omega) hxt⟩
          · exact Or.inr ⟨e, by omega, e2, e3, fun x hx hxt => by
              by_cases cx : x = c
              · subst cx; exact absurd hxt ct'
              · exact e4 x (by omega) hxt⟩)
        refine ⟨b', fun J => ?_, r2⟩
        rw [fX10_edges_L88_s, if_neg (nI_ge cc (by omega))]
        simp (disch := omega) only [zGd_in, nIc, h33, if_neg ct, zLet_q, nI_1]
        exact r1 J
    · have : c = A := by omega
      subst this
      refine ⟨best, fun J => ?_, hq⟩
      rw [fX10_edges_L88_s, if_pos (nI_le (Nat.le_refl _) (by omega))]
theorem edg10 {T G : Nat → Int32} {mA : Rc} {E : Nat → Nat} {m A NN : Nat} (hN : 5000 ≤ NN) (hA : A ≤ 4096) (hrw : ∀ x, x < A → mA 33 x = T x ∧ mA 34 x = G x) (hf : Fr (fun c => (T c).toInt) (fun c => (G c).toInt) E m A) (hT : ∀ c, c < A → (T c).toInt < 2147483647) : ∀ (n k : Nat) (t : Int32) (mG : Rc), m - k + 1 < n → k ≤ m → (k = 0 ∧ t = (2147483647 : Int32)) ∨ (0 < k ∧ t = T (E (k - 1))) → mG 35 0 = nI k → (∀ i, i < k → mG 32 i = nI (E i)) → ∃ mG', (∀ J, fX10_edges_L78 NN (nI A) mA J n t (nI 1) mG = J mG') ∧ mG' 35 0 = nI m ∧ ∀ i, i < m → mG' 32 i = nI (E i) := by
  have hm := hf.2.2.2
  intro n
  induction n with
  | zero => intro k t mG h; omega
  | succ n ih =>
    intro k t mG hn hk ht h35 h32
    obtain ⟨best, b1, b2⟩ := m88 (t := t) hA hrw NN 0 (nM 1) (by omega) (by omega) (Or.inl ⟨rfl, fun x hx => by omega⟩)
    have dom : ∀ x, x < A → (T x).toInt < t.toInt → ∃ i, k ≤ i ∧ i < m ∧ (G (E i)).toInt ≤ (G x).toInt ∧ (T (E i)).toInt ≤ (T x).toInt ∧ ((G (E i)).toInt = (G x).toInt → (T (E i)).toInt = (T x).toInt → E i ≤ x) := by
      intro x hx hxt
      obtain ⟨i, i1, i2, i3, i4⟩ := hf.2.2.1 x hx
      have i2 : (G (E i)).toInt ≤ (G x).toInt := i2
      have i3 : (T (E i)).toInt ≤ (T x).toInt := i3
      refine ⟨i, ?_, i1, i2, i3, i4⟩
      rcases ht with ⟨rfl, _⟩ | ⟨k0, te⟩
      · omega
      · rw [te] at hxt
        by_cases ci : i < k
        · by_cases ci' : i = k - 1
          · rw [ci'] at i3; omega
          · have : (T (E (k - 1))).toInt < (T (E i)).toInt := (hf.2.1 i (k - 1) (by omega) (by omega)).2
            omega
        · omega
    by_cases c : k < m
    · have hEk := hf.1 k c
      have tE : (T (E k)).toInt < t.toInt := by
        rcases ht with ⟨_, te⟩ | ⟨k0, te⟩
        · rw [te]; exact hT _ hEk
        · rw [te]; exact (hf.2.1 (k - 1) k (by omega) c).2
      have hbest : best = nI (E k) := by
        rcases b2 with ⟨q1, q2⟩ | ⟨e, e1, e2, e3, e4⟩
        · exact absurd tE (q2 _ hEk)
        · rw [e2]
          congr 1
          have l1 := e4 (E k) hEk tE
          obtain ⟨i, i0, i1, i2, i3, i4⟩ := dom e e1 e3
          unfold LX at l1
          by_cases ci : i = k
          · subst ci
            by_cases g1 : (G (E i)).toInt = (G e).toInt
            · by_cases g2 : (T (E i)).toInt = (T e).toInt
              · have := i4 g1 g2; omega
              · omega
            · omega
          · have : (G (E k)).toInt < (G (E i)).toInt := (hf.2.1 k i (by omega) i1).1
            omega
      have hnb : ¬ best = (-1 : Int32) := by rw [hbest]; exact fun h => (nI_m1 (a := E k) (by omega)).mp h
      obtain ⟨h33, h34⟩ := hrw _ hEk
      obtain ⟨mG', r1, r2, r3⟩ := ih (k + 1) (T (E k)) (rs (rs mG 32 (upd (mG 32) k (nI (E k)))) 35 (fun _ => nI (k + 1))) (by omega) (by omega) (Or.inr ⟨by omega, rfl⟩) (by rw [rs_s]) (fun i hi => by
        rw [rs_n _ _ (by omega), rs_s]
        by_cases ci : i = k
        · rw [ci, upd_s]
        · rw [upd_n ci]; exact h32 i (by omega))
      refine ⟨mG', fun J => ?_, r2, r3⟩
      rw [fX10_edges_L78_s, if_neg (by decide), zJn_q]
      refine (b1 _).trans ?_
      simp only [zJn_q]
      rw [if_neg (show ¬ best = (-1 : Int32) from hnb), if_neg (show ¬ (1 : Int32) = 0 by decide), hbest]
      simp (disch := omega) only [h35, zGd_in, nIc, ↓zLet_q, rs_n, rs_s, nI_1, h33]
      exact r1 J
    · have : k = m := by omega
      subst this
      have hbest : best = nM 1 := by
        rcases b2 with ⟨q1, q2⟩ | ⟨e, e1, e2, e3, e4⟩
        · exact q1
        · obtain ⟨i, i0, i1, _⟩ := dom e e1 e3
          omega
      refine ⟨mG, fun J => ?_, h35, h32⟩
      obtain ⟨n, rfl⟩ : ∃ n', n = n' + 1 := ⟨n - 1, by omega⟩
      rw [fX10_edges_L78_s, if_neg (by decide), zJn_q]
      refine (b1 _).trans ?_
      simp only [zJn_q]
      rw [if_pos (show best = (-1 : Int32) from hbest), if_pos trivial, fX10_edges_L78_s, if_pos rfl]
