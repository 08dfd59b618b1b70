/-! own part (pure): the front of cuts, as it grows -/
def Fr (T G : Nat → Int) (E : Nat → Nat) (m c : Nat) : Prop := (∀ i, i < m → E i < c) ∧ (∀ i j, i < j → j < m → G (E i) < G (E j) ∧ T (E j) < T (E i)) ∧ (∀ x, x < c → ∃ i, i < m ∧ G (E i) ≤ G x ∧ T (E i) ≤ T x ∧ (G (E i) = G x → T (E i) = T x → E i ≤ x)) ∧ m ≤ c
theorem Fr_skip {T G : Nat → Int} {E : Nat → Nat} {m c a : Nat} (h : Fr T G E m c) (ha : a < m) (h1 : G (E a) ≤ G c) (h2 : T (E a) ≤ T c) : Fr T G E m (c + 1) := by
  obtain ⟨f1, f2, f3, f4⟩ := h
  refine ⟨fun i hi => by have := f1 i hi; omega, f2, fun x hx => ?_, by omega⟩
  by_cases cx : x = c
  · subst cx
    exact ⟨a, ha, h1, h2, fun _ _ => by have := f1 a ha; omega⟩
  · exact f3 x (by omega)
theorem Fr_put {T G : Nat → Int} {E : Nat → Nat} {m c a k : Nat} (h : Fr T G E m c) (ham : a ≤ m) (hlo : ∀ i, i < a → G (E i) < G c ∧ T c < T (E i)) (hak : a ≤ k) (hkm : k ≤ m) (hmid : ∀ i, a ≤ i → i < k → G c ≤ G (E i) ∧ T c ≤ T (E i) ∧ (G (E i) = G c → T c < T (E i))) (hhi : ∀ i, k ≤ i → i < m → G c < G (E i) ∧ T (E i) < T c) : Fr T G (fun i => if i < a then E i else if i = a then c else E (k + (i - (a + 1)))) (a + 1 + (m - k)) (c + 1) := by
  obtain ⟨f1, f2, f3, f4⟩ := h
  have e1 : ∀ i, i < a → (fun i => if i < a then E i else if i = a then c else E (k + (i - (a + 1)))) i = E i := fun i hi => if_pos hi
  have e2 : (fun i => if i < a then E i else if i = a then c else E (k + (i - (a + 1)))) a = c := by
    show (if a < a then E a else if a = a then c else E (k + (a - (a + 1)))) = c
    rw [if_neg (by omega), if_pos rfl]
  have e3 : ∀ i, a < i → (fun i => if i < a then E i else if i = a then c else E (k + (i - (a + 1)))) i = E (k + (i - (a + 1))) := fun i hi => by
    show (if i < a then E i else if i = a then c else E (k + (i - (a + 1)))) = _
    rw [if_neg (by omega), if_neg (by omega)]
  generalize (fun i => if i < a then E i else if i = a then c else E (k + (i - (a + 1)))) = E' at *
  refine ⟨fun i hi => ?_, fun i j hij hj => ?_, fun x hx => ?_, by omega⟩
  · by_cases c1 : i < a
    · rw [e1 i c1]; have := f1 i (by omega); omega
    · by_cases c2 : i = a
      · rw [c2, e2]; omega
      · rw [e3 i (by omega)]; have := f1 (k + (i - (a + 1))) (by omega); omega
  · by_cases c1 : j < a
    · rw [e1 i (by omega), e1 j c1]; exact f2 i j hij (by omega)
    · by_cases c2 : j = a
      · subst c2
        rw [e1 i hij, e2]; exact hlo i hij
      · rw [e3 j (by omega)]
        obtain ⟨u1, u2⟩ := hhi (k + (j - (a + 1))) (by omega) (by omega)
        by_cases c3 : i < a
        · rw [e1 i c3]
          obtain ⟨v1, v2⟩ := hlo i c3
          exact ⟨by omega, by omega⟩
        · by_cases c4 : i = a
          · rw [c4, e2]; exact ⟨u1, u2⟩
          · rw [e3 i (by omega)]
            exact f2 _ _ (by omega) (by omega)
  · by_cases cx : x = c
    · subst cx
      exact ⟨a, by omega, by rw [e2]; omega, by rw [e2]; omega, fun _ _ => by rw [e2]; omega⟩
    · obtain ⟨i, i1, i2, i3, i4⟩ := f3 x (by omega)
      by_cases c1 : i < a
      · exact ⟨i, by omega, by rw [e1 i c1]; exact i2, by rw [e1 i c1]; exact i3, by rw [e1 i c1]; exact i4⟩
      · by_cases c2 : i < k
        · obtain ⟨u1, u2, u3⟩ := hmid i (by omega) c2
          refine ⟨a, by omega, by rw [e2]; omega, by rw [e2]; omega, fun w1 w2 => ?_⟩
          rw [e2] at w1 w2
          have := u3 (by omega)
          omega
        · refine ⟨a + 1 + (i - k), by omega, ?_, ?_, ?_⟩
          · rw [e3 _ (by omega), show k + (a + 1 + (i - k) - (a + 1)) = i by omega]; exact i2
          · rw [e3 _ (by omega), show k + (a + 1 + (i - k) - (a + 1)) = i by omega]; exact i3
          · rw [e3 _ (by omega), show k + (a + 1 + (i - k) - (a + 1)) = i by omega]; exact i4
/-- the class's rows of cuts -/
def RW (T G : Nat → Int32) (oC : Rc) (A : Nat) : Prop := ∀ c, c < A → oC 9 c = T c ∧ oC 10 c = G c
def EG (oC : Rc) (E : Nat → Nat) (m : Nat) : Prop := oC 7 0 = nI m ∧ ∀ i, i < m → oC 6 i = nI (E i)
theorem within6 {T G : Nat → Int32} {oC : Rc} {E : Nat → Nat} {m A NN : Nat} {most : Int32} (hN : 5000 ≤ NN) (hA : A ≤ 4096) (hm : m ≤ A) (hrw : RW T G oC A) (heg : EG oC E m) (hE : ∀ i, i < m → E i < A) (hmono : ∀ i j, i < j → j < m → (G (E i)).toInt < (G (E j)).toInt) : ∃ a, fX0_edgesWithin NN oC most = some (nI a) ∧ a ≤ m ∧ (∀ i, i < a → (G (E i)).toInt ≤ most.toInt) ∧ ∀ i, a ≤ i → i < m → most.toInt < (G (E i)).toInt := by
  have key : ∀ (n lo hi : Nat), hi - lo < n → lo ≤ hi → hi ≤ m → (∀ i, i < lo → (G (E i)).toInt ≤ most.toInt) → (∀ i, hi ≤ i → i < m → most.toInt < (G (E i)).toInt) → ∃ a, fX0_edgesWithin_L7 oC most (fun x => some x) n (nI lo) (nI hi) = some (nI a) ∧ a ≤ m ∧ (∀ i, i < a → (G (E i)).toInt ≤ most.toInt) ∧ ∀ i, a ≤ i → i < m → most.toInt < (G (E i)).toInt := by
    intro n
    induction n with
    | zero => intro lo hi h; omega
    | succ n ih =>
      intro lo hi hn h1 h2 h3 h4
      by_cases c : lo < hi
      · have hd : (nI lo + nI hi) / (2 : Int32) = nI ((lo + hi) / 2) := by
          rw [nI_add]; exact pk_div (a := lo + hi) (d := 2) (by omega) (by omega) (by omega)
        have he := heg.2 ((lo + hi) / 2) (by omega)
        have hEm := hE ((lo + hi) / 2) (by omega)
        have hg := (hrw _ hEm).2
        by_cases cg : most < G (E ((lo + hi) / 2))
        · obtain ⟨a, q1, q2⟩ := ih lo ((lo + hi) / 2) (by omega) (by omega) (by omega) h3 (fun i i1 i2 => by
            have hcg := Int32.lt_iff_toInt_lt.mp cg
            by_cases ci : i = (lo + hi) / 2
            · rw [ci]; exact hcg
            · have := hmono ((lo + hi) / 2) i (by omega) i2
              omega)
          refine ⟨a, ?_, q2⟩
          rw [fX0_edgesWithin_L7_s, if_neg (nI_ge c (by omega)), zLet_q, hd]
          simp (disch := omega) only [zGd_in, nIc, he, hg, if_pos cg]
          exact q1
        · obtain ⟨a, q1, q2⟩ := ih ((lo + hi) / 2 + 1) hi (by omega) (by omega) h2 (fun i i1 => by
            have hcg : (G (E ((lo + hi) / 2))).toInt ≤ most.toInt := by
              rw [Int32.lt_iff_toInt_lt] at cg
              omega
            by_cases ci : i = (lo + hi) / 2
            · rw [ci]; exact hcg
            · have := hmono i ((lo + hi) / 2) (by omega) (by omega)
              omega) h4
          refine ⟨a, ?_, q2⟩
          rw [fX0_edgesWithin_L7_s, if_neg (nI_ge c (by omega)), zLet_q, hd]
          simp (disch := omega) only [zGd_in, nIc, he, hg, if_neg cg]
          rw [zLet_q, nI_1]
          exact q1
      · have : lo = hi := by omega
        subst this
        refine ⟨lo, ?_, h2, h3, h4⟩
        rw [fX0_edgesWithin_L7_s, if_pos (nI_le (Nat.le_refl _) (by omega))]
  unfold fX0_edgesWithin
  rw [zLet_q, zJn_q, heg.1]
  exact key NN 0 m (by omega) (by omega) (Nat.le_refl _) (fun i hi => by omega) (fun i h1 h2 => by omega)
theorem l69 {T G : Nat → Int32} {oC : Rc} {E : Nat → Nat} {m A c : Nat} (hA : A ≤ 4096) (hm : m ≤ A) (hc : c < A) (hrw : RW T G oC A) (heg : EG oC E m) (hE : ∀ i, i < m → E i < A) : ∀ (n a : Nat), m - a < n → a ≤ m → ∃ k, (∀ J, fX0_offer_L69 oC (nI c) J n (nI a) = J (nI k)) ∧ a ≤ k ∧ k ≤ m ∧ (∀ i, a ≤ i → i < k → (T c).toInt ≤ (T (E i)).toInt) ∧ (k < m → (T (E k)).toInt < (T c).toInt) := by
  intro n
  induction n with
  | zero => intro a h; omega
  | succ n ih =>
    intro a hn ha
    by_cases ca : a < m
    · have he := heg.2 a ca
      have hEm := hE a ca
      have h9 := (hrw _ hEm).1
      have h9c := (hrw _ hc).1
      by_cases ct : T (E a) < T c
      · refine ⟨a, fun J => ?_, Nat.le_refl _, ha, fun i h1 h2 => by omega, fun _ => Int32.lt_iff_toInt_lt.mp ct⟩
        rw [fX0_offer_L69_s, heg.1, if_neg (nI_ge ca (by omega))]
        simp (disch := omega) only [zGd_in, nIc, he, h9, h9c, if_pos ct]
      · obtain ⟨k, q1, q2, q3, q4, q5⟩ := ih (a + 1) (by omega) (by omega)
        refine ⟨k, fun J => ?_, by omega, q3, fun i h1 h2 => ?_, q5⟩
        · rw [fX0_offer_L69_s, heg.1, if_neg (nI_ge ca (by omega))]
          simp (disch := omega) only [zGd_in, nIc, he, h9, h9c, if_neg ct]
          rw [zLet_q, nI_1]
          exact q1 J
        · by_cases ci : i = a
          · subst ci
            rw [Int32.lt_iff_toInt_lt] at ct
            omega
          · exact q4 i (by omega) h2
    · refine ⟨a, fun J => ?_, Nat.le_refl _, ha, fun i h1 h2 => by omega, fun h => absurd h ca⟩
      rw [fX0_offer_L69_s, heg.1, if_pos (nI_le (by omega) (by omega))]
