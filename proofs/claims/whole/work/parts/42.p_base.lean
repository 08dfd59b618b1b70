/-! own part (pure): words -/
theorem lq_0 : (0 : Int32) = nI 0 := rfl
theorem lq_1 : (1 : Int32) = nI 1 := rfl
theorem lq_2 : (2 : Int32) = nI 2 := rfl
theorem lq_3 : (3 : Int32) = nI 3 := rfl
theorem lq_4 : (4 : Int32) = nI 4 := rfl
theorem lq_5 : (5 : Int32) = nI 5 := rfl
theorem lq_6 : (6 : Int32) = nI 6 := rfl
theorem lq_7 : (7 : Int32) = nI 7 := rfl
theorem lq_8 : (8 : Int32) = nI 8 := rfl
theorem lq_9 : (9 : Int32) = nI 9 := rfl
theorem lq_10 : (10 : Int32) = nI 10 := rfl
theorem lq_12 : (12 : Int32) = nI 12 := rfl
theorem lq_16 : (16 : Int32) = nI 16 := rfl
theorem lq_20 : (20 : Int32) = nI 20 := rfl
theorem lq_24 : (24 : Int32) = nI 24 := rfl
theorem lq_31 : (31 : Int32) = nI 31 := rfl
theorem lq_32 : (32 : Int32) = nI 32 := rfl
theorem lq_40 : (40 : Int32) = nI 40 := rfl
theorem lq_41 : (41 : Int32) = nI 41 := rfl
theorem lq_42 : (42 : Int32) = nI 42 := rfl
theorem lq_43 : (43 : Int32) = nI 43 := rfl
theorem lq_45 : (45 : Int32) = nI 45 := rfl
theorem lq_38 : (38 : Int32) = nI 38 := rfl
theorem lq_48 : (48 : Int32) = nI 48 := rfl
theorem lq_50 : (50 : Int32) = nI 50 := rfl
theorem lq_57 : (57 : Int32) = nI 57 := rfl
theorem lq_59 : (59 : Int32) = nI 59 := rfl
theorem lq_60 : (60 : Int32) = nI 60 := rfl
theorem lq_61 : (61 : Int32) = nI 61 := rfl
theorem lq_63 : (63 : Int32) = nI 63 := rfl
theorem lq_94 : (94 : Int32) = nI 94 := rfl
theorem lq_96 : (96 : Int32) = nI 96 := rfl
theorem lq_97 : (97 : Int32) = nI 97 := rfl
theorem lq_100 : (100 : Int32) = nI 100 := rfl
theorem lq_102 : (102 : Int32) = nI 102 := rfl
theorem lq_104 : (104 : Int32) = nI 104 := rfl
theorem lq_105 : (105 : Int32) = nI 105 := rfl
theorem lq_120 : (120 : Int32) = nI 120 := rfl
theorem lq_122 : (122 : Int32) = nI 122 := rfl
theorem lq_123 : (123 : Int32) = nI 123 := rfl
theorem lq_124 : (124 : Int32) = nI 124 := rfl
theorem lq_125 : (125 : Int32) = nI 125 := rfl
theorem lq_126 : (126 : Int32) = nI 126 := rfl
theorem lq_255 : (255 : Int32) = nI 255 := rfl
theorem lq_257 : (257 : Int32) = nI 257 := rfl
theorem lq_600 : (600 : Int32) = nI 600 := rfl
theorem lq_1000 : (1000 : Int32) = nI 1000 := rfl
theorem lq_4096 : (4096 : Int32) = nI 4096 := rfl
theorem lq_65535 : (65535 : Int32) = nI 65535 := rfl
theorem lq_1000000 : (1000000 : Int32) = nI 1000000 := rfl
theorem zB1_s {α1 β : Type} (a1 : α1) (k : α1 → Option β) : zB1 (some (a1)) k = k a1 := rfl
theorem zB2_s {α1 α2 β : Type} (a1 : α1) (a2 : α2) (k : α1 → α2 → Option β) : zB2 (some (a1, a2)) k = k a1 a2 := rfl
theorem zB3_s {α1 α2 α3 β : Type} (a1 : α1) (a2 : α2) (a3 : α3) (k : α1 → α2 → α3 → Option β) : zB3 (some (a1, a2, a3)) k = k a1 a2 a3 := rfl
theorem zB4_s {α1 α2 α3 α4 β : Type} (a1 : α1) (a2 : α2) (a3 : α3) (a4 : α4) (k : α1 → α2 → α3 → α4 → Option β) : zB4 (some (a1, a2, a3, a4)) k = k a1 a2 a3 a4 := rfl
theorem zB5_s {α1 α2 α3 α4 α5 β : Type} (a1 : α1) (a2 : α2) (a3 : α3) (a4 : α4) (a5 : α5) (k : α1 → α2 → α3 → α4 → α5 → Option β) : zB5 (some (a1, a2, a3, a4, a5)) k = k a1 a2 a3 a4 a5 := rfl
theorem zB6_s {α1 α2 α3 α4 α5 α6 β : Type} (a1 : α1) (a2 : α2) (a3 : α3) (a4 : α4) (a5 : α5) (a6 : α6) (k : α1 → α2 → α3 → α4 → α5 → α6 → Option β) : zB6 (some (a1, a2, a3, a4, a5, a6)) k = k a1 a2 a3 a4 a5 a6 := rfl
theorem zB7_s {α1 α2 α3 α4 α5 α6 α7 β : Type} (a1 : α1) (a2 : α2) (a3 : α3) (a4 : α4) (a5 : α5) (a6 : α6) (a7 : α7) (k : α1 → α2 → α3 → α4 → α5 → α6 → α7 → Option β) : zB7 (some (a1, a2, a3, a4, a5, a6, a7)) k = k a1 a2 a3 a4 a5 a6 a7 := rfl
theorem zB8_s {α1 α2 α3 α4 α5 α6 α7 α8 β : Type} (a1 : α1) (a2 : α2) (a3 : α3) (a4 : α4) (a5 : α5) (a6 : α6) (a7 : α7) (a8 : α8) (k : α1 → α2 → α3 → α4 → α5 → α6 → α7 → α8 → Option β) : zB8 (some (a1, a2, a3, a4, a5, a6, a7, a8)) k = k a1 a2 a3 a4 a5 a6 a7 a8 := rfl
theorem zB9_s {α1 α2 α3 α4 α5 α6 α7 α8 α9 β : Type} (a1 : α1) (a2 : α2) (a3 : α3) (a4 : α4) (a5 : α5) (a6 : α6) (a7 : α7) (a8 : α8) (a9 : α9) (k : α1 → α2 → α3 → α4 → α5 → α6 → α7 → α8 → α9 → Option β) : zB9 (some (a1, a2, a3, a4, a5, a6, a7, a8, a9)) k = k a1 a2 a3 a4 a5 a6 a7 a8 a9 := rfl
theorem zB10_s {α1 α2 α3 α4 α5 α6 α7 α8 α9 α10 β : Type} (a1 : α1) (a2 : α2) (a3 : α3) (a4 : α4) (a5 : α5) (a6 : α6) (a7 : α7) (a8 : α8) (a9 : α9) (a10 : α10) (k : α1 → α2 → α3 → α4 → α5 → α6 → α7 → α8 → α9 → α10 → Option β) : zB10 (some (a1, a2, a3, a4, a5, a6, a7, a8, a9, a10)) k = k a1 a2 a3 a4 a5 a6 a7 a8 a9 a10 := rfl
theorem ite_t {β : Type} {c : Prop} {i : Decidable c} {a b : β} (h : c) : @ite β c i a b = a := if_pos h
theorem ite_f {β : Type} {c : Prop} {i : Decidable c} {a b : β} (h : ¬ c) : @ite β c i a b = b := if_neg h
theorem zGd_in {β : Type} {n N : Nat} {i : Decidable (inb (nI n) N)} {k : Option β} (h : n < N) (hN : N < 2 ^ 31) : @zGd β (inb (nI n) N) i k = k := if_pos (vp_in_nI h hN)
theorem zGd_b0 {β : Type} {i : Decidable (zbit (nI 0))} {k : Option β} : @zGd β (zbit (nI 0)) i k = k := if_pos (Or.inl rfl)
theorem zGd_b1 {β : Type} {i : Decidable (zbit (nI 1))} {k : Option β} : @zGd β (zbit (nI 1)) i k = k := if_pos (Or.inr rfl)
theorem rs_rs (r : Rc) (k : Nat) (v w : Ar) : rs (rs r k v) k w = rs r k w := by
  funext j; unfold rs; split <;> rfl
theorem rs_cm (r : Rc) {k j : Nat} (v w : Ar) (h : k ≠ j) : rs (rs r k v) j w = rs (rs r j w) k v := by
  funext x; unfold rs; split <;> split <;> first | rfl | omega
theorem rs_id (r : Rc) (k : Nat) : rs r k (r k) = r := by
  funext j; unfold rs; split
  · subst_vars; rfl
  · rfl
theorem upd_s (f : Ar) (k : Nat) (x : Int32) : upd f k x k = x := if_pos rfl
theorem upd_n {f : Ar} {k j : Nat} {x : Int32} (h : j ≠ k) : upd f k x j = f j := if_neg h
theorem nI_mul (a b : Nat) : nI a * nI b = nI (a * b) := (Int32.ofNat_mul a b).symm
theorem nI_sub {a b : Nat} (h : b ≤ a) : nI a - nI b = nI (a - b) := by
  have e := nI_add (a - b) b
  rw [Nat.sub_add_cancel h] at e
  rw [← e]
  exact Int32.add_sub_cancel ..
def nM (n : Nat) : Int32 := -(nI n)
theorem lq_m1 : (-1 : Int32) = nM 1 := rfl
theorem lq_m2 : (-2 : Int32) = nM 2 := rfl
theorem lq_m8 : (-8 : Int32) = nM 8 := rfl
theorem lq_mm : (-2147483648 : Int32) = nM 2147483648 := rfl
theorem nM_1 : (nM 1).toInt = -1 := by decide
theorem nM_2 : (nM 2).toInt = -2 := by decide
theorem nI_m2 {a : Nat} (h : a < 2 ^ 31) : (nI a = nM 2) = False := by
  apply eq_false
  intro e
  have := congrArg Int32.toInt e
  rw [nI_toInt h, nM_2] at this
  omega
theorem nI_m1 {a : Nat} (h : a < 2 ^ 31) : (nI a = nM 1) = False := by
  apply eq_false
  intro e
  have := congrArg Int32.toInt e
  rw [nI_toInt h] at this
  have h2 : (nM 1).toInt = -1 := nM_1
  rw [h2] at this
  omega
theorem nI_m1' {a : Nat} (h : a < 2 ^ 31) : (nM 1 = nI a) = False := by
  exact eq_false (fun e => (nI_m1 h).mp e.symm)
theorem nI_lt0 {a : Nat} (h : a < 2 ^ 31) : (nI a < 0) = False := eq_false (nI_pos h)
/-- the first place from p on, below e, where q doesn't hold -/
def rnE (q : Nat → Bool) (e : Nat) : Nat → Nat → Nat
  | 0, p => p
  | n + 1, p => if p < e ∧ q p = true then rnE q e n (p + 1) else p
def rn (q : Nat → Bool) (e p : Nat) : Nat := rnE q e (e - p) p
theorem rn_step {q : Nat → Bool} {e p : Nat} (h : p < e) (hq : q p = true) : rn q e p = rn q e (p + 1) := by
  unfold rn
  have : e - p = (e - (p + 1)) + 1 := by omega
  rw [this]
  show (if p < e ∧ q p = true then _ else _) = _
  rw [if_pos ⟨h, hq⟩]
theorem rn_stop {q : Nat → Bool} {e p : Nat} (h : ¬ (p < e ∧ q p = true)) : rn q e p = p := by
  unfold rn
  cases e - p with
  | zero => rfl
  | succ n => exact if_neg h
theorem rn_spec (q : Nat → Bool) (e : Nat) : ∀ (n p : Nat), e - p ≤ n → p ≤ e → p ≤ rn q e p ∧ rn q e p ≤ e ∧ (∀ i, p ≤ i → i < rn q e p → q i = true) ∧ ¬ (rn q e p < e ∧ q (rn q e p) = true) := by
  intro n
  induction n with
  | zero =>
    intro p h hp
    have : rn q e p = p := rn_stop (by omega)
    rw [this]
    exact ⟨Nat.le_refl _, hp, fun i h1 h2 => by omega, by omega⟩
  | succ n ih =>
    intro p h hp
    by_cases hc : p < e ∧ q p = true
    · rw [rn_step hc.1 hc.2]
      obtain ⟨h1, h2, h3, h4⟩ := ih (p + 1) (by omega) (by omega)
      refine ⟨by omega, h2, fun i i1 i2 => ?_, h4⟩
      by_cases hi : i = p
      · rw [hi]; exact hc.2
      · exact h3 i (by omega) i2
    · rw [rn_stop hc]
      exact ⟨Nat.le_refl _, hp, fun i h1 h2 => by omega, hc⟩
