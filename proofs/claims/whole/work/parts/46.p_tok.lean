/-! own part (pure): tokens, both sides at once -/
def Tk (B : Nat → Nat) (e s nx k : Nat) : Prop := s ≤ nx ∧ nx ≤ e ∧ (k ≠ 0 → s < nx) ∧ k < 256 ∧ (k ≤ 3 ∨ isSi k = true) ∧ (k = 2 → nx - s ≤ 8 ∧ ∀ i, s ≤ i → i < nx → isLt (B i) = true) ∧ (k = 3 → dval B s (nx - s) < 100000)
theorem dval_lt {B : Nat → Nat} {s : Nat} : ∀ n, (∀ i, s ≤ i → i < s + n → isDg (B i) = true) → dval B s n < 10 ^ n := by
  intro n
  induction n with
  | zero => intro _; exact Nat.one_pos
  | succ n ih =>
    intro h
    have h1 := ih (fun i a b => h i a (by omega))
    have h2 := isDg_b (h (s + n) (by omega) (by omega))
    show dval B s n * 10 + (B (s + n) - 48) < 10 ^ n * 10
    omega
theorem tk_tk {B : Nat → Nat} {e p : Nat} (hB : ∀ i, B i < 256) (hp : p ≤ e) : p ≤ tkS B e p ∧ Tk B e (tkS B e p) (tkN B e (tkS B e p)) (tkK B e (tkS B e p)) := by
  obtain ⟨hs1, hs2, hs3, hs4⟩ : p ≤ tkS B e p ∧ tkS B e p ≤ e ∧ _ := rn_spec (bl B) e (e - p) p (Nat.le_refl _) hp
  clear hs3 hs4
  refine ⟨hs1, ?_⟩
  generalize tkS B e p = s at *
  by_cases hse : s < e
  · have hBs := hB s
    by_cases ql : isLt (B s) = true
    · have tN : tkN B e s = rn (lw B) e s := by unfold tkN; rw [if_pos hse, if_pos ql]
      have tK : tkK B e s = if rn (lw B) e s - s ≤ 8 then 2 else 1 := by unfold tkK; rw [if_pos hse, if_pos ql]
      obtain ⟨r1, r2, r3, r4⟩ := rn_spec (lw B) e (e - s) s (Nat.le_refl _) (by omega)
      rw [tN, tK]
      have r5 : s < rn (lw B) e s := by rw [rn_step hse ql]; exact (rn_spec (lw B) e (e - (s + 1)) (s + 1) (Nat.le_refl _) (by omega)).1
      generalize rn (lw B) e s = nx at *
      by_cases c : nx - s ≤ 8
      · rw [if_pos c]; exact ⟨r1, r2, fun _ => r5, by omega, Or.inl (by omega), fun _ => ⟨c, r3⟩, fun h => by omega⟩
      · rw [if_neg c]; exact ⟨r1, r2, fun _ => r5, by omega, Or.inl (by omega), fun h => by omega, fun h => by omega⟩
    · by_cases qd : isDg (B s) = true
      · have tN : tkN B e s = rn (dw B) e s := by unfold tkN; rw [if_pos hse, if_neg ql, if_pos qd]
        have tK : tkK B e s = if rn (dw B) e s - s ≤ 5 then 3 else 1 := by unfold tkK; rw [if_pos hse, if_neg ql, if_pos qd]
        obtain ⟨r1, r2, r3, r4⟩ := rn_spec (dw B) e (e - s) s (Nat.le_refl _) (by omega)
        rw [tN, tK]
        have r5 : s < rn (dw B) e s := by rw [rn_step hse qd]; exact (rn_spec (dw B) e (e - (s + 1)) (s + 1) (Nat.le_refl _) (by omega)).1
        generalize rn (dw B) e s = nx at *
        by_cases c : nx - s ≤ 5
        · rw [if_pos c]
          refine ⟨r1, r2, fun _ => r5, by omega, Or.inl (by omega), fun h => by omega, fun _ => ?_⟩
          have h1 := dval_lt (B := B) (s := s) (nx - s) (fun i a b => r3 i a (by omega))
          have h2 : 10 ^ (nx - s) ≤ 10 ^ 5 := Nat.pow_le_pow_right (by omega) c
          omega
        · rw [if_neg c]; exact ⟨r1, r2, fun _ => r5, by omega, Or.inl (by omega), fun h => by omega, fun h => by omega⟩
      · have tN : tkN B e s = s + 1 := by unfold tkN; rw [if_pos hse, if_neg ql, if_neg qd]
        rw [tN]
        by_cases qi : isSi (B s) = true
        · have tK : tkK B e s = B s := by unfold tkK; rw [if_pos hse, if_neg ql, if_neg qd, if_pos qi]
          have h3 : 4 ≤ B s := byteAll (P := fun b => isSi b = true → 4 ≤ b) (by decide +kernel) hBs qi
          rw [tK]
          exact ⟨by omega, by omega, fun _ => by omega, hBs, Or.inr qi, fun h => by omega, fun h => by omega⟩
        · have tK : tkK B e s = 1 := by unfold tkK; rw [if_pos hse, if_neg ql, if_neg qd, if_neg qi]
          rw [tK]
          exact ⟨by omega, by omega, fun _ => by omega, by omega, Or.inl (by omega), fun h => by omega, fun h => by omega⟩
  · have tN : tkN B e s = s := by unfold tkN; rw [if_neg hse]
    have tK : tkK B e s = 0 := by unfold tkK; rw [if_neg hse]
    rw [tN, tK]
    exact ⟨by omega, by omega, fun h => absurd rfl h, by omega, Or.inl (by omega), fun h => by omega, fun h => by omega⟩
theorem srt0 {k : Nat} : srt k = nI 1 ↔ k = 0 := by unfold srt; (repeat' split) <;> rw [nI_eq (by omega) (by omega)] <;> omega
theorem srt2 {k : Nat} : srt k = nI 2 ↔ k = 2 := by unfold srt; (repeat' split) <;> rw [nI_eq (by omega) (by omega)] <;> omega
theorem srt3 {k : Nat} : srt k = nI 3 ↔ k = 3 := by unfold srt; (repeat' split) <;> rw [nI_eq (by omega) (by omega)] <;> omega
theorem srt4 {k : Nat} : srt k = nI 4 ↔ 4 ≤ k := by unfold srt; (repeat' split) <;> rw [nI_eq (by omega) (by omega)] <;> omega
/-- one token on, on both sides -/
theorem adv6 {B : Nat → Nat} {e s nx k NN : Nat} {oT : Rc} (he : e ≤ 600) (hB : ∀ i, B i < 256) (hN : 601 ≤ NN) (h0 : ∀ i, i < 600 → oT 0 i = nI (B i)) (h : T6 B e s nx k oT) (ht : Tk B e s nx k) :
    wp (fX6_step NN oT) (fun oT' => oT' 0 = oT 0 ∧ oT' 1 = oT 1 ∧ T6 B e (tkS B e nx) (tkN B e (tkS B e nx)) (tkK B e (tkS B e nx)) oT') := step6 he hB hN h0 h.1 h.2.1 ht.2.1
theorem adv10 {B : Nat → Nat} {e s nx k NN : Nat} {mB mL : Rc} (he : e ≤ 600) (hB : ∀ i, B i < 256) (hM : ∀ i, i < 600 → mB 11 i = sx (B i)) (hN : 601 ≤ NN) (h : T10 B e s nx k mL) (hk : k ≠ 1) (ht : Tk B e s nx k) :
    wp (fX10_next NN mB mL) (fun mL' => T10 B e (tkS B e nx) (tkN B e (tkS B e nx)) (tkK B e (tkS B e nx)) mL' ∧ mL' 20 = mL 20) := next10 he hB hM hN h.1 (h.2.2.1 hk) ht.2.1
