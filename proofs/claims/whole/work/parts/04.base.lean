/-! own part: the pure functions' words (a fall into none where an index would be wrong), and the rows that tie them to the machine -/
abbrev Rc : Type := Nat → Nat → Int32
abbrev Ar : Type := Nat → Int32
def rs (r : Rc) (k : Nat) (v : Ar) : Rc := fun j => if j = k then v else r j
def zLet {α β : Type} (x : α) (k : α → Option β) : Option β := k x
theorem zLet_at {α β : Type} {x y : α} {k : α → Option β} {o : β} (h : zLet x k = some o) (e : y = x) : k y = some o := by rw [e]; exact h
theorem zLet_el {α β : Type} {x : α} {k : α → Option β} {o : β} (h : zLet x k = some o) : ∃ y, y = x ∧ k y = some o := ⟨x, rfl, h⟩
def zGd {β : Type} (c : Prop) [Decidable c] (k : Option β) : Option β := if c then k else none
theorem zGd_el {β : Type} {c : Prop} [Decidable c] {k : Option β} {o : β} (h : zGd c k = some o) : c ∧ k = some o := by
  unfold zGd at h
  by_cases hc : c
  · rw [if_pos hc] at h; exact ⟨hc, h⟩
  · rw [if_neg hc] at h; cases h
theorem zIf_t {β : Type} {c : Prop} [Decidable c] {a b : Option β} {o : β} (h : (if c then a else b) = some o) (hc : c) : a = some o := by rw [if_pos hc] at h; exact h
theorem zIf_f {β : Type} {c : Prop} [Decidable c] {a b : Option β} {o : β} (h : (if c then a else b) = some o) (hc : ¬ c) : b = some o := by rw [if_neg hc] at h; exact h
def zJn {α β : Type} (j : α) (k : α → Option β) : Option β := k j
theorem zJn_el {α β : Type} {j : α} {k : α → Option β} {o : β} (h : zJn j k = some o) : ∃ J, J = j ∧ k J = some o := ⟨j, rfl, h⟩
abbrev inb (i : Int32) (n : Nat) : Prop := ¬ (i < 0 ∨ n ≤ i.toNatClampNeg)
abbrev zbit (v : Int32) : Prop := v = 0 ∨ v = 1
theorem zbit_n {v : Int32} (h : zbit v) : narrow .boolean (.int v) = .int v ∧ fits .boolean (.int v) = true := by
  rcases h with rfl | rfl <;> exact ⟨by decide +kernel, by decide +kernel⟩
def zB1 {α1 β : Type} (x : Option (α1)) (k : α1 → Option β) : Option β := match x with
  | some a1 => k a1
  | none => none
theorem zB1_el {α1 β : Type} {x : Option (α1)} {k : α1 → Option β} {o : β} (h : zB1 x k = some o) : ∃ a1, x = some a1 ∧ k a1 = some o := by
  cases x with
  | none => cases h
  | some y => exact ⟨y, rfl, h⟩
def zB2 {α1 α2 β : Type} (x : Option (α1 × α2)) (k : α1 → α2 → Option β) : Option β := match x with
  | some (a1, a2) => k a1 a2
  | none => none
theorem zB2_el {α1 α2 β : Type} {x : Option (α1 × α2)} {k : α1 → α2 → Option β} {o : β} (h : zB2 x k = some o) : ∃ a1 a2, x = some (a1, a2) ∧ k a1 a2 = some o := by
  cases x with
  | none => cases h
  | some y => obtain ⟨a1, a2⟩ := y; exact ⟨a1, a2, rfl, h⟩
def zB3 {α1 α2 α3 β : Type} (x : Option (α1 × α2 × α3)) (k : α1 → α2 → α3 → Option β) : Option β := match x with
  | some (a1, a2, a3) => k a1 a2 a3
  | none => none
theorem zB3_el {α1 α2 α3 β : Type} {x : Option (α1 × α2 × α3)} {k : α1 → α2 → α3 → Option β} {o : β} (h : zB3 x k = some o) : ∃ a1 a2 a3, x = some (a1, a2, a3) ∧ k a1 a2 a3 = some o := by
  cases x with
  | none => cases h
  | some y => obtain ⟨a1, a2, a3⟩ := y; exact ⟨a1, a2, a3, rfl, h⟩
def zB4 {α1 α2 α3 α4 β : Type} (x : Option (α1 × α2 × α3 × α4)) (k : α1 → α2 → α3 → α4 → Option β) : Option β := match x with
  | some (a1, a2, a3, a4) => k a1 a2 a3 a4
  | none => none
theorem zB4_el {α1 α2 α3 α4 β : Type} {x : Option (α1 × α2 × α3 × α4)} {k : α1 → α2 → α3 → α4 → Option β} {o : β} (h : zB4 x k = some o) : ∃ a1 a2 a3 a4, x = some (a1, a2, a3, a4) ∧ k a1 a2 a3 a4 = some o := by
  cases x with
  | none => cases h
  | some y => obtain ⟨a1, a2, a3, a4⟩ := y; exact ⟨a1, a2, a3, a4, rfl, h⟩
def zB5 {α1 α2 α3 α4 α5 β : Type} (x : Option (α1 × α2 × α3 × α4 × α5)) (k : α1 → α2 → α3 → α4 → α5 → Option β) : Option β := match x with
  | some (a1, a2, a3, a4, a5) => k a1 a2 a3 a4 a5
  | none => none
theorem zB5_el {α1 α2 α3 α4 α5 β : Type} {x : Option (α1 × α2 × α3 × α4 × α5)} {k : α1 → α2 → α3 → α4 → α5 → Option β} {o : β} (h : zB5 x k = some o) : ∃ a1 a2 a3 a4 a5, x = some (a1, a2, a3, a4, a5) ∧ k a1 a2 a3 a4 a5 = some o := by
  cases x with
  | none => cases h
  | some y => obtain ⟨a1, a2, a3, a4, a5⟩ := y; exact ⟨a1, a2, a3, a4, a5, rfl, h⟩
def zB6 {α1 α2 α3 α4 α5 α6 β : Type} (x : Option (α1 × α2 × α3 × α4 × α5 × α6)) (k : α1 → α2 → α3 → α4 → α5 → α6 → Option β) : Option β := match x with
  | some (a1, a2, a3, a4, a5, a6) => k a1 a2 a3 a4 a5 a6
  | none => none
theorem zB6_el {α1 α2 α3 α4 α5 α6 β : Type} {x : Option (α1 × α2 × α3 × α4 × α5 × α6)} {k : α1 → α2 → α3 → α4 → α5 → α6 → Option β} {o : β} (h : zB6 x k = some o) : ∃ a1 a2 a3 a4 a5 a6, x = some (a1, a2, a3, a4, a5, a6) ∧ k a1 a2 a3 a4 a5 a6 = some o := by
  cases x with
  | none => cases h
  | some y => obtain ⟨a1, a2, a3, a4, a5, a6⟩ := y; exact ⟨a1, a2, a3, a4, a5, a6, rfl, h⟩
def zB7 {α1 α2 α3 α4 α5 α6 α7 β : Type} (x : Option (α1 × α2 × α3 × α4 × α5 × α6 × α7)) (k : α1 → α2 → α3 → α4 → α5 → α6 → α7 → Option β) : Option β := match x with
  | some (a1, a2, a3, a4, a5, a6, a7) => k a1 a2 a3 a4 a5 a6 a7
  | none => none
theorem zB7_el {α1 α2 α3 α4 α5 α6 α7 β : Type} {x : Option (α1 × α2 × α3 × α4 × α5 × α6 × α7)} {k : α1 → α2 → α3 → α4 → α5 → α6 → α7 → Option β} {o : β} (h : zB7 x k = some o) : ∃ a1 a2 a3 a4 a5 a6 a7, x = some (a1, a2, a3, a4, a5, a6, a7) ∧ k a1 a2 a3 a4 a5 a6 a7 = some o := by
  cases x with
  | none => cases h
  | some y => obtain ⟨a1, a2, a3, a4, a5, a6, a7⟩ := y; exact ⟨a1, a2, a3, a4, a5, a6, a7, rfl, h⟩
def zB8 {α1 α2 α3 α4 α5 α6 α7 α8 β : Type} (x : Option (α1 × α2 × α3 × α4 × α5 × α6 × α7 × α8)) (k : α1 → α2 → α3 → α4 → α5 → α6 → α7 → α8 → Option β) : Option β := match x with
  | some (a1, a2, a3, a4, a5, a6, a7, a8) => k a1 a2 a3 a4 a5 a6 a7 a8
  | none => none
theorem zB8_el {α1 α2 α3 α4 α5 α6 α7 α8 β : Type} {x : Option (α1 × α2 × α3 × α4 × α5 × α6 × α7 × α8)} {k : α1 → α2 → α3 → α4 → α5 → α6 → α7 → α8 → Option β} {o : β} (h : zB8 x k = some o) : ∃ a1 a2 a3 a4 a5 a6 a7 a8, x = some (a1, a2, a3, a4, a5, a6, a7, a8) ∧ k a1 a2 a3 a4 a5 a6 a7 a8 = some o := by
  cases x with
  | none => cases h
  | some y => obtain ⟨a1, a2, a3, a4, a5, a6, a7, a8⟩ := y; exact ⟨a1, a2, a3, a4, a5, a6, a7, a8, rfl, h⟩
def zB9 {α1 α2 α3 α4 α5 α6 α7 α8 α9 β : Type} (x : Option (α1 × α2 × α3 × α4 × α5 × α6 × α7 × α8 × α9)) (k : α1 → α2 → α3 → α4 → α5 → α6 → α7 → α8 → α9 → Option β) : Option β := match x with
  | some (a1, a2, a3, a4, a5, a6, a7, a8, a9) => k a1 a2 a3 a4 a5 a6 a7 a8 a9
  | none => none
theorem zB9_el {α1 α2 α3 α4 α5 α6 α7 α8 α9 β : Type} {x : Option (α1 × α2 × α3 × α4 × α5 × α6 × α7 × α8 × α9)} {k : α1 → α2 → α3 → α4 → α5 → α6 → α7 → α8 → α9 → Option β} {o : β} (h : zB9 x k = some o) : ∃ a1 a2 a3 a4 a5 a6 a7 a8 a9, x = some (a1, a2, a3, a4, a5, a6, a7, a8, a9) ∧ k a1 a2 a3 a4 a5 a6 a7 a8 a9 = some o := by
  cases x with
  | none => cases h
  | some y => obtain ⟨a1, a2, a3, a4, a5, a6, a7, a8, a9⟩ := y; exact ⟨a1, a2, a3, a4, a5, a6, a7, a8, a9, rfl, h⟩
def zB10 {α1 α2 α3 α4 α5 α6 α7 α8 α9 α10 β : Type} (x : Option (α1 × α2 × α3 × α4 × α5 × α6 × α7 × α8 × α9 × α10)) (k : α1 → α2 → α3 → α4 → α5 → α6 → α7 → α8 → α9 → α10 → Option β) : Option β := match x with
  | some (a1, a2, a3, a4, a5, a6, a7, a8, a9, a10) => k a1 a2 a3 a4 a5 a6 a7 a8 a9 a10
  | none => none
theorem zB10_el {α1 α2 α3 α4 α5 α6 α7 α8 α9 α10 β : Type} {x : Option (α1 × α2 × α3 × α4 × α5 × α6 × α7 × α8 × α9 × α10)} {k : α1 → α2 → α3 → α4 → α5 → α6 → α7 → α8 → α9 → α10 → Option β} {o : β} (h : zB10 x k = some o) : ∃ a1 a2 a3 a4 a5 a6 a7 a8 a9 a10, x = some (a1, a2, a3, a4, a5, a6, a7, a8, a9, a10) ∧ k a1 a2 a3 a4 a5 a6 a7 a8 a9 a10 = some o := by
  cases x with
  | none => cases h
  | some y => obtain ⟨a1, a2, a3, a4, a5, a6, a7, a8, a9, a10⟩ := y; exact ⟨a1, a2, a3, a4, a5, a6, a7, a8, a9, a10, rfl, h⟩
def zB11 {α1 α2 α3 α4 α5 α6 α7 α8 α9 α10 α11 β : Type} (x : Option (α1 × α2 × α3 × α4 × α5 × α6 × α7 × α8 × α9 × α10 × α11)) (k : α1 → α2 → α3 → α4 → α5 → α6 → α7 → α8 → α9 → α10 → α11 → Option β) : Option β := match x with
  | some (a1, a2, a3, a4, a5, a6, a7, a8, a9, a10, a11) => k a1 a2 a3 a4 a5 a6 a7 a8 a9 a10 a11
  | none => none
theorem zB11_el {α1 α2 α3 α4 α5 α6 α7 α8 α9 α10 α11 β : Type} {x : Option (α1 × α2 × α3 × α4 × α5 × α6 × α7 × α8 × α9 × α10 × α11)} {k : α1 → α2 → α3 → α4 → α5 → α6 → α7 → α8 → α9 → α10 → α11 → Option β} {o : β} (h : zB11 x k = some o) : ∃ a1 a2 a3 a4 a5 a6 a7 a8 a9 a10 a11, x = some (a1, a2, a3, a4, a5, a6, a7, a8, a9, a10, a11) ∧ k a1 a2 a3 a4 a5 a6 a7 a8 a9 a10 a11 = some o := by
  cases x with
  | none => cases h
  | some y => obtain ⟨a1, a2, a3, a4, a5, a6, a7, a8, a9, a10, a11⟩ := y; exact ⟨a1, a2, a3, a4, a5, a6, a7, a8, a9, a10, a11, rfl, h⟩
def zB12 {α1 α2 α3 α4 α5 α6 α7 α8 α9 α10 α11 α12 β : Type} (x : Option (α1 × α2 × α3 × α4 × α5 × α6 × α7 × α8 × α9 × α10 × α11 × α12)) (k : α1 → α2 → α3 → α4 → α5 → α6 → α7 → α8 → α9 → α10 → α11 → α12 → Option β) : Option β := match x with
  | some (a1, a2, a3, a4, a5, a6, a7, a8, a9, a10, a11, a12) => k a1 a2 a3 a4 a5 a6 a7 a8 a9 a10 a11 a12
  | none => none
theorem zB12_el {α1 α2 α3 α4 α5 α6 α7 α8 α9 α10 α11 α12 β : Type} {x : Option (α1 × α2 × α3 × α4 × α5 × α6 × α7 × α8 × α9 × α10 × α11 × α12)} {k : α1 → α2 → α3 → α4 → α5 → α6 → α7 → α8 → α9 → α10 → α11 → α12 → Option β} {o : β} (h : zB12 x k = some o) : ∃ a1 a2 a3 a4 a5 a6 a7 a8 a9 a10 a11 a12, x = some (a1, a2, a3, a4, a5, a6, a7, a8, a9, a10, a11, a12) ∧ k a1 a2 a3 a4 a5 a6 a7 a8 a9 a10 a11 a12 = some o := by
  cases x with
  | none => cases h
  | some y => obtain ⟨a1, a2, a3, a4, a5, a6, a7, a8, a9, a10, a11, a12⟩ := y; exact ⟨a1, a2, a3, a4, a5, a6, a7, a8, a9, a10, a11, a12, rfl, h⟩
def zLp1 {α1 β : Type} (F : (α1 → Option β) → α1 → Option β) : Nat → α1 → Option β
  | 0 => fun _ => none
  | n + 1 => fun a1 => F (zLp1 F n) a1
theorem zLp1_ind {α1 β : Type} {F : (α1 → Option β) → α1 → Option β} {o : β} {P : α1 → Prop} (st : ∀ go : α1 → Option β, (∀ a1, go a1 = some o → P a1) → ∀ a1, F go a1 = some o → P a1) : ∀ (n : Nat) a1, zLp1 F n a1 = some o → P a1 := by
  intro n
  induction n with
  | zero => intro a1 h; cases h
  | succ n ih => intro a1 h; exact st _ ih a1 h
def zLp2 {α1 α2 β : Type} (F : (α1 → α2 → Option β) → α1 → α2 → Option β) : Nat → α1 → α2 → Option β
  | 0 => fun _ _ => none
  | n + 1 => fun a1 a2 => F (zLp2 F n) a1 a2
theorem zLp2_ind {α1 α2 β : Type} {F : (α1 → α2 → Option β) → α1 → α2 → Option β} {o : β} {P : α1 → α2 → Prop} (st : ∀ go : α1 → α2 → Option β, (∀ a1 a2, go a1 a2 = some o → P a1 a2) → ∀ a1 a2, F go a1 a2 = some o → P a1 a2) : ∀ (n : Nat) a1 a2, zLp2 F n a1 a2 = some o → P a1 a2 := by
  intro n
  induction n with
  | zero => intro a1 a2 h; cases h
  | succ n ih => intro a1 a2 h; exact st _ ih a1 a2 h
def zLp3 {α1 α2 α3 β : Type} (F : (α1 → α2 → α3 → Option β) → α1 → α2 → α3 → Option β) : Nat → α1 → α2 → α3 → Option β
  | 0 => fun _ _ _ => none
  | n + 1 => fun a1 a2 a3 => F (zLp3 F n) a1 a2 a3
theorem zLp3_ind {α1 α2 α3 β : Type} {F : (α1 → α2 → α3 → Option β) → α1 → α2 → α3 → Option β} {o : β} {P : α1 → α2 → α3 → Prop} (st : ∀ go : α1 → α2 → α3 → Option β, (∀ a1 a2 a3, go a1 a2 a3 = some o → P a1 a2 a3) → ∀ a1 a2 a3, F go a1 a2 a3 = some o → P a1 a2 a3) : ∀ (n : Nat) a1 a2 a3, zLp3 F n a1 a2 a3 = some o → P a1 a2 a3 := by
  intro n
  induction n with
  | zero => intro a1 a2 a3 h; cases h
  | succ n ih => intro a1 a2 a3 h; exact st _ ih a1 a2 a3 h
def zLp4 {α1 α2 α3 α4 β : Type} (F : (α1 → α2 → α3 → α4 → Option β) → α1 → α2 → α3 → α4 → Option β) : Nat → α1 → α2 → α3 → α4 → Option β
  | 0 => fun _ _ _ _ => none
  | n + 1 => fun a1 a2 a3 a4 => F (zLp4 F n) a1 a2 a3 a4
theorem zLp4_ind {α1 α2 α3 α4 β : Type} {F : (α1 → α2 → α3 → α4 → Option β) → α1 → α2 → α3 → α4 → Option β} {o : β} {P : α1 → α2 → α3 → α4 → Prop} (st : ∀ go : α1 → α2 → α3 → α4 → Option β, (∀ a1 a2 a3 a4, go a1 a2 a3 a4 = some o → P a1 a2 a3 a4) → ∀ a1 a2 a3 a4, F go a1 a2 a3 a4 = some o → P a1 a2 a3 a4) : ∀ (n : Nat) a1 a2 a3 a4, zLp4 F n a1 a2 a3 a4 = some o → P a1 a2 a3 a4 := by
  intro n
  induction n with
  | zero => intro a1 a2 a3 a4 h; cases h
  | succ n ih => intro a1 a2 a3 a4 h; exact st _ ih a1 a2 a3 a4 h
def zLp5 {α1 α2 α3 α4 α5 β : Type} (F : (α1 → α2 → α3 → α4 → α5 → Option β) → α1 → α2 → α3 → α4 → α5 → Option β) : Nat → α1 → α2 → α3 → α4 → α5 → Option β
  | 0 => fun _ _ _ _ _ => none
  | n + 1 => fun a1 a2 a3 a4 a5 => F (zLp5 F n) a1 a2 a3 a4 a5
theorem zLp5_ind {α1 α2 α3 α4 α5 β : Type} {F : (α1 → α2 → α3 → α4 → α5 → Option β) → α1 → α2 → α3 → α4 → α5 → Option β} {o : β} {P : α1 → α2 → α3 → α4 → α5 → Prop} (st : ∀ go : α1 → α2 → α3 → α4 → α5 → Option β, (∀ a1 a2 a3 a4 a5, go a1 a2 a3 a4 a5 = some o → P a1 a2 a3 a4 a5) → ∀ a1 a2 a3 a4 a5, F go a1 a2 a3 a4 a5 = some o → P a1 a2 a3 a4 a5) : ∀ (n : Nat) a1 a2 a3 a4 a5, zLp5 F n a1 a2 a3 a4 a5 = some o → P a1 a2 a3 a4 a5 := by
  intro n
  induction n with
  | zero => intro a1 a2 a3 a4 a5 h; cases h
  | succ n ih => intro a1 a2 a3 a4 a5 h; exact st _ ih a1 a2 a3 a4 a5 h
def zLp6 {α1 α2 α3 α4 α5 α6 β : Type} (F : (α1 → α2 → α3 → α4 → α5 → α6 → Option β) → α1 → α2 → α3 → α4 → α5 → α6 → Option β) : Nat → α1 → α2 → α3 → α4 → α5 → α6 → Option β
  | 0 => fun _ _ _ _ _ _ => none
  | n + 1 => fun a1 a2 a3 a4 a5 a6 => F (zLp6 F n) a1 a2 a3 a4 a5 a6
theorem zLp6_ind {α1 α2 α3 α4 α5 α6 β : Type} {F : (α1 → α2 → α3 → α4 → α5 → α6 → Option β) → α1 → α2 → α3 → α4 → α5 → α6 → Option β} {o : β} {P : α1 → α2 → α3 → α4 → α5 → α6 → Prop} (st : ∀ go : α1 → α2 → α3 → α4 → α5 → α6 → Option β, (∀ a1 a2 a3 a4 a5 a6, go a1 a2 a3 a4 a5 a6 = some o → P a1 a2 a3 a4 a5 a6) → ∀ a1 a2 a3 a4 a5 a6, F go a1 a2 a3 a4 a5 a6 = some o → P a1 a2 a3 a4 a5 a6) : ∀ (n : Nat) a1 a2 a3 a4 a5 a6, zLp6 F n a1 a2 a3 a4 a5 a6 = some o → P a1 a2 a3 a4 a5 a6 := by
  intro n
  induction n with
  | zero => intro a1 a2 a3 a4 a5 a6 h; cases h
  | succ n ih => intro a1 a2 a3 a4 a5 a6 h; exact st _ ih a1 a2 a3 a4 a5 a6 h
def zLp7 {α1 α2 α3 α4 α5 α6 α7 β : Type} (F : (α1 → α2 → α3 → α4 → α5 → α6 → α7 → Option β) → α1 → α2 → α3 → α4 → α5 → α6 → α7 → Option β) : Nat → α1 → α2 → α3 → α4 → α5 → α6 → α7 → Option β
  | 0 => fun _ _ _ _ _ _ _ => none
  | n + 1 => fun a1 a2 a3 a4 a5 a6 a7 => F (zLp7 F n) a1 a2 a3 a4 a5 a6 a7
theorem zLp7_ind {α1 α2 α3 α4 α5 α6 α7 β : Type} {F : (α1 → α2 → α3 → α4 → α5 → α6 → α7 → Option β) → α1 → α2 → α3 → α4 → α5 → α6 → α7 → Option β} {o : β} {P : α1 → α2 → α3 → α4 → α5 → α6 → α7 → Prop} (st : ∀ go : α1 → α2 → α3 → α4 → α5 → α6 → α7 → Option β, (∀ a1 a2 a3 a4 a5 a6 a7, go a1 a2 a3 a4 a5 a6 a7 = some o → P a1 a2 a3 a4 a5 a6 a7) → ∀ a1 a2 a3 a4 a5 a6 a7, F go a1 a2 a3 a4 a5 a6 a7 = some o → P a1 a2 a3 a4 a5 a6 a7) : ∀ (n : Nat) a1 a2 a3 a4 a5 a6 a7, zLp7 F n a1 a2 a3 a4 a5 a6 a7 = some o → P a1 a2 a3 a4 a5 a6 a7 := by
  intro n
  induction n with
  | zero => intro a1 a2 a3 a4 a5 a6 a7 h; cases h
  | succ n ih => intro a1 a2 a3 a4 a5 a6 a7 h; exact st _ ih a1 a2 a3 a4 a5 a6 a7 h
def zLp8 {α1 α2 α3 α4 α5 α6 α7 α8 β : Type} (F : (α1 → α2 → α3 → α4 → α5 → α6 → α7 → α8 → Option β) → α1 → α2 → α3 → α4 → α5 → α6 → α7 → α8 → Option β) : Nat → α1 → α2 → α3 → α4 → α5 → α6 → α7 → α8 → Option β
  | 0 => fun _ _ _ _ _ _ _ _ => none
  | n + 1 => fun a1 a2 a3 a4 a5 a6 a7 a8 => F (zLp8 F n) a1 a2 a3 a4 a5 a6 a7 a8
theorem zLp8_ind {α1 α2 α3 α4 α5 α6 α7 α8 β : Type} {F : (α1 → α2 → α3 → α4 → α5 → α6 → α7 → α8 → Option β) → α1 → α2 → α3 → α4 → α5 → α6 → α7 → α8 → Option β} {o : β} {P : α1 → α2 → α3 → α4 → α5 → α6 → α7 → α8 → Prop} (st : ∀ go : α1 → α2 → α3 → α4 → α5 → α6 → α7 → α8 → Option β, (∀ a1 a2 a3 a4 a5 a6 a7 a8, go a1 a2 a3 a4 a5 a6 a7 a8 = some o → P a1 a2 a3 a4 a5 a6 a7 a8) → ∀ a1 a2 a3 a4 a5 a6 a7 a8, F go a1 a2 a3 a4 a5 a6 a7 a8 = some o → P a1 a2 a3 a4 a5 a6 a7 a8) : ∀ (n : Nat) a1 a2 a3 a4 a5 a6 a7 a8, zLp8 F n a1 a2 a3 a4 a5 a6 a7 a8 = some o → P a1 a2 a3 a4 a5 a6 a7 a8 := by
  intro n
  induction n with
  | zero => intro a1 a2 a3 a4 a5 a6 a7 a8 h; cases h
  | succ n ih => intro a1 a2 a3 a4 a5 a6 a7 a8 h; exact st _ ih a1 a2 a3 a4 a5 a6 a7 a8 h
def zLp9 {α1 α2 α3 α4 α5 α6 α7 α8 α9 β : Type} (F : (α1 → α2 → α3 → α4 → α5 → α6 → α7 → α8 → α9 → Option β) → α1 → α2 → α3 → α4 → α5 → α6 → α7 → α8 → α9 → Option β) : Nat → α1 → α2 → α3 → α4 → α5 → α6 → α7 → α8 → α9 → Option β
  | 0 => fun _ _ _ _ _ _ _ _ _ => none
  | n + 1 => fun a1 a2 a3 a4 a5 a6 a7 a8 a9 => F (zLp9 F n) a1 a2 a3 a4 a5 a6 a7 a8 a9
theorem zLp9_ind {α1 α2 α3 α4 α5 α6 α7 α8 α9 β : Type} {F : (α1 → α2 → α3 → α4 → α5 → α6 → α7 → α8 → α9 → Option β) → α1 → α2 → α3 → α4 → α5 → α6 → α7 → α8 → α9 → Option β} {o : β} {P : α1 → α2 → α3 → α4 → α5 → α6 → α7 → α8 → α9 → Prop} (st : ∀ go : α1 → α2 → α3 → α4 → α5 → α6 → α7 → α8 → α9 → Option β, (∀ a1 a2 a3 a4 a5 a6 a7 a8 a9, go a1 a2 a3 a4 a5 a6 a7 a8 a9 = some o → P a1 a2 a3 a4 a5 a6 a7 a8 a9) → ∀ a1 a2 a3 a4 a5 a6 a7 a8 a9, F go a1 a2 a3 a4 a5 a6 a7 a8 a9 = some o → P a1 a2 a3 a4 a5 a6 a7 a8 a9) : ∀ (n : Nat) a1 a2 a3 a4 a5 a6 a7 a8 a9, zLp9 F n a1 a2 a3 a4 a5 a6 a7 a8 a9 = some o → P a1 a2 a3 a4 a5 a6 a7 a8 a9 := by
  intro n
  induction n with
  | zero => intro a1 a2 a3 a4 a5 a6 a7 a8 a9 h; cases h
  | succ n ih => intro a1 a2 a3 a4 a5 a6 a7 a8 a9 h; exact st _ ih a1 a2 a3 a4 a5 a6 a7 a8 a9 h
def zLp10 {α1 α2 α3 α4 α5 α6 α7 α8 α9 α10 β : Type} (F : (α1 → α2 → α3 → α4 → α5 → α6 → α7 → α8 → α9 → α10 → Option β) → α1 → α2 → α3 → α4 → α5 → α6 → α7 → α8 → α9 → α10 → Option β) : Nat → α1 → α2 → α3 → α4 → α5 → α6 → α7 → α8 → α9 → α10 → Option β
  | 0 => fun _ _ _ _ _ _ _ _ _ _ => none
  | n + 1 => fun a1 a2 a3 a4 a5 a6 a7 a8 a9 a10 => F (zLp10 F n) a1 a2 a3 a4 a5 a6 a7 a8 a9 a10
theorem zLp10_ind {α1 α2 α3 α4 α5 α6 α7 α8 α9 α10 β : Type} {F : (α1 → α2 → α3 → α4 → α5 → α6 → α7 → α8 → α9 → α10 → Option β) → α1 → α2 → α3 → α4 → α5 → α6 → α7 → α8 → α9 → α10 → Option β} {o : β} {P : α1 → α2 → α3 → α4 → α5 → α6 → α7 → α8 → α9 → α10 → Prop} (st : ∀ go : α1 → α2 → α3 → α4 → α5 → α6 → α7 → α8 → α9 → α10 → Option β, (∀ a1 a2 a3 a4 a5 a6 a7 a8 a9 a10, go a1 a2 a3 a4 a5 a6 a7 a8 a9 a10 = some o → P a1 a2 a3 a4 a5 a6 a7 a8 a9 a10) → ∀ a1 a2 a3 a4 a5 a6 a7 a8 a9 a10, F go a1 a2 a3 a4 a5 a6 a7 a8 a9 a10 = some o → P a1 a2 a3 a4 a5 a6 a7 a8 a9 a10) : ∀ (n : Nat) a1 a2 a3 a4 a5 a6 a7 a8 a9 a10, zLp10 F n a1 a2 a3 a4 a5 a6 a7 a8 a9 a10 = some o → P a1 a2 a3 a4 a5 a6 a7 a8 a9 a10 := by
  intro n
  induction n with
  | zero => intro a1 a2 a3 a4 a5 a6 a7 a8 a9 a10 h; cases h
  | succ n ih => intro a1 a2 a3 a4 a5 a6 a7 a8 a9 a10 h; exact st _ ih a1 a2 a3 a4 a5 a6 a7 a8 a9 a10 h
def zLp11 {α1 α2 α3 α4 α5 α6 α7 α8 α9 α10 α11 β : Type} (F : (α1 → α2 → α3 → α4 → α5 → α6 → α7 → α8 → α9 → α10 → α11 → Option β) → α1 → α2 → α3 → α4 → α5 → α6 → α7 → α8 → α9 → α10 → α11 → Option β) : Nat → α1 → α2 → α3 → α4 → α5 → α6 → α7 → α8 → α9 → α10 → α11 → Option β
  | 0 => fun _ _ _ _ _ _ _ _ _ _ _ => none
  | n + 1 => fun a1 a2 a3 a4 a5 a6 a7 a8 a9 a10 a11 => F (zLp11 F n) a1 a2 a3 a4 a5 a6 a7 a8 a9 a10 a11
theorem zLp11_ind {α1 α2 α3 α4 α5 α6 α7 α8 α9 α10 α11 β : Type} {F : (α1 → α2 → α3 → α4 → α5 → α6 → α7 → α8 → α9 → α10 → α11 → Option β) → α1 → α2 → α3 → α4 → α5 → α6 → α7 → α8 → α9 → α10 → α11 → Option β} {o : β} {P : α1 → α2 → α3 → α4 → α5 → α6 → α7 → α8 → α9 → α10 → α11 → Prop} (st : ∀ go : α1 → α2 → α3 → α4 → α5 → α6 → α7 → α8 → α9 → α10 → α11 → Option β, (∀ a1 a2 a3 a4 a5 a6 a7 a8 a9 a10 a11, go a1 a2 a3 a4 a5 a6 a7 a8 a9 a10 a11 = some o → P a1 a2 a3 a4 a5 a6 a7 a8 a9 a10 a11) → ∀ a1 a2 a3 a4 a5 a6 a7 a8 a9 a10 a11, F go a1 a2 a3 a4 a5 a6 a7 a8 a9 a10 a11 = some o → P a1 a2 a3 a4 a5 a6 a7 a8 a9 a10 a11) : ∀ (n : Nat) a1 a2 a3 a4 a5 a6 a7 a8 a9 a10 a11, zLp11 F n a1 a2 a3 a4 a5 a6 a7 a8 a9 a10 a11 = some o → P a1 a2 a3 a4 a5 a6 a7 a8 a9 a10 a11 := by
  intro n
  induction n with
  | zero => intro a1 a2 a3 a4 a5 a6 a7 a8 a9 a10 a11 h; cases h
  | succ n ih => intro a1 a2 a3 a4 a5 a6 a7 a8 a9 a10 a11 h; exact st _ ih a1 a2 a3 a4 a5 a6 a7 a8 a9 a10 a11 h
def zLp12 {α1 α2 α3 α4 α5 α6 α7 α8 α9 α10 α11 α12 β : Type} (F : (α1 → α2 → α3 → α4 → α5 → α6 → α7 → α8 → α9 → α10 → α11 → α12 → Option β) → α1 → α2 → α3 → α4 → α5 → α6 → α7 → α8 → α9 → α10 → α11 → α12 → Option β) : Nat → α1 → α2 → α3 → α4 → α5 → α6 → α7 → α8 → α9 → α10 → α11 → α12 → Option β
  | 0 => fun _ _ _ _ _ _ _ _ _ _ _ _ => none
  | n + 1 => fun a1 a2 a3 a4 a5 a6 a7 a8 a9 a10 a11 a12 => F (zLp12 F n) a1 a2 a3 a4 a5 a6 a7 a8 a9 a10 a11 a12
theorem zLp12_ind {α1 α2 α3 α4 α5 α6 α7 α8 α9 α10 α11 α12 β : Type} {F : (α1 → α2 → α3 → α4 → α5 → α6 → α7 → α8 → α9 → α10 → α11 → α12 → Option β) → α1 → α2 → α3 → α4 → α5 → α6 → α7 → α8 → α9 → α10 → α11 → α12 → Option β} {o : β} {P : α1 → α2 → α3 → α4 → α5 → α6 → α7 → α8 → α9 → α10 → α11 → α12 → Prop} (st : ∀ go : α1 → α2 → α3 → α4 → α5 → α6 → α7 → α8 → α9 → α10 → α11 → α12 → Option β, (∀ a1 a2 a3 a4 a5 a6 a7 a8 a9 a10 a11 a12, go a1 a2 a3 a4 a5 a6 a7 a8 a9 a10 a11 a12 = some o → P a1 a2 a3 a4 a5 a6 a7 a8 a9 a10 a11 a12) → ∀ a1 a2 a3 a4 a5 a6 a7 a8 a9 a10 a11 a12, F go a1 a2 a3 a4 a5 a6 a7 a8 a9 a10 a11 a12 = some o → P a1 a2 a3 a4 a5 a6 a7 a8 a9 a10 a11 a12) : ∀ (n : Nat) a1 a2 a3 a4 a5 a6 a7 a8 a9 a10 a11 a12, zLp12 F n a1 a2 a3 a4 a5 a6 a7 a8 a9 a10 a11 a12 = some o → P a1 a2 a3 a4 a5 a6 a7 a8 a9 a10 a11 a12 := by
  intro n
  induction n with
  | zero => intro a1 a2 a3 a4 a5 a6 a7 a8 a9 a10 a11 a12 h; cases h
  | succ n ih => intro a1 a2 a3 a4 a5 a6 a7 a8 a9 a10 a11 a12 h; exact st _ ih a1 a2 a3 a4 a5 a6 a7 a8 a9 a10 a11 a12 h
theorem zfm {α β : Type} {is : List α} {f : α → Option β} {l : List β} (h : is.map f = l.map some) : is.filterMap f = l := by
  have h1 : (is.map f).filterMap id = is.filterMap f := by rw [List.filterMap_map]; rfl
  rw [← h1, h, List.filterMap_map]
  induction l with
  | nil => rfl
  | cons a l _ => simp
abbrev zTy : Type := List (ClassId × FieldType)
def zNF : List (String × Nat × String × String × String × String) := [(RX10, 146, "HalfGatesModel$Program", "blocks", "I", "HalfGatesModel"), (RX10, 149, "HalfGatesModel$Program", "items", "I", "HalfGatesModel"), (RX10, 143, "HalfGatesModel$Program", "ops", "I", "HalfGatesModel"), (RX10, 158, "HalfGatesModel$Program", "nameSize", "[I", "HalfGatesModel"), (RX10, 171, "HalfGatesModel$Program", "often", "[I", "HalfGatesModel"), (RX10, 174, "HalfGatesModel$Program", "lines", "[I", "HalfGatesModel"), (RX10, 161, "HalfGatesModel$Program", "name", "[B", "HalfGatesModel"), (RX10, 192, "HalfGatesModel$Program", "asks", "[I", "HalfGatesModel"), (RX10, 198, "HalfGatesModel$Program", "writes", "[I", "HalfGatesModel"), (RX10, 201, "HalfGatesModel$Program", "from", "[I", "HalfGatesModel"), (RX10, 207, "HalfGatesModel$Program", "to", "[I", "HalfGatesModel"), (RX10, 245, "HalfGatesModel$Program", "sign", "[I", "HalfGatesModel"), (RX10, 251, "HalfGatesModel$Program", "value", "[I", "HalfGatesModel"), (RX10, 92, "HalfGatesModel$Stop", "kind", "I", "HalfGatesModel"), (RX10, 98, "HalfGatesModel$Stop", "place", "I", "HalfGatesModel")]
def zNM : List (String × Nat × MethodName × String) := [(RX7, 11, yX5_init, "HalfGates"), (RX5, 11, yX6_init, "HalfGates"), (RX5, 20, yX4_init, "HalfGates"), (RX7, 18, yX1_init, "HalfGates"), (RX1, 20, yX3_init, "HalfGates"), (RX7, 25, yX2_init, "HalfGates"), (RX2, 38, yX3_init, "HalfGates"), (RX7, 32, yX0_init, "HalfGates"), (RX7, 47, yX4_init, "HalfGates"), (RX10, 24, yX8_init, "HalfGatesModel")]
def zNx (U : State) : Prop := (∀ q ∈ zNF, va_Nw (.fieldLinkNest q.1 q.2.1 q.2.2.1 q.2.2.2.1 q.2.2.2.2.1 q.2.2.2.2.2) U) ∧ ∀ q ∈ zNM, va_Nw (.methodLinkNest q.1 q.2.1 q.2.2.1 q.2.2.2) U
theorem zNx.warm {s U : State} (hW : s.WarmedH U.vm) (h : zNx s) : zNx U := ⟨fun q hq => va_Nw.warmF hW (h.1 q hq), fun q hq => va_Nw.warmM hW (h.2 q hq)⟩
theorem zNx.same {u U : State} (e : u.vm = U.vm) (h : zNx u) : zNx U := ⟨fun q hq => va_Nw.same rfl e (h.1 q hq), fun q hq => va_Nw.same rfl e (h.2 q hq)⟩
def zK (D : va_G) (tys : zTy) (U : State) : Prop := va_K D vwCl tys U ∧ zNx U
theorem zK.warm {D : va_G} {tys : zTy} {s U : State} (hW : s.WarmedH U.vm) (h : zK D tys s) : zK D tys U := ⟨va_K.moved hW.alike h.1, zNx.warm hW h.2⟩
def zPre (D : va_G) (tys : zTy) (av : List Value) (sz : Nat) (w : va_W) : Array Value → State → Prop := va_Pc av (fun U => U.heap.size = sz ∧ va_P D vwCl w U.heap ∧ zK D tys U ∧ va_D (fun _ => True) w)
def zEnd (D : va_G) (tys : zTy) (A : Nat → Prop) (w : va_W) : Unit → State → Prop := fun _ t => va_P D vwCl w t.heap ∧ zK D tys t ∧ va_D A w
abbrev zQi (D : va_G) (tys : zTy) (A : Nat → Prop) (v : Int32) (w : va_W) : Array Value → State → Outcome → State → Prop := va_Qi (fun r (_ : Unit) => r = v) (zEnd D tys A w) A
abbrev zQv (D : va_G) (tys : zTy) (A : Nat → Prop) (w : va_W) : Array Value → State → Outcome → State → Prop := va_Qv (fun _ : Unit => True) (zEnd D tys A w) A
abbrev zMi (l : Launch) (y : MethodName) (ws : List Cond) (rm : Room) (D : va_G) (tys : zTy) (av : List Value) (sz : Nat) (w : va_W) (v : Int32) (w' : va_W) : Prop := Met l y ws rm (zPre D tys av sz w) (zQi D tys (va_A w sz) v w') 0 0 (va_A w sz)
abbrev zMv (l : Launch) (y : MethodName) (ws : List Cond) (rm : Room) (D : va_G) (tys : zTy) (av : List Value) (sz : Nat) (w : va_W) (w' : va_W) : Prop := Met l y ws rm (zPre D tys av sz w) (zQv D tys (va_A w sz) w') 0 0 (va_A w sz)
theorem zPre_blind {D : va_G} {tys : zTy} {av : List Value} {sz : Nat} {w : va_W} : FrameBlind (zPre D tys av sz w) := fun a U g mk q => by
  obtain ⟨q0, q1, qP, qK, qD⟩ := q
  exact ⟨q0, q1, qP, ⟨va_K.moved (u := U) (U := U.calling g mk a) (Vm.Alike.refl U.vm) qK.1, zNx.same (u := U) (U := U.calling g mk a) rfl qK.2⟩, qD⟩
/-- what a method's walk stands on -/
def zCx (p : Program) (m : MethodId) (meth : Method) (c : Code) (cc : ByteArray) (nL : Nat) (ret : Option FieldType) (s : State) (args : Array Value) (Ts : List Cond) (own : String) : Prop := CallFix p m c cc nL s args Ts own ∧ meth.sig.returnType = ret ∧ meth.locks = false
section ZS
variable {l : Launch} {y : MethodName} {ws ws' : List Cond} {rm : Room} {D : va_G} {tys : zTy} {av : List Value} {sz : Nat} {w w' : va_W} {v : Int32} {cc : ByteArray} {maxL : Nat} {ret : Option FieldType} {own : String}
theorem zSt (Qc : (Nat → Prop) → Array Value → State → Outcome → State → Prop) (hy : plainName y.cls = true) (hw2 : ws = Cond.code y cc maxL ret :: lw_g) (ho : y.cls = own) (hlen : (lg_sl av).length ≤ maxL)
    (body : ∀ (p : Program) (e : Env) (s : State) (m : MethodId) (below : List Frame) (meth : Method) (c : Code) (ls : Array Slot) (A : Nat → Prop) (H : Heap) (locs : List Loc), zCx p m meth c cc maxL ret s av.toArray lw_g own → zK D tys s → (∀ q : Nat, s.heap.size ≤ q → A q) → va_P D vwCl w H → va_D A w → va_S A s.heap H locs → lv_has ls maxL (lv_args 0 av) →
      W p l e rm s m av.toArray below meth c H locs 0 0 (MQ below (Qc A) av.toArray s 0 0 A) (F0 m 0 ls [])) : Met l y ws rm (zPre D tys av sz w) (Qc (va_A w sz)) 0 0 (va_A w sz) := by
  refine Met.ofW (cc := cc) (maxL := maxL) (ret := ret) hy hw2 ?_
  intro p e s m args below meth c s₁ B hml hv
  obtain ⟨rfl, hsz, hP, hK, hD0⟩ := hv
  subst hsz
  have hl := lv_entry av (n := maxL) hlen
  rw [lg_entry_eq]
  refine body p e s m below meth c _ (va_A w s.heap.size) s.heap [] ⟨⟨B.exec, B.bytes, hml, ?_, fun w hw => atoms_spec (ws := ws) B.pre w (by rw [hw2]; exact List.mem_cons_of_mem _ hw)⟩, B.returns, B.notSynchronized⟩ hK (fun q h => Or.inr h) hP hD0.self va_S.rf hl
  rw [← ho]
  exact findClass_of_methodNamed B.named
end ZS
section ZE
variable {p : Program} {l : Launch} {e : Env} {R : Room} {s : State} {m : MethodId} {args : Array Value} {below : List Frame} {meth : Method} {c : Code} {H : Heap} {locs : List Loc} {cells slots : Nat} {Q : State → Prop}
variable {D : va_G} {tys : zTy} {w : va_W} {A : Nat → Prop} {H0 : Heap} {cc : ByteArray} {nL pc : Nat} {Ts : List Cond} {own : String} {ls : Array Slot} {rest st : List Value}
theorem zRi {v : Int32} (C : zCx p m meth c cc nL (some .int) s args Ts own) (hK : zK D tys s) (hP : va_P D vwCl w H) (hD : va_D A w) (hS : va_S A s.heap H locs) (hd : decode cc pc = .ok (.ireturn, 1)) : W p l e R s m args below meth c H locs cells slots (MQ below (zQi D tys A v w) args s cells slots A) (F0 m pc ls [.int v]) :=
  W.iret C.1.1 C.1.2.1 C.2.1 (fun t ht hW => ⟨⟨v, (), rfl, rfl, by rw [ht]; exact hP, zK.warm hW hK, hD⟩, hS.F ht⟩) hS.2.2 hd C.2.2
theorem zRz {v : Int32} {ty : FieldType} (C : zCx p m meth c cc nL (some ty) s args Ts own) (hn : narrow ty (.int v) = .int v) (hK : zK D tys s) (hP : va_P D vwCl w H) (hD : va_D A w) (hS : va_S A s.heap H locs) (hd : decode cc pc = .ok (.ireturn, 1)) : W p l e R s m args below meth c H locs cells slots (MQ below (zQi D tys A v w) args s cells slots A) (F0 m pc ls [.int v]) :=
  W.zret C.1.1 C.1.2.1 C.2.1 hn (fun t ht hW => ⟨⟨v, (), rfl, rfl, by rw [ht]; exact hP, zK.warm hW hK, hD⟩, hS.F ht⟩) hS.2.2 hd C.2.2
theorem zRv (C : zCx p m meth c cc nL none s args Ts own) (hK : zK D tys s) (hP : va_P D vwCl w H) (hD : va_D A w) (hS : va_S A s.heap H locs) (hd : decode cc pc = .ok (.return_, 1)) : W p l e R s m args below meth c H locs cells slots (MQ below (zQv D tys A w) args s cells slots A) (F0 m pc ls []) :=
  W.vret C.1.1 C.1.2.1 C.2.1 (fun t ht hW => ⟨⟨(), rfl, trivial, by rw [ht]; exact hP, zK.warm hW hK, hD⟩, hS.F ht⟩) hS.2.2 hd C.2.2
/-- a call's cells: cut out ahead of it, put back behind it -/
theorem zCut {wc : va_W} (hP : va_P D vwCl w H) (hD : va_D A w) (isC : List Nat) (hnC : va_nd isC = true) (hC : isC.map (fun i => w[i]?) = wc.map some) : va_P D vwCl wc H ∧ va_D A wc := ⟨hP.sub isC (zfm hC), hD.sub isC hnC hC⟩
variable {y : MethodName} {bytes : ByteArray} {maxL n index : Nat} {ret : Option FieldType} {ws ws' : List Cond} {rm : Room} {b : Nat} {As : List Value} {wc wc' wr wn : va_W} {v : Int32}
theorem zPs (hK : zK D tys s) (hPc : va_P D vwCl wc H) (hDc : va_D A wc) {vs : List Value} : PreS s H (zPre D tys vs H.size wc) vs := ⟨zPre_blind, fun U hU hW => ⟨rfl, by rw [hU], by rw [hU]; exact hPc, zK.warm hW hK, hDc.weaken (fun _ _ _ _ => trivial)⟩⟩
theorem zPv {Cn : String} {T : u_T} {N ci q0 : Nat} {fs : List Value} (hK : zK D tys s) (hPc : va_P D vwCl wc H) (hDc : va_D A wc) (hq : wc[q0]? = some (b, .inr (ci, fs))) (hcl : vwCl[ci]? = some (Cn, T, N)) {vs : List Value} : PreV s H Cn b (zPre D tys (.ref b :: vs) H.size wc) vs := ⟨zPre_blind, va_recv hK.1 hPc (ci := ci) (q0 := q0) hcl hq, fun U hU hW => ⟨rfl, by rw [hU], by rw [hU]; exact hPc, zK.warm hW hK, hDc.weaken (fun _ _ _ _ => trivial)⟩⟩
theorem zBk {H1 : Heap} {t : State} (isC isR isN : List Nat) (hP : va_P D vwCl w H) (hD : va_D A w) (hC : isC.map (fun i => w[i]?) = wc.map some) (hR : isR.map (fun i => w[i]?) = wr.map some) (hnR : va_nd isR = true) (hdis : ∀ i ∈ isR, i ∉ isC) (hN : isN.map (fun i => (wr ++ wc')[i]?) = wn.map some) (hnN : va_nd isN = true)
    (ht : t.heap = H1) (hk : ∀ q : Nat, q < H.size → ¬ va_A wc H.size q → H1[q]? = H[q]?) (hF : ∀ q, va_A wc H.size q → A q) (hB : zEnd D tys (va_A wc H.size) wc' () t) : va_P D vwCl wn H1 ∧ va_D A wn := by
  obtain ⟨hP1, -, hD1⟩ := hB
  rw [ht] at hP1
  obtain ⟨hP2, hD2⟩ := va_join (wr := wr) (w1 := wc') hP hD isC isR hC hR hnR hdis hk hF hP1 hD1
  exact ⟨hP2.sub isN (zfm hN), hD2.sub isN hnN hN⟩

theorem zCVi {Cn : String} {T : u_T} {N ci : Nat} {fs : List Value} (C : CallFix p m c cc nL s args Ts own) (hK : zK D tys s) (hA : ∀ q : Nat, H0.size ≤ q → A q) (hP : va_P D vwCl w H) (hD : va_D A w) (hS : va_S A H0 H locs) (isC isR isN : List Nat) (q0 : Nat) (hM : zMi l y ws rm D tys (.ref b :: As) H.size wc v wc') (cw : CallW R s args own Cn index y bytes maxL ret ws rm 0 0 n) (hC : isC.map (fun i => w[i]?) = wc.map some) (hR : isR.map (fun i => w[i]?) = wr.map some) (hb : (va_nd isC && va_nd isR && va_nd isN && isR.all (fun i => !isC.contains i)) = true) (hN : isN.map (fun i => (wr ++ wc')[i]?) = wn.map some) (hq : wc[q0]? = some (b, .inr (ci, fs))) (hcl : vwCl[ci]? = some (Cn, T, N))
    (hn : As.length = n) (hsize : ls.size = nL) (hroom : (rest.map fun v => v.category).sum ≤ 8) (hdg : decode cc pc = .ok (.invokevirtual index, 3)) (hfit : cells ≤ R.cells ∧ slots ≤ R.slots) (hst : st = As.reverse ++ .ref b :: rest) (kk : ∀ (H1 : Heap) (locs1 : List Loc), va_P D vwCl wn H1 → va_D A wn → va_S A H0 H1 locs1 → W p l e R s m args below meth c H1 locs1 cells slots Q (F0 m (pc + 3) ls (.int v :: rest))) : W p l e R s m args below meth c H locs cells slots Q (F0 m pc ls st) := by
  subst hst
  simp only [Bool.and_eq_true, List.all_eq_true, Bool.not_eq_true', List.contains_eq_mem, decide_eq_false_iff_not] at hb
  obtain ⟨⟨⟨hb1, hb2⟩, hb3⟩, hb4⟩ := hb
  obtain ⟨hPc, hDc⟩ := zCut hP hD isC hb1 hC
  have hFc := va_free (wc := wc) hD hS hA isC hC
  refine va_calli (va_runV (As := As) (rest := rest) C hM cw (zPv (q0 := q0) hK hPc hDc hq hcl) rfl hn hsize rfl (lv_room hroom) hdg hfit) hS (fun q _ h => hFc q h) hFc (fun r u t H1 locs1 ht hvm hw hB hz1 hk1 hS1 => ?_)
  obtain ⟨h1, h2⟩ := zBk (tys := tys) (t := t) isC isR isN hP hD hC hR hb2 hb4 hN hb3 ht hk1 hFc hB
  rw [hw]
  exact kk H1 locs1 h1 h2 hS1

theorem zCVv {Cn : String} {T : u_T} {N ci : Nat} {fs : List Value} (C : CallFix p m c cc nL s args Ts own) (hK : zK D tys s) (hA : ∀ q : Nat, H0.size ≤ q → A q) (hP : va_P D vwCl w H) (hD : va_D A w) (hS : va_S A H0 H locs) (isC isR isN : List Nat) (q0 : Nat) (hM : zMv l y ws rm D tys (.ref b :: As) H.size wc wc') (cw : CallW R s args own Cn index y bytes maxL ret ws rm 0 0 n) (hC : isC.map (fun i => w[i]?) = wc.map some) (hR : isR.map (fun i => w[i]?) = wr.map some) (hb : (va_nd isC && va_nd isR && va_nd isN && isR.all (fun i => !isC.contains i)) = true) (hN : isN.map (fun i => (wr ++ wc')[i]?) = wn.map some) (hq : wc[q0]? = some (b, .inr (ci, fs))) (hcl : vwCl[ci]? = some (Cn, T, N))
    (hn : As.length = n) (hsize : ls.size = nL) (hroom : (rest.map fun v => v.category).sum ≤ 8) (hdg : decode cc pc = .ok (.invokevirtual index, 3)) (hfit : cells ≤ R.cells ∧ slots ≤ R.slots) (hst : st = As.reverse ++ .ref b :: rest) (kk : ∀ (H1 : Heap) (locs1 : List Loc), va_P D vwCl wn H1 → va_D A wn → va_S A H0 H1 locs1 → W p l e R s m args below meth c H1 locs1 cells slots Q (F0 m (pc + 3) ls (rest))) : W p l e R s m args below meth c H locs cells slots Q (F0 m pc ls st) := by
  subst hst
  simp only [Bool.and_eq_true, List.all_eq_true, Bool.not_eq_true', List.contains_eq_mem, decide_eq_false_iff_not] at hb
  obtain ⟨⟨⟨hb1, hb2⟩, hb3⟩, hb4⟩ := hb
  obtain ⟨hPc, hDc⟩ := zCut hP hD isC hb1 hC
  have hFc := va_free (wc := wc) hD hS hA isC hC
  refine va_callv (va_runV (As := As) (rest := rest) C hM cw (zPv (q0 := q0) hK hPc hDc hq hcl) rfl hn hsize rfl (lv_room hroom) hdg hfit) hS (fun q _ h => hFc q h) hFc (fun u t H1 locs1 ht hvm hw hB hz1 hk1 hS1 => ?_)
  obtain ⟨h1, h2⟩ := zBk (tys := tys) (t := t) isC isR isN hP hD hC hR hb2 hb4 hN hb3 ht hk1 hFc hB
  exact kk H1 locs1 h1 h2 hS1

theorem zCSi (C : CallFix p m c cc nL s args Ts own) (hK : zK D tys s) (hA : ∀ q : Nat, H0.size ≤ q → A q) (hP : va_P D vwCl w H) (hD : va_D A w) (hS : va_S A H0 H locs) (isC isR isN : List Nat) (hM : zMi l y ws rm D tys As H.size wc v wc') (cw : CallB R s args own index y bytes maxL ret ws rm 0 0 n ∧ (Cond.static y).before args s = true) (hC : isC.map (fun i => w[i]?) = wc.map some) (hR : isR.map (fun i => w[i]?) = wr.map some) (hb : (va_nd isC && va_nd isR && va_nd isN && isR.all (fun i => !isC.contains i)) = true) (hN : isN.map (fun i => (wr ++ wc')[i]?) = wn.map some)
    (hn : As.length = n) (hsize : ls.size = nL) (hroom : (rest.map fun v => v.category).sum ≤ 8) (hdg : decode cc pc = .ok (.invokestatic index, 3)) (hfit : cells ≤ R.cells ∧ slots ≤ R.slots) (hst : st = As.reverse ++ rest) (kk : ∀ (H1 : Heap) (locs1 : List Loc), va_P D vwCl wn H1 → va_D A wn → va_S A H0 H1 locs1 → W p l e R s m args below meth c H1 locs1 cells slots Q (F0 m (pc + 3) ls (.int v :: rest))) : W p l e R s m args below meth c H locs cells slots Q (F0 m pc ls st) := by
  subst hst
  simp only [Bool.and_eq_true, List.all_eq_true, Bool.not_eq_true', List.contains_eq_mem, decide_eq_false_iff_not] at hb
  obtain ⟨⟨⟨hb1, hb2⟩, hb3⟩, hb4⟩ := hb
  obtain ⟨hPc, hDc⟩ := zCut hP hD isC hb1 hC
  have hFc := va_free (wc := wc) hD hS hA isC hC
  refine va_calli (va_runS (As := As) (rest := rest) C hM cw (zPs hK hPc hDc) rfl hn hsize rfl (lv_room hroom) hdg hfit) hS (fun q _ h => hFc q h) hFc (fun r u t H1 locs1 ht hvm hw hB hz1 hk1 hS1 => ?_)
  obtain ⟨h1, h2⟩ := zBk (tys := tys) (t := t) isC isR isN hP hD hC hR hb2 hb4 hN hb3 ht hk1 hFc hB
  rw [hw]
  exact kk H1 locs1 h1 h2 hS1

theorem zCSv (C : CallFix p m c cc nL s args Ts own) (hK : zK D tys s) (hA : ∀ q : Nat, H0.size ≤ q → A q) (hP : va_P D vwCl w H) (hD : va_D A w) (hS : va_S A H0 H locs) (isC isR isN : List Nat) (hM : zMv l y ws rm D tys As H.size wc wc') (cw : CallB R s args own index y bytes maxL ret ws rm 0 0 n ∧ (Cond.static y).before args s = true) (hC : isC.map (fun i => w[i]?) = wc.map some) (hR : isR.map (fun i => w[i]?) = wr.map some) (hb : (va_nd isC && va_nd isR && va_nd isN && isR.all (fun i => !isC.contains i)) = true) (hN : isN.map (fun i => (wr ++ wc')[i]?) = wn.map some)
    (hn : As.length = n) (hsize : ls.size = nL) (hroom : (rest.map fun v => v.category).sum ≤ 8) (hdg : decode cc pc = .ok (.invokestatic index, 3)) (hfit : cells ≤ R.cells ∧ slots ≤ R.slots) (hst : st = As.reverse ++ rest) (kk : ∀ (H1 : Heap) (locs1 : List Loc), va_P D vwCl wn H1 → va_D A wn → va_S A H0 H1 locs1 → W p l e R s m args below meth c H1 locs1 cells slots Q (F0 m (pc + 3) ls (rest))) : W p l e R s m args below meth c H locs cells slots Q (F0 m pc ls st) := by
  subst hst
  simp only [Bool.and_eq_true, List.all_eq_true, Bool.not_eq_true', List.contains_eq_mem, decide_eq_false_iff_not] at hb
  obtain ⟨⟨⟨hb1, hb2⟩, hb3⟩, hb4⟩ := hb
  obtain ⟨hPc, hDc⟩ := zCut hP hD isC hb1 hC
  have hFc := va_free (wc := wc) hD hS hA isC hC
  refine va_callv (va_runS (As := As) (rest := rest) C hM cw (zPs hK hPc hDc) rfl hn hsize rfl (lv_room hroom) hdg hfit) hS (fun q _ h => hFc q h) hFc (fun u t H1 locs1 ht hvm hw hB hz1 hk1 hS1 => ?_)
  obtain ⟨h1, h2⟩ := zBk (tys := tys) (t := t) isC isR isN hP hD hC hR hb2 hb4 hN hb3 ht hk1 hFc hB
  exact kk H1 locs1 h1 h2 hS1

theorem zCwV {Cn : String} (n : Nat) (C : CallFix p m c cc nL s args lw_g own) (hl : Cond.methodLink own index y ∈ lw_g) (hi : Cond.instanceMethod y ∈ lw_g) (hs : Cond.selects Cn y y ∈ lw_g) (hn : Cond.initialized y.cls ∈ lw_g) (hk : Cond.code y bytes maxL ret ∈ lw_g) (hc : rm.cells = 0) (hsl : rm.slots = 0)
    (hd : y.cls ≠ "java/lang/invoke/MethodHandle" ∧ y.cls ≠ "java/lang/invoke/VarHandle" ∧ (parseMethodDescriptor y.desc).map (fun d => d.parameters.length) = some n) (hR : rm.frames + 1 ≤ R.frames ∧ 8 + (maxL + 11) + rm.locals ≤ R.locals) : CallW R s args own Cn index y bytes maxL ret (Cond.code y bytes maxL ret :: lw_g) rm 0 0 n :=
  ⟨callB_of n C.2.2.2.2 (wIn hk) rfl hc hsl (C.2.2.2.2 _ hn) (C.2.2.2.2 _ hl) hd hR, C.2.2.2.2 _ hi, C.2.2.2.2 _ hs⟩
theorem zCwS (n : Nat) (C : CallFix p m c cc nL s args lw_g own) (hl : Cond.methodLink own index y ∈ lw_g) (ht : Cond.static y ∈ lw_g) (hn : Cond.initialized y.cls ∈ lw_g) (hk : Cond.code y bytes maxL ret ∈ lw_g) (hc : rm.cells = 0) (hsl : rm.slots = 0)
    (hd : y.cls ≠ "java/lang/invoke/MethodHandle" ∧ y.cls ≠ "java/lang/invoke/VarHandle" ∧ (parseMethodDescriptor y.desc).map (fun d => d.parameters.length) = some n) (hR : rm.frames + 1 ≤ R.frames ∧ 8 + (maxL + 11) + rm.locals ≤ R.locals) : CallB R s args own index y bytes maxL ret (Cond.code y bytes maxL ret :: lw_g) rm 0 0 n ∧ (Cond.static y).before args s = true :=
  ⟨callB_of n C.2.2.2.2 (wIn hk) rfl hc hsl (C.2.2.2.2 _ hn) (C.2.2.2.2 _ hl) hd hR, C.2.2.2.2 _ ht⟩
variable {a : Nat}
theorem zPut {C : String} {T : u_T} {N ci : Nat} {fs : List Value} {ty : FieldType} {vv : Value} (w' : va_W) (C0 : CallFix p m c cc nL s args lw_g own) (hin : ∀ w ∈ u_ws C T N, w ∈ lw_g) (ty0 : Nat → FieldType) (hty : ∀ k, k < N → parseFieldDescriptor (T k).2.2.1 = some (ty0 k)) (hnm : ∀ a, a < N → ∀ b, b < N → a ≠ b → (T a).2.1 ≠ (T b).2.1) (hK : zK D tys s) (hP : va_P D vwCl w H) (hD : va_D A w) (hS0 : va_S A H0 H locs) (q0 : Nat) (he : w[q0]? = some (a, .inr (ci, fs))) (hc : vwCl[ci]? = some (C, T, N)) (k : Nat) (hk : k < N) {ref : String} (hlink : Cond.fieldLink own index ref (T k).2.1 (T k).2.2.1 ∈ lw_g) (hsame : (T k).1 = ref) (hfin : (T k).2.2.2 = false) (hd : parseFieldDescriptor (T k).2.2.1 = some ty) (hn : narrow ty vv = vv) (hfit : fits ty vv = true) (hl : k < fs.length)
    (hdg : decode cc pc = .ok (.putfield index, 3)) (hw : w.set q0 (a, .inr (ci, fs.set k vv)) = w') (kk : ∀ (H1 : Heap) (locs1 : List Loc), va_P D vwCl w' H1 → va_D A w' → va_S A H0 H1 locs1 → W p l e R s m args below meth c H1 locs1 cells slots Q (F0 m (pc + 3) ls rest)) : W p l e R s m args below meth c H locs cells slots Q (F0 m pc ls (vv :: .ref a :: rest)) := by
  subst hw
  exact va_put C0.1 C0.2.1 C0.2.2.2.2 hin ty0 hty hnm C0.2.2.2.1 hK.1 hP hD hS0 q0 he hc k hk (C0.2.2.2.2 _ hlink) (fun x h => by rw [← hsame]; exact h) hfin hd hn hfit hl hdg kk
theorem zGet {C : String} {T : u_T} {N ci : Nat} {fs : List Value} (vv : Value) (C0 : CallFix p m c cc nL s args lw_g own) (hin : ∀ w ∈ u_ws C T N, w ∈ lw_g) (hK : zK D tys s) (hP : va_P D vwCl w H) (q0 : Nat) (he : w[q0]? = some (a, .inr (ci, fs))) (hc : vwCl[ci]? = some (C, T, N)) (k : Nat) (hk : k < N) {ref : String} (hlink : Cond.fieldLink own index ref (T k).2.1 (T k).2.2.1 ∈ lw_g) (hsame : (T k).1 = ref) (hv : fs[k]? = some vv)
    (hdg : decode cc pc = .ok (.getfield index, 3)) (kk : W p l e R s m args below meth c H locs cells slots Q (F0 m (pc + 3) ls (vv :: rest))) : W p l e R s m args below meth c H locs cells slots Q (F0 m pc ls (.ref a :: rest)) :=
  va_get C0.1 C0.2.1 C0.2.2.2.2 hin C0.2.2.2.1 hK.1 hP q0 he hc k hk (C0.2.2.2.2 _ hlink) (fun x h => by rw [← hsame]; exact h) hv hdg kk
theorem zPutN {C : String} {T : u_T} {N ci : Nat} {fs : List Value} {ty : FieldType} {vv : Value} (w' : va_W) (C0 : CallFix p m c cc nL s args lw_g own) (hin : ∀ w ∈ u_ws C T N, w ∈ lw_g) (ty0 : Nat → FieldType) (hty : ∀ k, k < N → parseFieldDescriptor (T k).2.2.1 = some (ty0 k)) (hnm : ∀ a, a < N → ∀ b, b < N → a ≠ b → (T a).2.1 ≠ (T b).2.1) (hK : zK D tys s) (hP : va_P D vwCl w H) (hD : va_D A w) (hS0 : va_S A H0 H locs) (q0 : Nat) (he : w[q0]? = some (a, .inr (ci, fs))) (hc : vwCl[ci]? = some (C, T, N)) (k : Nat) (hk : k < N) {ref host : String} (hlink : (own, index, ref, (T k).2.1, (T k).2.2.1, host) ∈ zNF) (hsame : (T k).1 = ref) (hfin : (T k).2.2.2 = false) (hd : parseFieldDescriptor (T k).2.2.1 = some ty) (hn : narrow ty vv = vv) (hfit : fits ty vv = true) (hl : k < fs.length)
    (hdg : decode cc pc = .ok (.putfield index, 3)) (hw : w.set q0 (a, .inr (ci, fs.set k vv)) = w') (kk : ∀ (H1 : Heap) (locs1 : List Loc), va_P D vwCl w' H1 → va_D A w' → va_S A H0 H1 locs1 → W p l e R s m args below meth c H1 locs1 cells slots Q (F0 m (pc + 3) ls rest)) : W p l e R s m args below meth c H locs cells slots Q (F0 m pc ls (vv :: .ref a :: rest)) := by
  subst hw
  exact va_putN C0.1 C0.2.1 C0.2.2.2.2 hin ty0 hty hnm C0.2.2.2.1 hK.1 hP hD hS0 q0 he hc k hk (va_Nw.use rfl (hK.2.1 _ hlink)) (fun x h => by rw [← hsame]; exact h) hfin hd hn hfit hl hdg kk
theorem zGetN {C : String} {T : u_T} {N ci : Nat} {fs : List Value} (vv : Value) (C0 : CallFix p m c cc nL s args lw_g own) (hin : ∀ w ∈ u_ws C T N, w ∈ lw_g) (hK : zK D tys s) (hP : va_P D vwCl w H) (q0 : Nat) (he : w[q0]? = some (a, .inr (ci, fs))) (hc : vwCl[ci]? = some (C, T, N)) (k : Nat) (hk : k < N) {ref host : String} (hlink : (own, index, ref, (T k).2.1, (T k).2.2.1, host) ∈ zNF) (hsame : (T k).1 = ref) (hv : fs[k]? = some vv)
    (hdg : decode cc pc = .ok (.getfield index, 3)) (kk : W p l e R s m args below meth c H locs cells slots Q (F0 m (pc + 3) ls (vv :: rest))) : W p l e R s m args below meth c H locs cells slots Q (F0 m pc ls (.ref a :: rest)) :=
  va_getN C0.1 C0.2.1 C0.2.2.2.2 hin C0.2.2.2.1 hK.1 hP q0 he hc k hk (va_Nw.use rfl (hK.2.1 _ hlink)) (fun x h => by rw [← hsame]; exact h) hv hdg kk
theorem zIast {cA : ClassId} {N : Nat} {f : Nat → Int32} {i x : Int32} (w' : va_W) (C0 : CallFix p m c cc nL s args lw_g own) (hK : zK D tys s) (hP : va_P D vwCl w H) (hD : va_D A w) (hS : va_S A H0 H locs) (q0 t0 : Nat) (ha : w[q0]? = some (a, .inl (cA, N, .inl f))) (ht : tys[t0]? = some (cA, .int)) (hin : inb i N) (hdg : decode cc pc = .ok (.iastore, 1)) (hw : w.set q0 (a, .inl (cA, N, .inl (upd f i.toNatClampNeg x))) = w')
    (kk : ∀ (H1 : Heap) (locs1 : List Loc), va_P D vwCl w' H1 → va_D A w' → va_S A H0 H1 locs1 → W p l e R s m args below meth c H1 locs1 cells slots Q (F0 m (pc + 1) ls rest)) : W p l e R s m args below meth c H locs cells slots Q (F0 m pc ls (.int x :: .int i :: .ref a :: rest)) := by
  subst hw
  exact va_iast C0.1 C0.2.1 hK.1 hP hD hS q0 t0 ha ht hin hdg kk
theorem zBast {cA : ClassId} {N : Nat} {f : Nat → Int32} {i x : Int32} (w' : va_W) (C0 : CallFix p m c cc nL s args lw_g own) (hK : zK D tys s) (hP : va_P D vwCl w H) (hD : va_D A w) (hS : va_S A H0 H locs) (q0 t0 : Nat) (ha : w[q0]? = some (a, .inl (cA, N, .inl f))) (ht : tys[t0]? = some (cA, .byte)) (hin : inb i N) (hdg : decode cc pc = .ok (.bastore, 1)) (hw : w.set q0 (a, .inl (cA, N, .inl (upd f i.toNatClampNeg (vp_nar .byte x)))) = w')
    (kk : ∀ (H1 : Heap) (locs1 : List Loc), va_P D vwCl w' H1 → va_D A w' → va_S A H0 H1 locs1 → W p l e R s m args below meth c H1 locs1 cells slots Q (F0 m (pc + 1) ls rest)) : W p l e R s m args below meth c H locs cells slots Q (F0 m pc ls (.int x :: .int i :: .ref a :: rest)) := by
  subst hw
  exact va_bast C0.1 C0.2.1 hK.1 hP hD hS q0 t0 ha ht hin hdg kk
end ZE
theorem nfX10_146 : ((RX10, 146, "HalfGatesModel$Program", "blocks", "I", "HalfGatesModel") : String × Nat × String × String × String × String) ∈ zNF := by decide +kernel
theorem nfX10_149 : ((RX10, 149, "HalfGatesModel$Program", "items", "I", "HalfGatesModel") : String × Nat × String × String × String × String) ∈ zNF := by decide +kernel
theorem nfX10_143 : ((RX10, 143, "HalfGatesModel$Program", "ops", "I", "HalfGatesModel") : String × Nat × String × String × String × String) ∈ zNF := by decide +kernel
theorem nfX10_158 : ((RX10, 158, "HalfGatesModel$Program", "nameSize", "[I", "HalfGatesModel") : String × Nat × String × String × String × String) ∈ zNF := by decide +kernel
theorem nfX10_171 : ((RX10, 171, "HalfGatesModel$Program", "often", "[I", "HalfGatesModel") : String × Nat × String × String × String × String) ∈ zNF := by decide +kernel
theorem nfX10_174 : ((RX10, 174, "HalfGatesModel$Program", "lines", "[I", "HalfGatesModel") : String × Nat × String × String × String × String) ∈ zNF := by decide +kernel
theorem nfX10_161 : ((RX10, 161, "HalfGatesModel$Program", "name", "[B", "HalfGatesModel") : String × Nat × String × String × String × String) ∈ zNF := by decide +kernel
theorem nfX10_192 : ((RX10, 192, "HalfGatesModel$Program", "asks", "[I", "HalfGatesModel") : String × Nat × String × String × String × String) ∈ zNF := by decide +kernel
theorem nfX10_198 : ((RX10, 198, "HalfGatesModel$Program", "writes", "[I", "HalfGatesModel") : String × Nat × String × String × String × String) ∈ zNF := by decide +kernel
theorem nfX10_201 : ((RX10, 201, "HalfGatesModel$Program", "from", "[I", "HalfGatesModel") : String × Nat × String × String × String × String) ∈ zNF := by decide +kernel
theorem nfX10_207 : ((RX10, 207, "HalfGatesModel$Program", "to", "[I", "HalfGatesModel") : String × Nat × String × String × String × String) ∈ zNF := by decide +kernel
theorem nfX10_245 : ((RX10, 245, "HalfGatesModel$Program", "sign", "[I", "HalfGatesModel") : String × Nat × String × String × String × String) ∈ zNF := by decide +kernel
theorem nfX10_251 : ((RX10, 251, "HalfGatesModel$Program", "value", "[I", "HalfGatesModel") : String × Nat × String × String × String × String) ∈ zNF := by decide +kernel
theorem nfX10_92 : ((RX10, 92, "HalfGatesModel$Stop", "kind", "I", "HalfGatesModel") : String × Nat × String × String × String × String) ∈ zNF := by decide +kernel
theorem nfX10_98 : ((RX10, 98, "HalfGatesModel$Stop", "place", "I", "HalfGatesModel") : String × Nat × String × String × String × String) ∈ zNF := by decide +kernel
theorem nmX7_11 : ((RX7, 11, yX5_init, "HalfGates") : String × Nat × MethodName × String) ∈ zNM := by decide +kernel
theorem nmX5_11 : ((RX5, 11, yX6_init, "HalfGates") : String × Nat × MethodName × String) ∈ zNM := by decide +kernel
theorem nmX5_20 : ((RX5, 20, yX4_init, "HalfGates") : String × Nat × MethodName × String) ∈ zNM := by decide +kernel
theorem nmX7_18 : ((RX7, 18, yX1_init, "HalfGates") : String × Nat × MethodName × String) ∈ zNM := by decide +kernel
theorem nmX1_20 : ((RX1, 20, yX3_init, "HalfGates") : String × Nat × MethodName × String) ∈ zNM := by decide +kernel
theorem nmX7_25 : ((RX7, 25, yX2_init, "HalfGates") : String × Nat × MethodName × String) ∈ zNM := by decide +kernel
theorem nmX2_38 : ((RX2, 38, yX3_init, "HalfGates") : String × Nat × MethodName × String) ∈ zNM := by decide +kernel
theorem nmX7_32 : ((RX7, 32, yX0_init, "HalfGates") : String × Nat × MethodName × String) ∈ zNM := by decide +kernel
theorem nmX7_47 : ((RX7, 47, yX4_init, "HalfGates") : String × Nat × MethodName × String) ∈ zNM := by decide +kernel
theorem nmX10_24 : ((RX10, 24, yX8_init, "HalfGatesModel") : String × Nat × MethodName × String) ∈ zNM := by decide +kernel
