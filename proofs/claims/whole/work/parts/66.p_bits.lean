/-! own part (pure): bits; what is fresh -/
def bt (x : Int32) (i : Nat) : Bool := x.toBitVec.getLsbD i
theorem bt_ext {x y : Int32} (h : ∀ i, i < 32 → bt x i = bt y i) : x = y := Int32.toBitVec_inj.mp (BitVec.eq_of_getLsbD_eq (fun i hi => h i hi))
theorem bt_and (x y : Int32) (i : Nat) : bt (x &&& y) i = (bt x i && bt y i) := by
  unfold bt; rw [Int32.toBitVec_and, BitVec.getLsbD_and]
theorem bt_or (x y : Int32) (i : Nat) : bt (x ||| y) i = (bt x i || bt y i) := by
  unfold bt; rw [Int32.toBitVec_or, BitVec.getLsbD_or]
theorem bt_xor (x y : Int32) (i : Nat) : bt (x ^^^ y) i = (bt x i ^^ bt y i) := by
  unfold bt; rw [Int32.toBitVec_xor, BitVec.getLsbD_xor]
theorem bt_m1 {i : Nat} (hi : i < 32) : bt (-1) i = true := by
  have : ∀ i, i < 32 → bt (-1) i = true := by decide +kernel
  exact this i hi
theorem bt_not (x : Int32) {i : Nat} (hi : i < 32) : bt (x ^^^ (-1)) i = !bt x i := by
  rw [bt_xor, bt_m1 hi, Bool.xor_true]
theorem bt_255 {i : Nat} (hi : i < 32) : bt 255 i = decide (i < 8) := by
  have : ∀ i, i < 32 → bt 255 i = decide (i < 8) := by decide +kernel
  exact this i hi
theorem bt_65535 {i : Nat} (hi : i < 32) : bt 65535 i = decide (i < 16) := by
  have : ∀ i, i < 32 → bt 65535 i = decide (i < 16) := by decide +kernel
  exact this i hi
theorem bt_0 (i : Nat) : bt 0 i = false := by
  unfold bt; exact BitVec.getLsbD_zero
def B8 (x : Int32) : Prop := ∀ i, 8 ≤ i → i < 32 → bt x i = false
theorem B8_and {x y : Int32} (h : B8 x) : B8 (x &&& y) := fun i a b => by rw [bt_and, h i a b]; rfl
theorem B8_or {x y : Int32} (h : B8 x) (h' : B8 y) : B8 (x ||| y) := fun i a b => by rw [bt_or, h i a b, h' i a b]; rfl
theorem B8_0 : B8 0 := fun i _ _ => bt_0 i
theorem B8_255 : B8 255 := fun i a b => by rw [bt_255 b]; exact decide_eq_false (by omega)
theorem B8_k {x : Int32} (h : B8 x) : ∃ k, k < 256 ∧ x = nI k := by
  obtain ⟨j, j1, j2⟩ := pk_andE x (m := 255) 8 (by decide)
  refine ⟨j, j1, ?_⟩
  rw [← j2]
  apply bt_ext
  intro i hi
  rw [bt_and, bt_255 hi]
  by_cases c : i < 8
  · rw [decide_eq_true c, Bool.and_true]
  · rw [h i (by omega) hi]; rfl
theorem B8_sh {v : Nat} (h : v < 8) : B8 ((1 : Int32) <<< (nI v &&& 31)) := by
  have : ∀ v, v < 8 → ∀ i, i < 32 → 8 ≤ i → bt ((1 : Int32) <<< (nI v &&& 31)) i = false := by decide +kernel
  exact fun i a b => this v h i b a
theorem mul257 {k : Nat} (h : k < 256) : nI k * 257 = nI k ||| (nI k <<< (8 : Int32)) := byteAll (P := fun k => nI k * 257 = nI k ||| (nI k <<< (8 : Int32))) (by decide +kernel) h
theorem bt_shl8 (x : Int32) {i : Nat} (hi : i < 32) : bt (x <<< (8 : Int32)) i = (decide (8 ≤ i) && bt x (i - 8)) := by
  unfold bt
  have e : (x <<< (8 : Int32)).toBitVec = x.toBitVec <<< 8 := rfl
  rw [e, BitVec.getLsbD_shiftLeft]
  by_cases c : 8 ≤ i
  · simp [hi, c, show ¬ i < 8 by omega]
  · simp [hi, c, show i < 8 by omega]
theorem bt_shr8 (x : Int32) {i : Nat} (hi : i < 8) : bt (x >>> (8 : Int32)) i = bt x (i + 8) := by
  unfold bt
  have e : (x >>> (8 : Int32)).toBitVec = x.toBitVec.sshiftRight 8 := rfl
  rw [e, BitVec.getLsbD_sshiftRight]
  simp [show ¬ 32 ≤ i by omega, show 8 + i < 32 by omega, Nat.add_comm]
  intro h; omega
theorem bt_257lo {x : Int32} (h : B8 x) {i : Nat} (hi : i < 8) : bt (x * 257) i = bt x i := by
  obtain ⟨k, k1, rfl⟩ := B8_k h
  rw [mul257 k1, bt_or, bt_shl8 _ (by omega)]
  simp [show ¬ 8 ≤ i by omega]
theorem bt_257hi {x : Int32} (h : B8 x) {i : Nat} (hi : i < 8) : bt (x * 257) (i + 8) = bt x i := by
  have h8 := h (i + 8) (by omega) (by omega)
  obtain ⟨k, k1, rfl⟩ := B8_k h
  rw [mul257 k1, bt_or, bt_shl8 _ (by omega), h8]
  simp
/-- the class's one number of what is fresh, and the reference's two -/
def FR (fr f0 f1 : Int32) : Prop := B8 f0 ∧ B8 f1 ∧ ∀ i, i < 8 → bt fr i = bt f0 i ∧ bt fr (i + 8) = bt f1 i ∧ (bt f0 i || bt f1 i) = true
theorem FR_0 : FR 65535 255 255 := ⟨B8_255, B8_255, fun i hi => by
  rw [bt_65535 (by omega), bt_65535 (by omega), bt_255 (by omega), decide_eq_true (show i < 16 by omega), decide_eq_true (show i + 8 < 16 by omega), decide_eq_true hi]
  exact ⟨rfl, rfl, rfl⟩⟩
def lk (fr r s : Int32) : Int32 := (r &&& ((fr >>> ((s * (8 : Int32)) &&& 31)) ^^^ (-1 : Int32))) &&& (255 : Int32)
theorem lk6 (fr r s : Int32) : fX0_lacking fr r s = some (lk fr r s) := rfl
theorem sh0 : (nI 0 * (8 : Int32)) &&& 31 = 0 := by decide
theorem sh1 : (nI 1 * (8 : Int32)) &&& 31 = 8 := by decide
theorem shr0 (x : Int32) : x >>> (0 : Int32) = x := by
  have := sb_shr0 x
  rw [show ((0 : Int32) &&& 31) = 0 by decide] at this
  exact this
theorem shl0 (x : Int32) : x <<< (0 : Int32) = x := by
  have := sb_shl0 x
  rw [show ((0 : Int32) &&& 31) = 0 by decide] at this
  exact this
theorem lk_0 {fr f0 f1 r : Int32} (h : FR fr f0 f1) (hr : B8 r) : lk fr r (nI 0) = r &&& (f0 ^^^ (-1)) := by
  apply bt_ext
  intro i hi
  unfold lk
  rw [sh0, shr0, bt_and, bt_and, bt_and, bt_not _ hi, bt_not _ hi, bt_255 hi]
  by_cases c : i < 8
  · rw [(h.2.2 i c).1, decide_eq_true c, Bool.and_true]
  · rw [hr i (by omega) hi]; rfl
theorem lk_1 {fr f0 f1 r : Int32} (h : FR fr f0 f1) (hr : B8 r) : lk fr r (nI 1) = r &&& (f1 ^^^ (-1)) := by
  apply bt_ext
  intro i hi
  unfold lk
  rw [sh1, bt_and, bt_and, bt_and, bt_not _ hi, bt_not _ hi, bt_255 hi]
  by_cases c : i < 8
  · rw [bt_shr8 _ c, (h.2.2 i c).2.1, decide_eq_true c, Bool.and_true]
  · rw [hr i (by omega) hi]; rfl
def fb (fr r w s : Int32) : Int32 := ((fr ||| (lk fr r s * (257 : Int32))) &&& ((w * (257 : Int32)) ^^^ (-1 : Int32))) ||| (w <<< ((s * (8 : Int32)) &&& 31))
theorem fb6 {oE : Rc} {fr s : Int32} {b : Nat} (hb : b < 12) : fX0_freshBehind oE fr (nI b) s = some (fb fr (oE 5 b) (oE 6 b) s) := by
  unfold fX0_freshBehind fb
  simp (disch := omega) only [zGd_in, nIc, lk6, zB1_q, zLet_q]
theorem fb_0 {fr f0 f1 r w : Int32} (h : FR fr f0 f1) (hr : B8 r) (hw : B8 w) : FR (fb fr r w (nI 0)) ((f0 ||| (r &&& (f0 ^^^ (-1)))) ||| w) (f1 &&& (w ^^^ (-1))) := by
  have hl : B8 (r &&& (f0 ^^^ (-1))) := B8_and hr
  refine ⟨B8_or (B8_or h.1 hl) hw, B8_and h.2.1, fun i hi => ?_⟩
  obtain ⟨a, b, c⟩ := h.2.2 i hi
  have w8 := hw (i + 8) (by omega) (by omega)
  unfold fb
  rw [lk_0 h hr, sh0, shl0]
  simp only [bt_or, bt_and]
  rw [bt_not _ (by omega), bt_not _ (by omega), bt_not _ (by omega), bt_not _ (by omega), bt_257lo hl hi, bt_257hi hl hi, bt_257lo hw hi, bt_257hi hw hi, a, b, w8, bt_and, bt_not _ (by omega)]
  revert c
  cases bt f0 i <;> cases bt f1 i <;> cases bt r i <;> cases bt w i <;> decide
theorem fb_1 {fr f0 f1 r w : Int32} (h : FR fr f0 f1) (hr : B8 r) (hw : B8 w) : FR (fb fr r w (nI 1)) (f0 &&& (w ^^^ (-1))) ((f1 ||| (r &&& (f1 ^^^ (-1)))) ||| w) := by
  have hl : B8 (r &&& (f1 ^^^ (-1))) := B8_and hr
  refine ⟨B8_and h.1, B8_or (B8_or h.2.1 hl) hw, fun i hi => ?_⟩
  obtain ⟨a, b, c⟩ := h.2.2 i hi
  unfold fb
  rw [lk_1 h hr, sh1]
  simp only [bt_or, bt_and]
  rw [bt_not _ (by omega), bt_not _ (by omega), bt_not _ (by omega), bt_not _ (by omega), bt_257lo hl hi, bt_257hi hl hi, bt_257lo hw hi, bt_257hi hw hi, a, b, bt_shl8 _ (by omega), bt_shl8 _ (by omega), Nat.add_sub_cancel, decide_eq_false (show ¬ 8 ≤ i by omega), decide_eq_true (show 8 ≤ i + 8 by omega), bt_and, bt_not _ (by omega), Bool.false_and]
  revert c
  cases bt f0 i <;> cases bt f1 i <;> cases bt r i <;> cases bt w i <;> decide
def bc (x : Int32) : Int32 := (fJ6_bitCount_0f7a4 x).getD 0
theorem bc6 (x : Int32) : fJ6_bitCount_0f7a4 x = some (bc x) := rfl
theorem bits_mono : ∀ (n m : Nat) (x y r : Int32), fX10_bits_L4 (fun x => some x) n x y = some r → fX10_bits_L4 (fun x => some x) (n + m) x y = some r := by
  intro n
  induction n with
  | zero => intro m x y r h; cases h
  | succ n ih =>
    intro m x y r h
    rw [show n + 1 + m = (n + m) + 1 by omega, fX10_bits_L4_s]
    rw [fX10_bits_L4_s] at h
    by_cases c : y = 0
    · rw [if_pos c] at h ⊢; exact h
    · rw [if_neg c] at h ⊢; exact ih m _ _ r h
theorem bits10 {x : Int32} {NN : Nat} (hN : 1000 ≤ NN) (h : B8 x) : fX10_bits NN x = some (bc x) := by
  obtain ⟨k, k1, rfl⟩ := B8_k h
  have h9 : fX10_bits_L4 (fun x => some x) 9 0 (nI k) = some (bc (nI k)) := byteAll (P := fun k => fX10_bits_L4 (fun x => some x) 9 0 (nI k) = some (bc (nI k))) (by decide +kernel) k1
  have := bits_mono 9 (NN - 9) 0 (nI k) _ h9
  rw [show 9 + (NN - 9) = NN by omega] at this
  exact this
