/-! own part (pure): what a block needs: what is reckoned, and the reference's loops -/
def lF (mP : Rc) (l : Nat) : Nat := (mP 9 l).toNatClampNeg
def lG (mP : Rc) (l : Nat) : Nat := (mP 10 l).toNatClampNeg - (mP 9 l).toNatClampNeg
def opW (mP : Rc) (l : Nat) : Int32 := (if mP 7 l = (-1 : Int32) then 0 else 1) + sw (fun i => wO (mP 11 i)) (lF mP l) (lG mP l)
def cdW (W : Int32) (mP : Rc) (l : Nat) : Int32 := (if mP 7 l = (-1 : Int32) then 1 else 2) + sw (fun i => wC W (mP 11 i)) (lF mP l) (lG mP l)
def gtW (W : Int32) (mP : Rc) (l : Nat) : Int32 := (if mP 7 l = (-1 : Int32) then 0 else gO W 8) + sw (fun i => wG W (mP 11 i)) (lF mP l) (lG mP l)
def asW (mP : Rc) (l : Nat) : Int32 := if mP 7 l = (-1 : Int32) then so (fun i => wA (mP 11 i) (mP 12 i)) (lF mP l) (lG mP l) else so (fun i => wA (mP 11 i) (mP 12 i)) (lF mP l) (lG mP l) ||| (((1 : Int32) <<< ((mP 7 l) &&& 31)) ||| ((1 : Int32) <<< ((mP 8 l) &&& 31)))
def rdF (mP : Rc) : Nat → Nat → Int32 → Int32 → Int32 × Int32
  | _, 0, r, w => (r, w)
  | l, n + 1, r, w => rdF mP (l + 1) n (r ||| (asW mP l &&& (w ^^^ (-1)))) (if mP 7 l = (-1 : Int32) then w ||| ((1 : Int32) <<< ((mP 8 l) &&& 31)) else w)
def wrW (mP : Rc) (l : Nat) : Int32 := (1 : Int32) <<< ((mP 8 l) &&& 31)
def dLn (W : Int32) (mP : Rc) (dp : Ar) (l : Nat) : Int32 := if mP 7 l = (-1 : Int32) then (ev (FD W dp) mP (lF mP l) (lG mP l) []).headD 0 else imax ((ev (FD W dp) mP (lF mP l) (lG mP l) []).headD 0) (imax (dp (mP 7 l).toNatClampNeg) (dp (mP 8 l).toNatClampNeg)) + dO W 8
def dpF (W : Int32) (mP : Rc) : Nat → Nat → Ar → Int32 → Ar × Int32
  | _, 0, dp, m => (dp, m)
  | l, n + 1, dp, m => dpF W mP (l + 1) n (upd dp (mP 8 l).toNatClampNeg (dLn W mP dp l)) (imax m (dLn W mP dp l))
theorem rdFc {mP : Rc} {l g : Nat} {r w : Int32} (h : l < g) : rdF mP l (g - l) r w = rdF mP (l + 1) (g - (l + 1)) (r ||| (asW mP l &&& (w ^^^ (-1)))) (if mP 7 l = (-1 : Int32) then w ||| ((1 : Int32) <<< ((mP 8 l) &&& 31)) else w) := by
  rw [show g - l = (g - (l + 1)) + 1 by omega]; rfl
theorem dpFc {W : Int32} {mP : Rc} {l g : Nat} {dp : Ar} {m : Int32} (h : l < g) : dpF W mP l (g - l) dp m = dpF W mP (l + 1) (g - (l + 1)) (upd dp (mP 8 l).toNatClampNeg (dLn W mP dp l)) (imax m (dLn W mP dp l)) := by
  rw [show g - l = (g - (l + 1)) + 1 by omega]; rfl
theorem rdF0 {mP : Rc} {l : Nat} {r w : Int32} : rdF mP l (l - l) r w = (r, w) := by rw [Nat.sub_self]; rfl
theorem dpF0 {W : Int32} {mP : Rc} {l : Nat} {dp : Ar} {m : Int32} : dpF W mP l (l - l) dp m = (dp, m) := by rw [Nat.sub_self]; rfl
theorem ev_agree {W : Int32} {mP : Rc} {dp dp' : Ar} (ha : ∀ i, i < 8 → dp i = dp' i) {g : Nat} (hv : ∀ i, i < g → mP 11 i = nI 9 → ∃ v, v < 8 ∧ mP 12 i = nI v) : ∀ (n k : Nat) (st : List Int32), k + n ≤ g → ev (FD W dp) mP k n st = ev (FD W dp') mP k n st := by
  intro n
  induction n with
  | zero => intro k st h; rfl
  | succ n ih =>
    intro k st h
    show ev (FD W dp) mP (k + 1) n (FD W dp (mP 11 k) (mP 12 k) st) = ev (FD W dp') mP (k + 1) n (FD W dp' (mP 11 k) (mP 12 k) st)
    have : FD W dp (mP 11 k) (mP 12 k) st = FD W dp' (mP 11 k) (mP 12 k) st := by
      unfold FD
      by_cases c : mP 11 k = nI 9
      · obtain ⟨v, v8, e⟩ := hv k (by omega) c
        rw [if_pos c, if_pos c, e, nIc (by omega), ha v v8]
      · rw [if_neg c, if_neg c]
    rw [this]
    exact ih (k + 1) _ (by omega)
/-- lines of the reference as they must be -/
def LW (mP : Rc) (l : Nat) : Prop := ∃ t f g, t < 8 ∧ f ≤ g ∧ g ≤ 600 ∧ mP 8 l = nI t ∧ mP 9 l = nI f ∧ mP 10 l = nI g ∧ (mP 7 l = nM 1 ∨ ∃ a, a < 8 ∧ mP 7 l = nI a) ∧ Hts (mP 11) f g 1 ∧ ∀ i, i < g → mP 11 i = nI 9 → ∃ v, v < 8 ∧ mP 12 i = nI v
theorem lFG {mP : Rc} {l f g : Nat} (h1 : mP 9 l = nI f) (h2 : mP 10 l = nI g) (hf : f ≤ g) (hg : g ≤ 600) : lF mP l = f ∧ lG mP l = g - f := by
  unfold lF lG
  rw [h1, h2, nIc (by omega), nIc (by omega)]
  exact ⟨rfl, rfl⟩
theorem ops_l {mP : Rc} {lr g : Nat} {J : Int32 → Option Int32} (hlr : lr < 96) (m10 : mP 10 lr = nI g) (hg : g ≤ 600) : ∀ (n k : Nat) (x : Int32), g - k < n → k ≤ g → fX10_opsOf_L57 mP (nI lr) J n x (nI k) = J (x + sw (fun i => wO (mP 11 i)) k (g - k)) := by
  intro n
  induction n with
  | zero => intro k x h; omega
  | succ n ih =>
    intro k x hn hk
    rw [fX10_opsOf_L57_s]
    by_cases c : k < g
    · rw [swc c, ← Int32.add_assoc]
      refine Eq.trans ?_ (ih (k + 1) _ (by omega) (by omega))
      by_cases c9 : (9 : Int32) ≤ mP 11 k
      · rw [show wO (mP 11 k) = 0 from if_pos c9]
        simp (disch := omega) only [↓zLet_e, zGd_in, nIc, m10, nI_le_f, ↓reduceIte, c9, nI_1]
      · rw [show wO (mP 11 k) = 1 from if_neg c9]
        simp (disch := omega) only [↓zLet_e, zGd_in, nIc, m10, nI_le_f, ↓reduceIte, c9, nI_1]
    · have : k = g := by omega
      subst this
      rw [sw0, Int32.add_zero]
      simp (disch := omega) only [zGd_in, nIc, m10, nI_le_t, ↓reduceIte]
theorem code_l {mY mP : Rc} {lr g : Nat} {J : Int32 → Option Int32} (hlr : lr < 96) (m10 : mP 10 lr = nI g) (hg : g ≤ 600) : ∀ (n k : Nat) (x : Int32), g - k < n → k ≤ g → fX10_codeTicks_L57 mY mP (nI lr) J n x (nI k) = J (x + sw (fun i => wC (mY 4 0) (mP 11 i)) k (g - k)) := by
  intro n
  induction n with
  | zero => intro k x h; omega
  | succ n ih =>
    intro k x hn hk
    rw [fX10_codeTicks_L57_s]
    by_cases c : k < g
    · rw [swc c, ← Int32.add_assoc]
      refine Eq.trans ?_ (ih (k + 1) _ (by omega) (by omega))
      by_cases c2 : mP 11 k = (2 : Int32)
      · rw [show wC (mY 4 0) (mP 11 k) = mY 4 0 from if_pos c2]
        simp (disch := omega) only [↓zLet_e, zGd_in, nIc, m10, nI_le_f, ↓reduceIte, c2, nI_1]
      · by_cases c9 : (9 : Int32) ≤ mP 11 k
        · rw [show wC (mY 4 0) (mP 11 k) = 0 by unfold wC; rw [if_neg c2, if_pos c9]]
          simp (disch := omega) only [↓zLet_e, zGd_in, nIc, m10, nI_le_f, ↓reduceIte, c2, c9, nI_1]
        · rw [show wC (mY 4 0) (mP 11 k) = 1 by unfold wC; rw [if_neg c2, if_neg c9]]
          simp (disch := omega) only [↓zLet_e, zGd_in, nIc, m10, nI_le_f, ↓reduceIte, c2, c9, nI_1]
    · have : k = g := by omega
      subst this
      rw [sw0, Int32.add_zero]
      simp (disch := omega) only [zGd_in, nIc, m10, nI_le_t, ↓reduceIte]
theorem gate_l {mY mP : Rc} {lr g : Nat} {J : Int32 → Option Int32} (hlr : lr < 96) (m10 : mP 10 lr = nI g) (hg : g ≤ 600) : ∀ (n k : Nat) (x : Int32), g - k < n → k ≤ g → fX10_gatesFor_L62 mY mP (nI lr) J n x (nI k) = J (x + sw (fun i => wG (mY 4 0) (mP 11 i)) k (g - k)) := by
  intro n
  induction n with
  | zero => intro k x h; omega
  | succ n ih =>
    intro k x hn hk
    rw [fX10_gatesFor_L62_s]
    by_cases c : k < g
    · rw [swc c, ← Int32.add_assoc]
      refine Eq.trans ?_ (ih (k + 1) _ (by omega) (by omega))
      by_cases c9 : (9 : Int32) ≤ mP 11 k
      · rw [show wG (mY 4 0) (mP 11 k) = 0 from if_pos c9]
        simp (disch := omega) only [↓zLet_e, zGd_in, nIc, m10, nI_le_f, ↓reduceIte, c9, nI_1]
      · rw [show wG (mY 4 0) (mP 11 k) = gO (mY 4 0) (mP 11 k) from if_neg c9]
        simp (disch := omega) only [↓zLet_e, zGd_in, nIc, m10, nI_le_f, ↓reduceIte, c9, nI_1, gatesOf10, zB1_s]
    · have : k = g := by omega
      subst this
      rw [sw0, Int32.add_zero]
      simp (disch := omega) only [zGd_in, nIc, m10, nI_le_t, ↓reduceIte]
theorem read_l {mP : Rc} {lr g : Nat} {J : Int32 → Option Int32} (hlr : lr < 96) (m10 : mP 10 lr = nI g) (hg : g ≤ 600) : ∀ (n k : Nat) (x : Int32), g - k < n → k ≤ g → fX10_readsOf_L44 mP (nI lr) J n x (nI k) = J (x ||| so (fun i => wA (mP 11 i) (mP 12 i)) k (g - k)) := by
  intro n
  induction n with
  | zero => intro k x h; omega
  | succ n ih =>
    intro k x hn hk
    rw [fX10_readsOf_L44_s]
    by_cases c : k < g
    · rw [soc c, ← Int32.or_assoc]
      refine Eq.trans ?_ (ih (k + 1) _ (by omega) (by omega))
      by_cases c9 : mP 11 k = (9 : Int32)
      · rw [show wA (mP 11 k) (mP 12 k) = (1 : Int32) <<< (mP 12 k &&& 31) from if_pos c9]
        simp (disch := omega) only [↓zLet_e, zGd_in, nIc, m10, nI_le_f, ↓reduceIte, c9, nI_1]
      · rw [show wA (mP 11 k) (mP 12 k) = 0 from if_neg c9]
        simp (disch := omega) only [↓zLet_e, zGd_in, nIc, m10, nI_le_f, ↓reduceIte, c9, nI_1]
    · have : k = g := by omega
      subst this
      rw [so0, Int32.or_zero]
      simp (disch := omega) only [zGd_in, nIc, m10, nI_le_t, ↓reduceIte]
theorem n8b (b j : Nat) : (8 : Int32) * nI b + nI j = nI (8 * b + j) := by rw [lq_8, nI_mul, nI_add]
theorem ops_b {mP : Rc} {b ln NN : Nat} (hN : 1000 ≤ NN) (hb : b < 12) (hl8 : ln ≤ 8) (m5 : mP 5 b = nI ln) (hL : ∀ j, j < ln → LW mP (8 * b + j)) : fX10_opsOf NN mP (nI b) = some (sw (opW mP) (8 * b) ln) := by
  unfold fX10_opsOf
  have key : ∀ (n l : Nat) (x : Int32), 8 * b + ln - l < n → 8 * b ≤ l → l ≤ 8 * b + ln → fX10_opsOf_L7 mP (nI b) NN (fun x => some x) n x (nI l) = some (x + sw (opW mP) l (8 * b + ln - l)) := by
    intro n
    induction n with
    | zero => intro l x h; omega
    | succ n ih =>
      intro l x hn h1 h2
      rw [fX10_opsOf_L7_s]
      by_cases c : l < 8 * b + ln
      · rw [swc c, ← Int32.add_assoc]
        refine Eq.trans ?_ (ih (l + 1) _ (by omega) (by omega) (by omega))
        obtain ⟨t, f, g, w1, w2, w3, w4, w5, w6, w7, w8, w9⟩ := hL (l - 8 * b) (by omega)
        rw [show 8 * b + (l - 8 * b) = l by omega] at w4 w5 w6 w7
        obtain ⟨q1, q2⟩ := lFG w5 w6 w2 w3
        unfold opW
        rw [q1, q2]
        by_cases ca : mP 7 l = (-1 : Int32)
        · simp (disch := omega) only [↓zLet_e, ↓zJn_e, zGd_in, nIc, m5, n8b, nI_le_f, ↓reduceIte, ca, w5, nI_1]
          rw [ops_l (by omega) w6 w3 NN f _ (by omega) w2, Int32.add_assoc]
        · simp (disch := omega) only [↓zLet_e, ↓zJn_e, zGd_in, nIc, m5, n8b, nI_le_f, ↓reduceIte, ca, w5, nI_1]
          rw [ops_l (by omega) w6 w3 NN f _ (by omega) w2, Int32.add_assoc]
      · have : l = 8 * b + ln := by omega
        subst this
        rw [sw0, Int32.add_zero]
        simp (disch := omega) only [zGd_in, nIc, m5, n8b, nI_le_t, ↓reduceIte]
  have := key NN (8 * b) 0 (by omega) (by omega) (by omega)
  rw [show 8 * b + ln - 8 * b = ln by omega, Int32.zero_add] at this
  simp only [zLet_e, zJn_e, lq_8, nI_mul]
  exact this
