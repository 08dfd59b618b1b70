/-! own part (pure): piles as lists; sums gone through -/
def Stk : List Int32 → Ar → Prop
  | [], _ => True
  | v :: t, a => a t.length = v ∧ Stk t a
theorem Stk_upd {v : Int32} {a : Ar} {j : Nat} : ∀ (t : List Int32), t.length ≤ j → Stk t a → Stk t (upd a j v) := by
  intro t
  induction t with
  | nil => intro _ _; trivial
  | cons x t ih =>
    intro h ⟨h1, h2⟩
    have hl : (x :: t).length = t.length + 1 := rfl
    exact ⟨by rw [upd_n (by omega)]; exact h1, ih (by omega) h2⟩
theorem push6 {oQ : Rc} {st : List Int32} {v : Int32} (hs : Stk st (oQ 0)) (h1 : oQ 1 0 = nI st.length) (hl : st.length < 12) : ∃ oQ', fX3_push oQ v = some oQ' ∧ Stk (v :: st) (oQ' 0) ∧ oQ' 1 0 = nI (st.length + 1) := by
  refine ⟨rs (rs oQ 0 (upd (oQ 0) st.length v)) 1 (fun _ => nI (st.length + 1)), ?_, ⟨?_, ?_⟩, ?_⟩
  · unfold fX3_push
    simp (disch := omega) only [zLet_e, zJn_e, zB1_s, zB2_s, zB3_s, zB4_s, zB5_s, zB6_s, zB7_s, zGd_in, zGd_b0, zGd_b1, rs_s, rs_n, upd_s, upd_n, ite_t, ite_f, if_true, if_false, ne_eq, not_true, not_false_iff, nI_1, nI_add, nI_mul, nI_sub, nIc, nI_leI, nI_ltI, nI_eq, nI_m1, nI_m1', nI_lt0, nI_m2, ↓lq_m1, ↓lq_m2, ↓lq_m8, ↓lq_mm, lq_0, lq_1, lq_2, lq_3, lq_4, lq_5, lq_6, lq_7, lq_8, lq_9, lq_10, lq_12, lq_16, lq_20, lq_24, lq_31, lq_32, lq_40, lq_41, lq_42, lq_43, lq_45, lq_38, lq_48, lq_50, lq_57, lq_59, lq_60, lq_61, lq_63, lq_94, lq_96, lq_97, lq_100, lq_102, lq_104, lq_105, lq_120, lq_122, lq_123, lq_124, lq_125, lq_126, lq_255, lq_257, lq_600, lq_1000, lq_4096, lq_65535, lq_1000000, h1]
  · simp (disch := omega) only [zLet_e, zJn_e, zB1_s, zB2_s, zB3_s, zB4_s, zB5_s, zB6_s, zB7_s, zGd_in, zGd_b0, zGd_b1, rs_s, rs_n, upd_s, upd_n, ite_t, ite_f, if_true, if_false, ne_eq, not_true, not_false_iff]
  · simp (disch := omega) only [zLet_e, zJn_e, zB1_s, zB2_s, zB3_s, zB4_s, zB5_s, zB6_s, zB7_s, zGd_in, zGd_b0, zGd_b1, rs_s, rs_n, upd_s, upd_n, ite_t, ite_f, if_true, if_false, ne_eq, not_true, not_false_iff]
    exact Stk_upd st (Nat.le_refl _) hs
  · simp (disch := omega) only [zLet_e, zJn_e, zB1_s, zB2_s, zB3_s, zB4_s, zB5_s, zB6_s, zB7_s, zGd_in, zGd_b0, zGd_b1, rs_s, rs_n, upd_s, upd_n, ite_t, ite_f, if_true, if_false, ne_eq, not_true, not_false_iff]
theorem pop6 {oQ : Rc} {st : List Int32} {v : Int32} (hs : Stk (v :: st) (oQ 0)) (h1 : oQ 1 0 = nI (st.length + 1)) (hl : st.length < 12) : ∃ oQ', fX3_pop oQ = some (v, oQ') ∧ Stk st (oQ' 0) ∧ oQ' 1 0 = nI st.length := by
  obtain ⟨a, b⟩ := hs
  refine ⟨rs oQ 1 (fun _ => nI st.length), ?_, ?_, ?_⟩
  · unfold fX3_pop
    simp (disch := omega) only [zLet_e, zJn_e, zB1_s, zB2_s, zB3_s, zB4_s, zB5_s, zB6_s, zB7_s, zGd_in, zGd_b0, zGd_b1, rs_s, rs_n, upd_s, upd_n, ite_t, ite_f, if_true, if_false, ne_eq, not_true, not_false_iff, nI_1, nI_add, nI_mul, nI_sub, nIc, nI_leI, nI_ltI, nI_eq, nI_m1, nI_m1', nI_lt0, nI_m2, ↓lq_m1, ↓lq_m2, ↓lq_m8, ↓lq_mm, lq_0, lq_1, lq_2, lq_3, lq_4, lq_5, lq_6, lq_7, lq_8, lq_9, lq_10, lq_12, lq_16, lq_20, lq_24, lq_31, lq_32, lq_40, lq_41, lq_42, lq_43, lq_45, lq_38, lq_48, lq_50, lq_57, lq_59, lq_60, lq_61, lq_63, lq_94, lq_96, lq_97, lq_100, lq_102, lq_104, lq_105, lq_120, lq_122, lq_123, lq_124, lq_125, lq_126, lq_255, lq_257, lq_600, lq_1000, lq_4096, lq_65535, lq_1000000, h1, Nat.add_sub_cancel, a]
  · simp (disch := omega) only [zLet_e, zJn_e, zB1_s, zB2_s, zB3_s, zB4_s, zB5_s, zB6_s, zB7_s, zGd_in, zGd_b0, zGd_b1, rs_s, rs_n, upd_s, upd_n, ite_t, ite_f, if_true, if_false, ne_eq, not_true, not_false_iff]
    exact b
  · simp (disch := omega) only [zLet_e, zJn_e, zB1_s, zB2_s, zB3_s, zB4_s, zB5_s, zB6_s, zB7_s, zGd_in, zGd_b0, zGd_b1, rs_s, rs_n, upd_s, upd_n, ite_t, ite_f, if_true, if_false, ne_eq, not_true, not_false_iff]
def imax (a b : Int32) : Int32 := if a < b then b else a
theorem imax_e {a b : Int32} {i : Decidable (a < b)} : @ite Int32 (a < b) i b a = imax a b := by
  unfold imax
  by_cases h : a < b
  · rw [if_pos h, if_pos h]
  · rw [if_neg h, if_neg h]
theorem imax_comm (a b : Int32) : imax a b = imax b a := by
  unfold imax
  by_cases h : a < b
  · rw [if_pos h, if_neg]
    intro h'
    rw [Int32.lt_iff_toInt_lt] at h h'
    omega
  · rw [if_neg h]
    by_cases h' : b < a
    · rw [if_pos h']
    · rw [if_neg h']
      rw [Int32.lt_iff_toInt_lt] at h h'
      exact Int32.toInt_inj.mp (by omega)
def gO (W s : Int32) : Int32 := (fX10_gatesOf (fun _ _ => W) s).getD 0
def dO (W s : Int32) : Int32 := (fX10_depthOf (fun _ _ => W) s).getD 0
theorem gatesOf10 (mY : Rc) (s : Int32) : fX10_gatesOf mY s = some (gO (mY 4 0) s) := by
  unfold gO fX10_gatesOf
  (repeat' split) <;> rfl
theorem depthOf10 (mY : Rc) (s : Int32) : fX10_depthOf mY s = some (dO (mY 4 0) s) := by
  unfold dO fX10_depthOf
  (repeat' split) <;> rfl
/-- a step of class and reference that is an OP -/
def KO (a b : Int32) : Prop := (a = nI 126 ∧ b = nI 7) ∨ (a = nI 63 ∧ b = nI 8) ∨ ∃ c, isSg c = true ∧ a = nI c ∧ b = sgN c
theorem gates6 {oE : Rc} {a b : Int32} (h : KO a b) : fX2_gatesOfOp oE a = some (gO (oE 9 0) b) := by
  unfold fX2_gatesOfOp gO fX10_gatesOf
  rcases h with ⟨rfl, rfl⟩ | ⟨rfl, rfl⟩ | ⟨c, hc, rfl, rfl⟩
  · rfl
  · rfl
  · rcases sg_cs hc with rfl | rfl | rfl | rfl | rfl | rfl | rfl <;> rfl
theorem depth6 {oE : Rc} {a b : Int32} (h : KO a b) : fX2_depthOfOp oE a = some (dO (oE 9 0) b) := by
  unfold fX2_depthOfOp dO fX10_depthOf
  rcases h with ⟨rfl, rfl⟩ | ⟨rfl, rfl⟩ | ⟨c, hc, rfl, rfl⟩
  · rfl
  · rfl
  · rcases sg_cs hc with rfl | rfl | rfl | rfl | rfl | rfl | rfl <;> rfl
def wO (s : Int32) : Int32 := if (9 : Int32) ≤ s then 0 else 1
def wC (W s : Int32) : Int32 := if s = (2 : Int32) then W else if (9 : Int32) ≤ s then 0 else 1
def wG (W s : Int32) : Int32 := if (9 : Int32) ≤ s then 0 else gO W s
def wA (s v : Int32) : Int32 := if s = (9 : Int32) then (1 : Int32) <<< (v &&& 31) else 0
def sw (w : Nat → Int32) : Nat → Nat → Int32
  | _, 0 => 0
  | k, n + 1 => w k + sw w (k + 1) n
def so (w : Nat → Int32) : Nat → Nat → Int32
  | _, 0 => 0
  | k, n + 1 => w k ||| so w (k + 1) n
theorem swc {w : Nat → Int32} {k g : Nat} (h : k < g) : sw w k (g - k) = w k + sw w (k + 1) (g - (k + 1)) := by
  rw [show g - k = (g - (k + 1)) + 1 by omega]; rfl
theorem soc {w : Nat → Int32} {k g : Nat} (h : k < g) : so w k (g - k) = w k ||| so w (k + 1) (g - (k + 1)) := by
  rw [show g - k = (g - (k + 1)) + 1 by omega]; rfl
def ev (F : Int32 → Int32 → List Int32 → List Int32) (mP : Rc) : Nat → Nat → List Int32 → List Int32
  | _, 0, st => st
  | k, n + 1, st => ev F mP (k + 1) n (F (mP 11 k) (mP 12 k) st)
theorem evc {F : Int32 → Int32 → List Int32 → List Int32} {mP : Rc} {k g : Nat} {st : List Int32} (h : k < g) : ev F mP k (g - k) st = ev F mP (k + 1) (g - (k + 1)) (F (mP 11 k) (mP 12 k) st) := by
  rw [show g - k = (g - (k + 1)) + 1 by omega]; rfl
theorem ev0 {F : Int32 → Int32 → List Int32 → List Int32} {mP : Rc} {k : Nat} {st : List Int32} : ev F mP k (k - k) st = st := by rw [Nat.sub_self]; rfl
theorem sw0 {w : Nat → Int32} {k : Nat} : sw w k (k - k) = 0 := by rw [Nat.sub_self]; rfl
theorem so0 {w : Nat → Int32} {k : Nat} : so w k (k - k) = 0 := by rw [Nat.sub_self]; rfl
def un (f : Int32 → Int32) : List Int32 → List Int32
  | a :: t => f a :: t
  | [] => []
def bin (f : Int32 → Int32 → Int32) : List Int32 → List Int32
  | b :: a :: t => f a b :: t
  | _ => []
def FD (W : Int32) (dp : Ar) (s v : Int32) (st : List Int32) : List Int32 := if s = nI 9 then dp v.toNatClampNeg :: st else if s = nI 10 then nI 0 :: st else if s = nI 7 then un (fun a => a + dO W (nI 7)) st else bin (fun a b => imax a b + dO W s) st
/-- the height of the pile, step by step -/
def HS (mP : Rc) (k g : Nat) (l : Nat) : Prop := ∃ q : Nat → Nat, q k = l ∧ q g = 1 ∧ ∀ i, k ≤ i → i < g → stH (mP 11 i) (q i) (q (i + 1)) ∧ q (i + 1) ≤ 11
theorem HS_next {mP : Rc} {k g l : Nat} (h : HS mP k g l) (hk : k < g) : ∃ l', stH (mP 11 k) l l' ∧ l' ≤ 11 ∧ HS mP (k + 1) g l' := by
  obtain ⟨q, h1, h2, h3⟩ := h
  obtain ⟨a, b⟩ := h3 k (Nat.le_refl _) hk
  rw [h1] at a
  exact ⟨q (k + 1), a, b, q, rfl, h2, fun i i1 i2 => h3 i (by omega) i2⟩
theorem HS_end {mP : Rc} {g l : Nat} (h : HS mP g g l) : l = 1 := by
  obtain ⟨q, h1, h2, h3⟩ := h
  omega
theorem HS_of {mP : Rc} {f g : Nat} (h : Hts (mP 11) f g 1) : HS mP f g 0 := by
  obtain ⟨_, q, h1, h2, h3⟩ := h
  exact ⟨q, h1, h2, h3⟩
theorem sgN_lit {c : Nat} (h : isSg c = true) : ¬ sgN c = nI 9 ∧ ¬ sgN c = nI 10 ∧ ¬ sgN c = nI 7 := by
  rcases sg_cs h with rfl | rfl | rfl | rfl | rfl | rfl | rfl <;> decide +kernel
/-- kinds of step: what the class has, what the reference has, and the pile's height -/
theorem step_cases {a b : Int32} {l l' : Nat} (hk : KR a b) (hs : stH b l l') : (a = nI 4 ∧ b = nI 9 ∧ l' = l + 1) ∨ (a = nI 3 ∧ b = nI 10 ∧ l' = l + 1) ∨ (a = nI 126 ∧ b = nI 7 ∧ 1 ≤ l ∧ l' = l) ∨ ∃ c, isSg c = true ∧ a = nI c ∧ b = sgN c ∧ 2 ≤ l ∧ l' + 1 = l := by
  have e910 : ¬ (nI 9 = nI 10) := by decide
  have e97 : ¬ (nI 9 = nI 7) := by decide
  have e107 : ¬ (nI 10 = nI 7) := by decide
  rcases hk with ⟨rfl, rfl⟩ | ⟨rfl, rfl⟩ | ⟨rfl, rfl⟩ | ⟨c, hc, rfl, rfl⟩
  · rcases hs with ⟨_, h⟩ | ⟨h, _⟩ | ⟨c, hc, h, _⟩
    · exact Or.inl ⟨rfl, rfl, h⟩
    · exact absurd h e97
    · exact absurd h.symm (sgN_lit hc).1
  · rcases hs with ⟨_, h⟩ | ⟨h, _⟩ | ⟨c, hc, h, _⟩
    · exact Or.inr (Or.inl ⟨rfl, rfl, h⟩)
    · exact absurd h e107
    · exact absurd h.symm (sgN_lit hc).2.1
  · rcases hs with ⟨h | h, _⟩ | ⟨_, h1, h2⟩ | ⟨c, hc, h, _⟩
    · exact absurd h.symm e97
    · exact absurd h.symm e107
    · exact Or.inr (Or.inr (Or.inl ⟨rfl, rfl, h1, h2⟩))
    · exact absurd h.symm (sgN_lit hc).2.2
  · rcases hs with ⟨h | h, _⟩ | ⟨h, _⟩ | ⟨c', hc', h, h1, h2⟩
    · exact absurd h (sgN_lit hc).1
    · exact absurd h (sgN_lit hc).2.1
    · exact absurd h (sgN_lit hc).2.2
    · exact Or.inr (Or.inr (Or.inr ⟨c, hc, rfl, rfl, h1, h2⟩))
theorem FD_of {W v : Int32} {dp : Ar} {st : List Int32} : FD W dp (nI 9) v st = dp v.toNatClampNeg :: st := if_pos rfl
theorem FD_wh {W v : Int32} {dp : Ar} {st : List Int32} : FD W dp (nI 10) v st = nI 0 :: st := by
  unfold FD; rw [if_neg (by decide), if_pos rfl]
theorem FD_not {W v a : Int32} {dp : Ar} {st : List Int32} : FD W dp (nI 7) v (a :: st) = (a + dO W (nI 7)) :: st := by
  unfold FD; rw [if_neg (by decide), if_neg (by decide), if_pos rfl]; rfl
theorem FD_sg {W v a b : Int32} {c : Nat} {dp : Ar} {st : List Int32} (h : isSg c = true) : FD W dp (sgN c) v (b :: a :: st) = (imax a b + dO W (sgN c)) :: st := by
  obtain ⟨h1, h2, h3⟩ := sgN_lit h
  unfold FD; rw [if_neg h1, if_neg h2, if_neg h3]; rfl
theorem two_of {st : List Int32} (h : 2 ≤ st.length) : ∃ b a t, st = b :: a :: t := by
  match st, h with
  | b :: a :: t, _ => exact ⟨b, a, t, rfl⟩
theorem one_of {st : List Int32} (h : 1 ≤ st.length) : ∃ a t, st = a :: t := by
  match st, h with
  | a :: t, _ => exact ⟨a, t, rfl⟩
theorem nI_le_t {a b : Nat} (h : a ≤ b) (hb : b < 2 ^ 31) : (nI a ≤ nI b) = True := eq_true (nI_le h hb)
theorem nI_le_f {a b : Nat} (h : b < a) (ha : a < 2 ^ 31) : (nI a ≤ nI b) = False := eq_false (nI_ge h ha)
theorem nI_lt_t {a b : Nat} (h : a < b) (hb : b < 2 ^ 31) : (nI a < nI b) = True := eq_true (nI_lt h hb)
theorem nI_lt_f {a b : Nat} (h : b ≤ a) (ha : a < 2 ^ 31) : (nI a < nI b) = False := eq_false (nI_nlt h ha)
theorem nI_eq_t {a b : Nat} (h : a = b) : (nI a = nI b) = True := eq_true (by rw [h])
theorem nI_eq_f {a b : Nat} (h : a ≠ b) (ha : a < 2 ^ 31) (hb : b < 2 ^ 31) : (nI a = nI b) = False := eq_false (fun e => h ((nI_eq ha hb).mp e))
theorem nI_decs {a : Nat} (h : 1 ≤ a) : nI a + nM 1 = nI (a - 1) := by
  have e := nI_add (a - 1) 1
  rw [Nat.sub_add_cancel h] at e
  rw [← e]
  show nI (a - 1) + nI 1 + -(nI 1) = _
  rw [Int32.add_assoc, Int32.add_right_neg, Int32.add_zero]
/-- one step of the reference's depth of a sum -/
theorem sd_of {mY mP mU : Rc} {J : Rc → Option (Int32 × Rc)} {n lr g k h v : Nat} (hlr : lr < 96) (m10 : mP 10 lr = nI g) (hk : k < g) (hg : g ≤ 600) (hh : h ≤ 11) (s : mP 11 k = nI 9) (hv : mP 12 k = nI v) (v8 : v < 8) : fX10_sumDepth_L12 mY mP (nI lr) J (n + 1) (nI h) (nI k) mU = fX10_sumDepth_L12 mY mP (nI lr) J n (nI (h + 1)) (nI (k + 1)) (rs mU 23 (upd (mU 23) h (mU 24 v))) := by
  rw [fX10_sumDepth_L12_s]
  simp (disch := omega) only [↓zLet_e, ↓zJn_e, ↓reduceIte, zB1_s, zB2_s, zB3_s, zB4_s, zB5_s, zB6_s, zB7_s, zGd_in, zGd_b0, zGd_b1, rs_s, rs_n, upd_s, upd_n, ne_eq, not_true, not_false_iff, nI_1, nI_add, nI_mul, nI_sub, nIc, nI_le_t, nI_le_f, nI_lt_t, nI_lt_f, nI_eq_t, nI_eq_f, nI_m1, nI_m1', nI_m2, nI_lt0, ↓lq_m1, ↓lq_m2, ↓lq_m8, ↓lq_mm, lq_0, lq_1, lq_2, lq_3, lq_4, lq_5, lq_6, lq_7, lq_8, lq_9, lq_10, lq_12, lq_16, lq_20, lq_24, lq_31, lq_32, lq_40, lq_41, lq_42, lq_43, lq_45, lq_38, lq_48, lq_50, lq_57, lq_59, lq_60, lq_61, lq_63, lq_94, lq_96, lq_97, lq_100, lq_102, lq_104, lq_105, lq_120, lq_122, lq_123, lq_124, lq_125, lq_126, lq_255, lq_257, lq_600, lq_1000, lq_4096, lq_65535, lq_1000000, m10, s, hv]
theorem sd_wh {mY mP mU : Rc} {J : Rc → Option (Int32 × Rc)} {n lr g k h : Nat} (hlr : lr < 96) (m10 : mP 10 lr = nI g) (hk : k < g) (hg : g ≤ 600) (hh : h ≤ 11) (s : mP 11 k = nI 10) : fX10_sumDepth_L12 mY mP (nI lr) J (n + 1) (nI h) (nI k) mU = fX10_sumDepth_L12 mY mP (nI lr) J n (nI (h + 1)) (nI (k + 1)) (rs mU 23 (upd (mU 23) h (nI 0))) := by
  rw [fX10_sumDepth_L12_s]
  simp (disch := omega) only [↓zLet_e, ↓zJn_e, ↓reduceIte, zB1_s, zB2_s, zB3_s, zB4_s, zB5_s, zB6_s, zB7_s, zGd_in, zGd_b0, zGd_b1, rs_s, rs_n, upd_s, upd_n, ne_eq, not_true, not_false_iff, nI_1, nI_add, nI_mul, nI_sub, nIc, nI_le_t, nI_le_f, nI_lt_t, nI_lt_f, nI_eq_t, nI_eq_f, nI_m1, nI_m1', nI_m2, nI_lt0, ↓lq_m1, ↓lq_m2, ↓lq_m8, ↓lq_mm, lq_0, lq_1, lq_2, lq_3, lq_4, lq_5, lq_6, lq_7, lq_8, lq_9, lq_10, lq_12, lq_16, lq_20, lq_24, lq_31, lq_32, lq_40, lq_41, lq_42, lq_43, lq_45, lq_38, lq_48, lq_50, lq_57, lq_59, lq_60, lq_61, lq_63, lq_94, lq_96, lq_97, lq_100, lq_102, lq_104, lq_105, lq_120, lq_122, lq_123, lq_124, lq_125, lq_126, lq_255, lq_257, lq_600, lq_1000, lq_4096, lq_65535, lq_1000000, m10, s]
theorem sd_not {mY mP mU : Rc} {J : Rc → Option (Int32 × Rc)} {n lr g k h : Nat} (hlr : lr < 96) (m10 : mP 10 lr = nI g) (hk : k < g) (hg : g ≤ 600) (hh : h ≤ 11) (s : mP 11 k = nI 7) : fX10_sumDepth_L12 mY mP (nI lr) J (n + 1) (nI (h + 1)) (nI k) mU = fX10_sumDepth_L12 mY mP (nI lr) J n (nI (h + 1)) (nI (k + 1)) (rs mU 23 (upd (mU 23) h (mU 23 h + dO (mY 4 0) (nI 7)))) := by
  rw [fX10_sumDepth_L12_s]
  simp (disch := omega) only [↓zLet_e, ↓zJn_e, ↓reduceIte, zB1_s, zB2_s, zB3_s, zB4_s, zB5_s, zB6_s, zB7_s, zGd_in, zGd_b0, zGd_b1, rs_s, rs_n, upd_s, upd_n, ne_eq, not_true, not_false_iff, nI_1, nI_add, nI_mul, nI_sub, nIc, nI_le_t, nI_le_f, nI_lt_t, nI_lt_f, nI_eq_t, nI_eq_f, nI_m1, nI_m1', nI_m2, nI_lt0, ↓lq_m1, ↓lq_m2, ↓lq_m8, ↓lq_mm, lq_0, lq_1, lq_2, lq_3, lq_4, lq_5, lq_6, lq_7, lq_8, lq_9, lq_10, lq_12, lq_16, lq_20, lq_24, lq_31, lq_32, lq_40, lq_41, lq_42, lq_43, lq_45, lq_38, lq_48, lq_50, lq_57, lq_59, lq_60, lq_61, lq_63, lq_94, lq_96, lq_97, lq_100, lq_102, lq_104, lq_105, lq_120, lq_122, lq_123, lq_124, lq_125, lq_126, lq_255, lq_257, lq_600, lq_1000, lq_4096, lq_65535, lq_1000000, m10, s, depthOf10, Nat.add_sub_cancel]
theorem sd_sg {mY mP mU : Rc} {J : Rc → Option (Int32 × Rc)} {n lr g k h c : Nat} (hlr : lr < 96) (m10 : mP 10 lr = nI g) (hk : k < g) (hg : g ≤ 600) (hh : h ≤ 11) (s : mP 11 k = sgN c) (hc : isSg c = true) : fX10_sumDepth_L12 mY mP (nI lr) J (n + 1) (nI (h + 2)) (nI k) mU = fX10_sumDepth_L12 mY mP (nI lr) J n (nI (h + 1)) (nI (k + 1)) (rs mU 23 (upd (mU 23) h (imax (mU 23 h) (mU 23 (h + 1)) + dO (mY 4 0) (sgN c)))) := by
  obtain ⟨g1, g2, g3⟩ := sgN_lit hc
  have e1 : nI (h + 2) + (-1) = nI (h + 1) := nI_decs (a := h + 2) (by omega)
  rw [fX10_sumDepth_L12_s, e1]
  generalize sgN c = sg at *
  simp (disch := omega) only [↓zLet_e, ↓zJn_e, ↓reduceIte, zB1_s, zB2_s, zB3_s, zB4_s, zB5_s, zB6_s, zB7_s, zGd_in, zGd_b0, zGd_b1, rs_s, rs_n, upd_s, upd_n, ne_eq, not_true, not_false_iff, nI_1, nI_add, nI_mul, nI_sub, nIc, nI_le_t, nI_le_f, nI_lt_t, nI_lt_f, nI_eq_t, nI_eq_f, nI_m1, nI_m1', nI_m2, nI_lt0, ↓lq_m1, ↓lq_m2, ↓lq_m8, ↓lq_mm, lq_0, lq_1, lq_2, lq_3, lq_4, lq_5, lq_6, lq_7, lq_8, lq_9, lq_10, lq_12, lq_16, lq_20, lq_24, lq_31, lq_32, lq_40, lq_41, lq_42, lq_43, lq_45, lq_38, lq_48, lq_50, lq_57, lq_59, lq_60, lq_61, lq_63, lq_94, lq_96, lq_97, lq_100, lq_102, lq_104, lq_105, lq_120, lq_122, lq_123, lq_124, lq_125, lq_126, lq_255, lq_257, lq_600, lq_1000, lq_4096, lq_65535, lq_1000000, m10, s, depthOf10, g1, g2, g3, ↓imax_e, Nat.add_sub_cancel]
theorem sd_end {mY mP mU : Rc} {J : Rc → Option (Int32 × Rc)} {n lr g : Nat} {x : Int32} (hlr : lr < 96) (m10 : mP 10 lr = nI g) (hg : g ≤ 600) : fX10_sumDepth_L12 mY mP (nI lr) J (n + 1) x (nI g) mU = J mU := by
  rw [fX10_sumDepth_L12_s]
  simp (disch := omega) only [↓zLet_e, ↓zJn_e, ↓reduceIte, zB1_s, zB2_s, zB3_s, zB4_s, zB5_s, zB6_s, zB7_s, zGd_in, zGd_b0, zGd_b1, rs_s, rs_n, upd_s, upd_n, ne_eq, not_true, not_false_iff, nI_1, nI_add, nI_mul, nI_sub, nIc, nI_le_t, nI_le_f, nI_lt_t, nI_lt_f, nI_eq_t, nI_eq_f, nI_m1, nI_m1', nI_m2, nI_lt0, ↓lq_m1, ↓lq_m2, ↓lq_m8, ↓lq_mm, lq_0, lq_1, lq_2, lq_3, lq_4, lq_5, lq_6, lq_7, lq_8, lq_9, lq_10, lq_12, lq_16, lq_20, lq_24, lq_31, lq_32, lq_40, lq_41, lq_42, lq_43, lq_45, lq_38, lq_48, lq_50, lq_57, lq_59, lq_60, lq_61, lq_63, lq_94, lq_96, lq_97, lq_100, lq_102, lq_104, lq_105, lq_120, lq_122, lq_123, lq_124, lq_125, lq_126, lq_255, lq_257, lq_600, lq_1000, lq_4096, lq_65535, lq_1000000, m10]
theorem sumD10 {mY mP : Rc} {lr g : Nat} (hlr : lr < 96) (m10 : mP 10 lr = nI g) (hg : g ≤ 600) (hv : ∀ i, i < g → mP 11 i = nI 9 → ∃ v, v < 8 ∧ mP 12 i = nI v) : ∀ (n k h : Nat) (st : List Int32) (mU : Rc), g - k < n → k ≤ g → HS mP k g h → st.length = h → h ≤ 11 → Stk st (mU 23) → ∃ mU', (∀ J, fX10_sumDepth_L12 mY mP (nI lr) J n (nI h) (nI k) mU = J mU') ∧ mU' 24 = mU 24 ∧ Stk (ev (FD (mY 4 0) (mU 24)) mP k (g - k) st) (mU' 23) ∧ (ev (FD (mY 4 0) (mU 24)) mP k (g - k) st).length = 1 := by
  intro n
  induction n with
  | zero => intro k h st mU h; omega
  | succ n ih =>
    intro k h st mU hn hk hh hl hl11 hs
    by_cases c : k < g
    · obtain ⟨l', s1, s2, s3⟩ := HS_next hh c
      rw [evc c]
      have fr : ∀ (i : Nat) (x : Int32), (rs mU 23 (upd (mU 23) i x)) 24 = mU 24 := fun i x => rs_n _ _ (by omega)
      have sk : ∀ (t : List Int32) (x : Int32), Stk t (mU 23) → Stk (x :: t) (rs mU 23 (upd (mU 23) t.length x) 23) := fun t x ht => by
        rw [rs_s]; exact ⟨upd_s _ _ _, Stk_upd t (Nat.le_refl _) ht⟩
      rcases s1 with ⟨s | s, e⟩ | ⟨s, e1, e2⟩ | ⟨c', hc', s, e1, e2⟩
      · obtain ⟨v, v8, hv'⟩ := hv k c s
        rw [s, hv', FD_of, nIc (by omega)]
        subst hl
        obtain ⟨mU', f1, f2, f3, f4⟩ := ih (k + 1) l' (mU 24 v :: st) _ (by omega) (by omega) s3 e.symm s2 (sk st (mU 24 v) hs)
        rw [fr] at f2 f3 f4
        exact ⟨mU', fun J => by rw [sd_of hlr m10 c hg hl11 s hv' v8, ← e]; exact f1 J, f2, f3, f4⟩
      · rw [s, FD_wh]
        subst hl
        obtain ⟨mU', f1, f2, f3, f4⟩ := ih (k + 1) l' (nI 0 :: st) _ (by omega) (by omega) s3 e.symm s2 (sk st (nI 0) hs)
        rw [fr] at f2 f3 f4
        exact ⟨mU', fun J => by rw [sd_wh hlr m10 c hg hl11 s, ← e]; exact f1 J, f2, f3, f4⟩
      · obtain ⟨a, t, rfl⟩ := one_of (st := st) (by omega)
        obtain ⟨h1, h2⟩ := hs
        have hl' : t.length + 1 = h := hl
        rw [s, FD_not]
        obtain ⟨mU', f1, f2, f3, f4⟩ := ih (k + 1) l' ((a + dO (mY 4 0) (nI 7)) :: t) _ (by omega) (by omega) s3 (by show t.length + 1 = l'; omega) s2 (sk t (a + dO (mY 4 0) (nI 7)) h2)
        rw [fr] at f2 f3 f4
        refine ⟨mU', fun J => ?_, f2, f3, f4⟩
        rw [← hl', sd_not hlr m10 c hg (by omega) s, h1, hl', ← e2]; exact f1 J
      · obtain ⟨b, a, t, rfl⟩ := two_of (st := st) (by omega)
        obtain ⟨h1, h2, h3⟩ := hs
        have hl' : t.length + 2 = h := hl
        have h1' : mU 23 (t.length + 1) = b := h1
        rw [s, FD_sg hc']
        obtain ⟨mU', f1, f2, f3, f4⟩ := ih (k + 1) l' ((imax a b + dO (mY 4 0) (sgN c')) :: t) _ (by omega) (by omega) s3 (by show t.length + 1 = l'; omega) s2 (sk t (imax a b + dO (mY 4 0) (sgN c')) h3)
        rw [fr] at f2 f3 f4
        refine ⟨mU', fun J => ?_, f2, f3, f4⟩
        rw [← hl', sd_sg hlr m10 c hg (by omega) s hc', h1', h2, show t.length + 1 = l' by omega]; exact f1 J
    · have : k = g := by omega
      subst this
      rw [ev0]
      exact ⟨mU, fun J => sd_end hlr m10 hg, rfl, hs, hl.trans (HS_end hh)⟩
