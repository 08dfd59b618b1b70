/-! own part (pure): blocks done, both sides -/
def jn (s a b : Int32) : Int32 := if s = 0 then a + b else if s = (1 : Int32) then a - b else if s = (2 : Int32) then a * b else if s = (3 : Int32) then a &&& b else if s = (4 : Int32) then a ||| b else if s = (5 : Int32) then a ^^^ b else if b ≤ a then 0 else 1
def FW (M : Int32) (row : Ar) (s v : Int32) (st : List Int32) : List Int32 := if s = nI 9 then row v.toNatClampNeg :: st else if s = nI 10 then (v &&& M) :: st else if s = nI 7 then un (fun a => (a ^^^ (-1)) &&& M) st else bin (fun a b => jn s a b &&& M) st
theorem FW_of {M v : Int32} {dp : Ar} {st : List Int32} : FW M dp (nI 9) v st = dp v.toNatClampNeg :: st := if_pos rfl
theorem FW_wh {M v : Int32} {dp : Ar} {st : List Int32} : FW M dp (nI 10) v st = (v &&& M) :: st := by
  unfold FW; rw [if_neg (by decide), if_pos rfl]
theorem FW_not {M v a : Int32} {dp : Ar} {st : List Int32} : FW M dp (nI 7) v (a :: st) = ((a ^^^ (-1)) &&& M) :: st := by
  unfold FW; rw [if_neg (by decide), if_neg (by decide), if_pos rfl]; rfl
theorem FW_sg {M v a b : Int32} {c : Nat} {dp : Ar} {st : List Int32} (h : isSg c = true) : FW M dp (sgN c) v (b :: a :: st) = (jn (sgN c) a b &&& M) :: st := by
  obtain ⟨h1, h2, h3⟩ := sgN_lit h
  unfold FW; rw [if_neg h1, if_neg h2, if_neg h3]; rfl
theorem joined6 {c : Nat} {a b : Int32} (h : isSg c = true) : fX1_joined (nI c) a b = some (jn (sgN c) a b) := by
  unfold fX1_joined jn
  rcases sg_cs h with rfl | rfl | rfl | rfl | rfl | rfl | rfl
  · rfl
  · rfl
  · rfl
  · rfl
  · rfl
  · rfl
  · show (if b ≤ a then some (0 : Int32) else some 1) = some (if b ≤ a then 0 else 1)
    split <;> rfl
def lw10 (mY : Rc) : Int32 := ((1 : Int32) <<< ((mY 4 0) &&& 31)) - (1 : Int32)
theorem low10 (mY : Rc) (x : Int32) : fX10_low mY x = some (x &&& lw10 mY) := rfl
/-- one step of the class's worth -/
theorem cw_of {oP oQ oQ1 : Rc} {oO : Ar} {M : Int32} {J : Rc → Option (Int32 × Rc)} {n lc g k v : Nat} (hlc : lc < 96) (o10 : oP 10 (lc + 1) = nI g) (hk : k < g) (hg : g ≤ 600) (s : oP 11 k = nI 4) (hv : oP 12 k = nI v) (v8 : v < 8) (hp : fX3_push oQ (oO v) = some oQ1) : fX1_worth_L15 oP oO (nI lc) M J (n + 1) (nI k) oQ = fX1_worth_L15 oP oO (nI lc) M J n (nI (k + 1)) oQ1 := by
  rw [fX1_worth_L15_s]
  simp (disch := omega) only [↓zLet_q, ↓zJn_q, ↓reduceIte, zB1_q, zB2_q, zB3_q, zB4_q, zB5_q, zB6_q, zB7_q, zGd_in, zGd_b0, zGd_b1, rs_s, rs_n, upd_s, upd_n, ne_eq, not_true, not_false_iff, ↓imax_e, nI_1, nI_add, nI_mul, nI_sub, nIc, nI_le_t, nI_le_f, nI_lt_t, nI_lt_f, nI_eq_t, nI_eq_f, nI_m1, nI_m1', nI_m2, nI_lt0, ↓lr_m1, ↓lr_m2, ↓lr_m8, ↓lr_mm, lr_0, lr_1, lr_2, lr_3, lr_4, lr_5, lr_6, lr_7, lr_8, lr_9, lr_10, lr_12, lr_16, lr_20, lr_24, lr_31, lr_32, lr_40, lr_41, lr_42, lr_43, lr_45, lr_38, lr_48, lr_50, lr_57, lr_59, lr_60, lr_61, lr_63, lr_94, lr_96, lr_97, lr_100, lr_102, lr_104, lr_105, lr_120, lr_122, lr_123, lr_124, lr_125, lr_126, lr_255, lr_257, lr_600, lr_1000, lr_4096, lr_65535, lr_1000000, o10, s, hv, hp]
theorem cw_wh {oP oQ oQ1 : Rc} {oO : Ar} {M v : Int32} {J : Rc → Option (Int32 × Rc)} {n lc g k : Nat} (hlc : lc < 96) (o10 : oP 10 (lc + 1) = nI g) (hk : k < g) (hg : g ≤ 600) (s : oP 11 k = nI 3) (hv : oP 12 k = v) (hp : fX3_push oQ (v &&& M) = some oQ1) : fX1_worth_L15 oP oO (nI lc) M J (n + 1) (nI k) oQ = fX1_worth_L15 oP oO (nI lc) M J n (nI (k + 1)) oQ1 := by
  rw [fX1_worth_L15_s]
  simp (disch := omega) only [↓zLet_q, ↓zJn_q, ↓reduceIte, zB1_q, zB2_q, zB3_q, zB4_q, zB5_q, zB6_q, zB7_q, zGd_in, zGd_b0, zGd_b1, rs_s, rs_n, upd_s, upd_n, ne_eq, not_true, not_false_iff, ↓imax_e, nI_1, nI_add, nI_mul, nI_sub, nIc, nI_le_t, nI_le_f, nI_lt_t, nI_lt_f, nI_eq_t, nI_eq_f, nI_m1, nI_m1', nI_m2, nI_lt0, ↓lr_m1, ↓lr_m2, ↓lr_m8, ↓lr_mm, lr_0, lr_1, lr_2, lr_3, lr_4, lr_5, lr_6, lr_7, lr_8, lr_9, lr_10, lr_12, lr_16, lr_20, lr_24, lr_31, lr_32, lr_40, lr_41, lr_42, lr_43, lr_45, lr_38, lr_48, lr_50, lr_57, lr_59, lr_60, lr_61, lr_63, lr_94, lr_96, lr_97, lr_100, lr_102, lr_104, lr_105, lr_120, lr_122, lr_123, lr_124, lr_125, lr_126, lr_255, lr_257, lr_600, lr_1000, lr_4096, lr_65535, lr_1000000, o10, s, hv, hp]
theorem cw_not {oP oQ oQ1 oQ2 : Rc} {oO : Ar} {M x y : Int32} {J : Rc → Option (Int32 × Rc)} {n lc g k : Nat} (hlc : lc < 96) (o10 : oP 10 (lc + 1) = nI g) (hk : k < g) (hg : g ≤ 600) (s : oP 11 k = nI 126) (hp : fX3_pop oQ = some (x, oQ1)) (hy : (x ^^^ (-1 : Int32)) &&& M = y) (hp' : fX3_push oQ1 y = some oQ2) : fX1_worth_L15 oP oO (nI lc) M J (n + 1) (nI k) oQ = fX1_worth_L15 oP oO (nI lc) M J n (nI (k + 1)) oQ2 := by
  rw [fX1_worth_L15_s]
  simp (disch := omega) only [↓zLet_q, zGd_in, nIc, nI_1, o10, nI_le_f, ↓reduceIte, s, lr_4, lr_3, lr_126, nI_eq_f, nI_eq_t, hp, zB2_q, hy, hp', zB1_q]
theorem cw_sg {oP oQ oQ1 oQ2 oQ3 : Rc} {oO : Ar} {M x y z : Int32} {J : Rc → Option (Int32 × Rc)} {n lc g k c : Nat} (hlc : lc < 96) (o10 : oP 10 (lc + 1) = nI g) (hk : k < g) (hg : g ≤ 600) (s : oP 11 k = nI c) (hc : isSg c = true) (hp : fX3_pop oQ = some (x, oQ1)) (hp' : fX3_pop oQ1 = some (y, oQ2)) (hj : fX1_joined (nI c) y x = some z) (hp2 : fX3_push oQ2 (z &&& M) = some oQ3) : fX1_worth_L15 oP oO (nI lc) M J (n + 1) (nI k) oQ = fX1_worth_L15 oP oO (nI lc) M J n (nI (k + 1)) oQ3 := by
  have hcc := sg_cs hc
  rw [fX1_worth_L15_s]
  simp (disch := omega) only [↓zLet_q, ↓zJn_q, ↓reduceIte, zB1_q, zB2_q, zB3_q, zB4_q, zB5_q, zB6_q, zB7_q, zGd_in, zGd_b0, zGd_b1, rs_s, rs_n, upd_s, upd_n, ne_eq, not_true, not_false_iff, ↓imax_e, nI_1, nI_add, nI_mul, nI_sub, nIc, nI_le_t, nI_le_f, nI_lt_t, nI_lt_f, nI_eq_t, nI_eq_f, nI_m1, nI_m1', nI_m2, nI_lt0, ↓lr_m1, ↓lr_m2, ↓lr_m8, ↓lr_mm, lr_0, lr_1, lr_2, lr_3, lr_4, lr_5, lr_6, lr_7, lr_8, lr_9, lr_10, lr_12, lr_16, lr_20, lr_24, lr_31, lr_32, lr_40, lr_41, lr_42, lr_43, lr_45, lr_38, lr_48, lr_50, lr_57, lr_59, lr_60, lr_61, lr_63, lr_94, lr_96, lr_97, lr_100, lr_102, lr_104, lr_105, lr_120, lr_122, lr_123, lr_124, lr_125, lr_126, lr_255, lr_257, lr_600, lr_1000, lr_4096, lr_65535, lr_1000000, o10, s, hp, hp', hj, hp2]
theorem cw_end {oP oQ : Rc} {oO : Ar} {M : Int32} {J : Rc → Option (Int32 × Rc)} {n lc g : Nat} (hlc : lc < 96) (o10 : oP 10 (lc + 1) = nI g) (hg : g ≤ 600) : fX1_worth_L15 oP oO (nI lc) M J (n + 1) (nI g) oQ = J oQ := by
  rw [fX1_worth_L15_s]
  simp (disch := omega) only [↓zLet_q, ↓zJn_q, ↓reduceIte, zB1_q, zB2_q, zB3_q, zB4_q, zB5_q, zB6_q, zB7_q, zGd_in, zGd_b0, zGd_b1, rs_s, rs_n, upd_s, upd_n, ne_eq, not_true, not_false_iff, ↓imax_e, nI_1, nI_add, nI_mul, nI_sub, nIc, nI_le_t, nI_le_f, nI_lt_t, nI_lt_f, nI_eq_t, nI_eq_f, nI_m1, nI_m1', nI_m2, nI_lt0, ↓lr_m1, ↓lr_m2, ↓lr_m8, ↓lr_mm, lr_0, lr_1, lr_2, lr_3, lr_4, lr_5, lr_6, lr_7, lr_8, lr_9, lr_10, lr_12, lr_16, lr_20, lr_24, lr_31, lr_32, lr_40, lr_41, lr_42, lr_43, lr_45, lr_38, lr_48, lr_50, lr_57, lr_59, lr_60, lr_61, lr_63, lr_94, lr_96, lr_97, lr_100, lr_102, lr_104, lr_105, lr_120, lr_122, lr_123, lr_124, lr_125, lr_126, lr_255, lr_257, lr_600, lr_1000, lr_4096, lr_65535, lr_1000000, o10]
theorem sumW6 {oP mP : Rc} {M : Int32} {oO : Ar} {lc g : Nat} (hlc : lc < 96) (o10 : oP 10 (lc + 1) = nI g) (hg : g ≤ 600) (hst : StR oP mP g) : ∀ (n k h : Nat) (st : List Int32) (oQ : Rc), g - k < n → k ≤ g → HS mP k g h → st.length = h → h ≤ 11 → Stk st (oQ 0) → oQ 1 0 = nI h → ∃ oQ', (∀ J, fX1_worth_L15 oP oO (nI lc) M J n (nI k) oQ = J oQ') ∧ Stk (ev (FW M oO) mP k (g - k) st) (oQ' 0) ∧ oQ' 1 0 = nI 1 ∧ (ev (FW M oO) mP k (g - k) st).length = 1 := by
  intro n
  induction n with
  | zero => intro k h st oQ h; omega
  | succ n ih =>
    intro k h st oQ hn hk hh hl hl11 hs h1
    by_cases c : k < g
    · obtain ⟨l', s1, s2, s3⟩ := HS_next hh c
      obtain ⟨hK, hV, hV8⟩ := hst k c
      rw [evc c]
      rcases step_cases hK s1 with ⟨ka, kb, e⟩ | ⟨ka, kb, e⟩ | ⟨ka, kb, e1, e2⟩ | ⟨c', hc', ka, kb, e1, e2⟩
      · obtain ⟨v, v8, hv'⟩ := hV8 ka
        subst hl
        obtain ⟨oQ1, p1, p2, p3⟩ := push6 (v := oO v) hs h1 (by omega)
        rw [kb, ← hV, hv', FW_of, nIc (by omega)]
        obtain ⟨oQ', r1, r3, r4, r5⟩ := ih (k + 1) l' (oO v :: st) oQ1 (by omega) (by omega) s3 e.symm s2 p2 (by rw [p3, e])
        exact ⟨oQ', fun J => by rw [cw_of hlc o10 c hg ka hv' v8 p1]; exact r1 J, r3, r4, r5⟩
      · subst hl
        obtain ⟨oQ1, p1, p2, p3⟩ := push6 (v := mP 12 k &&& M) hs h1 (by omega)
        rw [kb, FW_wh]
        obtain ⟨oQ', r1, r3, r4, r5⟩ := ih (k + 1) l' ((mP 12 k &&& M) :: st) oQ1 (by omega) (by omega) s3 e.symm s2 p2 (by rw [p3, e])
        exact ⟨oQ', fun J => by rw [cw_wh hlc o10 c hg ka hV p1]; exact r1 J, r3, r4, r5⟩
      · obtain ⟨a, t, rfl⟩ := one_of (st := st) (by omega)
        have hl' : t.length + 1 = h := hl
        obtain ⟨oQ1, p1, p2, p3⟩ := pop6 hs (by rw [h1, hl']) (by omega)
        obtain ⟨oQ2, q1, q2, q3⟩ := push6 (v := (a ^^^ (-1)) &&& M) p2 p3 (by omega)
        rw [kb, FW_not]
        obtain ⟨oQ', r1, r3, r4, r5⟩ := ih (k + 1) l' (((a ^^^ (-1)) &&& M) :: t) oQ2 (by omega) (by omega) s3 (by show t.length + 1 = l'; omega) s2 q2 (by rw [q3, hl', e2])
        exact ⟨oQ', fun J => by rw [cw_not hlc o10 c hg ka p1 rfl q1]; exact r1 J, r3, r4, r5⟩
      · obtain ⟨bb, a, t, rfl⟩ := two_of (st := st) (by omega)
        have hl' : t.length + 2 = h := hl
        obtain ⟨oQ1, p1, p2, p3⟩ := pop6 hs (by rw [h1, ← hl']; rfl) (by show t.length + 1 < 12; omega)
        obtain ⟨oQ2, p1', p2', p3'⟩ := pop6 p2 p3 (by omega)
        obtain ⟨oQ3, q1, q2, q3⟩ := push6 (v := jn (sgN c') a bb &&& M) p2' p3' (by omega)
        rw [kb, FW_sg hc']
        obtain ⟨oQ', r1, r3, r4, r5⟩ := ih (k + 1) l' ((jn (sgN c') a bb &&& M) :: t) oQ3 (by omega) (by omega) s3 (by show t.length + 1 = l'; omega) s2 q2 (by rw [q3, show t.length + 1 = l' by omega])
        exact ⟨oQ', fun J => by rw [cw_sg hlc o10 c hg ka hc' p1 p1' (joined6 hc') q1]; exact r1 J, r3, r4, r5⟩
    · have : k = g := by omega
      subst this
      rw [ev0]
      have := HS_end hh
      exact ⟨oQ, fun J => cw_end hlc o10 hg, hs, by rw [h1, this], hl.trans this⟩
/-- one step of the reference's worked -/
theorem rw_of {mY mP mU : Rc} {mR : Ar} {J : Rc → Option (Int32 × Rc)} {n lr g k h v : Nat} (hlr : lr < 96) (m10 : mP 10 lr = nI g) (hk : k < g) (hg : g ≤ 600) (hh : h ≤ 11) (s : mP 11 k = nI 9) (hv : mP 12 k = nI v) (v8 : v < 8) : fX10_worked_L13 mY mP mR (nI lr) J (n + 1) (nI h) (nI k) mU = fX10_worked_L13 mY mP mR (nI lr) J n (nI (h + 1)) (nI (k + 1)) (rs mU 23 (upd (mU 23) h (mR v))) := by
  rw [fX10_worked_L13_s]
  simp (disch := omega) only [↓zLet_q, ↓zJn_q, zGd_in, nIc, nI_1, m10, nI_le_f, ↓reduceIte, s, hv, lr_9, nI_eq_t]
theorem rw_wh {mY mP mU : Rc} {mR : Ar} {J : Rc → Option (Int32 × Rc)} {n lr g k h : Nat} (hlr : lr < 96) (m10 : mP 10 lr = nI g) (hk : k < g) (hg : g ≤ 600) (hh : h ≤ 11) (s : mP 11 k = nI 10) : fX10_worked_L13 mY mP mR (nI lr) J (n + 1) (nI h) (nI k) mU = fX10_worked_L13 mY mP mR (nI lr) J n (nI (h + 1)) (nI (k + 1)) (rs mU 23 (upd (mU 23) h (mP 12 k &&& lw10 mY))) := by
  rw [fX10_worked_L13_s]
  simp (disch := omega) only [↓zLet_q, ↓zJn_q, zGd_in, nIc, nI_1, m10, nI_le_f, ↓reduceIte, s, lr_9, lr_10, nI_eq_t, nI_eq_f, low10, zB1_q]
theorem rw_not {mY mP mU : Rc} {mR : Ar} {J : Rc → Option (Int32 × Rc)} {n lr g k h : Nat} (hlr : lr < 96) (m10 : mP 10 lr = nI g) (hk : k < g) (hg : g ≤ 600) (hh : h ≤ 11) (s : mP 11 k = nI 7) : fX10_worked_L13 mY mP mR (nI lr) J (n + 1) (nI (h + 1)) (nI k) mU = fX10_worked_L13 mY mP mR (nI lr) J n (nI (h + 1)) (nI (k + 1)) (rs mU 23 (upd (mU 23) h ((mU 23 h ^^^ (-1)) &&& lw10 mY))) := by
  have e2 : nI (h + 1) - (1 : Int32) = nI h := nI_pred h
  rw [fX10_worked_L13_s]
  simp (disch := omega) only [↓zLet_q, ↓zJn_q, zGd_in, nIc, nI_1, m10, nI_le_f, ↓reduceIte, s, e2, lr_9, lr_10, lr_7, nI_eq_t, nI_eq_f, low10, zB1_q]
theorem rw_sg {mY mP mU : Rc} {mR : Ar} {J : Rc → Option (Int32 × Rc)} {n lr g k h c : Nat} (hlr : lr < 96) (m10 : mP 10 lr = nI g) (hk : k < g) (hg : g ≤ 600) (hh : h ≤ 11) (s : mP 11 k = sgN c) (hc : isSg c = true) : fX10_worked_L13 mY mP mR (nI lr) J (n + 1) (nI (h + 2)) (nI k) mU = fX10_worked_L13 mY mP mR (nI lr) J n (nI (h + 1)) (nI (k + 1)) (rs mU 23 (upd (mU 23) h (jn (sgN c) (mU 23 h) (mU 23 (h + 1)) &&& lw10 mY))) := by
  obtain ⟨g1, g2, g3⟩ := sgN_lit hc
  have e1 : nI (h + 2) + (-1) = nI (h + 1) := nI_decs (a := h + 2) (by omega)
  have e2 : nI (h + 1) - (1 : Int32) = nI h := nI_pred h
  replace g1 : ¬ sgN c = (9 : Int32) := g1
  replace g2 : ¬ sgN c = (10 : Int32) := g2
  replace g3 : ¬ sgN c = (7 : Int32) := g3
  rw [fX10_worked_L13_s, e1]
  generalize sgN c = sg at *
  simp (disch := omega) only [↓zLet_q, ↓zJn_q, zGd_in, nIc, nI_1, m10, nI_le_f, ↓reduceIte, s, e2, g1, g2, g3, low10, zB1_q]
  unfold jn
  by_cases c0 : sg = 0
  · simp only [if_pos c0]
  · simp only [if_neg c0]
    by_cases c1 : sg = 1
    · simp only [if_pos c1]
    · simp only [if_neg c1]
      by_cases c2 : sg = 2
      · simp only [if_pos c2]
      · simp only [if_neg c2]
        by_cases c3 : sg = 3
        · simp only [if_pos c3]
        · simp only [if_neg c3]
          by_cases c4 : sg = 4
          · simp only [if_pos c4]
          · simp only [if_neg c4]
            by_cases c5 : sg = 5
            · simp only [if_pos c5]
            · simp only [if_neg c5]
              by_cases c6 : mU 23 (h + 1) ≤ mU 23 h
              · simp only [if_pos c6]
              · simp only [if_neg c6]
theorem rw_end {mY mP mU : Rc} {mR : Ar} {J : Rc → Option (Int32 × Rc)} {n lr g : Nat} {x : Int32} (hlr : lr < 96) (m10 : mP 10 lr = nI g) (hg : g ≤ 600) : fX10_worked_L13 mY mP mR (nI lr) J (n + 1) x (nI g) mU = J mU := by
  rw [fX10_worked_L13_s]
  simp (disch := omega) only [zGd_in, nIc, m10, nI_le_t, ↓reduceIte]
theorem sumW10 {mY mP : Rc} {mR : Ar} {lr g : Nat} (hlr : lr < 96) (m10 : mP 10 lr = nI g) (hg : g ≤ 600) (hv : ∀ i, i < g → mP 11 i = nI 9 → ∃ v, v < 8 ∧ mP 12 i = nI v) : ∀ (n k h : Nat) (st : List Int32) (mU : Rc), g - k < n → k ≤ g → HS mP k g h → st.length = h → h ≤ 11 → Stk st (mU 23) → ∃ mU', (∀ J, fX10_worked_L13 mY mP mR (nI lr) J n (nI h) (nI k) mU = J mU') ∧ Stk (ev (FW (lw10 mY) mR) mP k (g - k) st) (mU' 23) ∧ (ev (FW (lw10 mY) mR) mP k (g - k) st).length = 1 := by
  intro n
  induction n with
  | zero => intro k h st mU h; omega
  | succ n ih =>
    intro k h st mU hn hk hh hl hl11 hs
    by_cases c : k < g
    · obtain ⟨l', s1, s2, s3⟩ := HS_next hh c
      rw [evc c]
      have sk : ∀ (t : List Int32) (x : Int32), Stk t (mU 23) → Stk (x :: t) (rs mU 23 (upd (mU 23) t.length x) 23) := fun t x ht => by
        rw [rs_s]; exact ⟨upd_s _ _ _, Stk_upd t (Nat.le_refl _) ht⟩
      rcases s1 with ⟨s | s, e⟩ | ⟨s, e1, e2⟩ | ⟨c', hc', s, e1, e2⟩
      · obtain ⟨v, v8, hv'⟩ := hv k c s
        rw [s, hv', FW_of, nIc (by omega)]
        subst hl
        obtain ⟨mU', f1, f3, f4⟩ := ih (k + 1) l' (mR v :: st) _ (by omega) (by omega) s3 e.symm s2 (sk st (mR v) hs)
        exact ⟨mU', fun J => by rw [rw_of hlr m10 c hg hl11 s hv' v8, ← e]; exact f1 J, f3, f4⟩
      · rw [s, FW_wh]
        subst hl
        obtain ⟨mU', f1, f3, f4⟩ := ih (k + 1) l' ((mP 12 k &&& lw10 mY) :: st) _ (by omega) (by omega) s3 e.symm s2 (sk st (mP 12 k &&& lw10 mY) hs)
        exact ⟨mU', fun J => by rw [rw_wh hlr m10 c hg hl11 s, ← e]; exact f1 J, f3, f4⟩
      · obtain ⟨a, t, rfl⟩ := one_of (st := st) (by omega)
        obtain ⟨h1, h2⟩ := hs
        have hl' : t.length + 1 = h := hl
        rw [s, FW_not]
        obtain ⟨mU', f1, f3, f4⟩ := ih (k + 1) l' (((a ^^^ (-1)) &&& lw10 mY) :: t) _ (by omega) (by omega) s3 (by show t.length + 1 = l'; omega) s2 (sk t ((a ^^^ (-1)) &&& lw10 mY) h2)
        refine ⟨mU', fun J => ?_, f3, f4⟩
        rw [← hl', rw_not hlr m10 c hg (by omega) s, h1, hl', ← e2]; exact f1 J
      · obtain ⟨b, a, t, rfl⟩ := two_of (st := st) (by omega)
        obtain ⟨h1, h2, h3⟩ := hs
        have hl' : t.length + 2 = h := hl
        have h1' : mU 23 (t.length + 1) = b := h1
        rw [s, FW_sg hc']
        obtain ⟨mU', f1, f3, f4⟩ := ih (k + 1) l' ((jn (sgN c') a b &&& lw10 mY) :: t) _ (by omega) (by omega) s3 (by show t.length + 1 = l'; omega) s2 (sk t (jn (sgN c') a b &&& lw10 mY) h3)
        refine ⟨mU', fun J => ?_, f3, f4⟩
        rw [← hl', rw_sg hlr m10 c hg (by omega) s hc', h1', h2, show t.length + 1 = l' by omega]; exact f1 J
    · have : k = g := by omega
      subst this
      rw [ev0]
      exact ⟨mU, fun J => rw_end hlr m10 hg, hs, hl.trans (HS_end hh)⟩
