def fX10_thrown (mZ : Rc) : Option (Int32) :=
  some (mZ 0 0)
abbrev rX10_thrown : Room := { frames := 0, cells := 0, slots := 0, locals := 0 }
set_option maxHeartbeats 4000000 in
set_option maxRecDepth 100000 in
theorem mtX10_thrown (l : Launch) (dC : Nat → ClassId) (dI : Nat → Nat → Nat) (cI cB : ClassId) (bV bP bS bW bN bO : Nat → Nat) (sz : Nat) (mZ : Rc) (mY : Rc) (mB : Rc) (mL : Rc) (mU : Rc) (mJ : Rc) (mK : Rc) (mG : Rc) (mA : Rc) {ov : Int32} (hf : fX10_thrown mZ = some ov) : zMi l yX10_thrown (Cond.code yX10_thrown cX10_thrown 1 (some .int) :: lw_g) rX10_thrown (dC, dI) [(cI, .int), (cB, .byte)] [.ref (bV 0)] sz (kX10 cI cB bV (bP 0) (bS 0) (bW 0) (bN 0) (bO 0) mZ mY mB mL mU mJ mK mG mA) ov (kX10 cI cB bV (bP 0) (bS 0) (bW 0) (bN 0) (bO 0) mZ mY mB mL mU mJ mK mG mA) := by
  refine zSt (cc := cX10_thrown) (maxL := 1) (ret := (some .int)) (own := RX10) (fun A => zQi (dC, dI) [(cI, .int), (cB, .byte)] A ov (kX10 cI cB bV (bP 0) (bS 0) (bW 0) (bN 0) (bO 0) mZ mY mB mL mU mJ mK mG mA)) (by decide) rfl rfl (Nat.le_of_ble_eq_true rfl) ?_
  intro p e s m below meth c ls A H locs C hK hA hP hD hS hl
  generalize hQ : MQ below (zQi (dC, dI) [(cI, .int), (cB, .byte)] A ov (kX10 cI cB bV (bP 0) (bS 0) (bW 0) (bN 0) (bO 0) mZ mY mB mL mU mJ mK mG mA)) _ s 0 0 A = QQ
  generalize ([.ref (bV 0)] : List Value).toArray = args at C hQ ⊢
  have hl : lv_has ls 1 [(0, .ref (bV 0))] := hl
  unfold fX10_thrown at hf
  refine lv_aload_n C.1.1 C.1.2.1 dX10_thrown_0 rfl (lv_at hl 0 rfl) ?_
  refine zGet (.int (mZ 0 0)) C.1 wuX10 hK hP 0 rfl rfl 0 (by decide) wfX10_86 rfl rfl dX10_thrown_1 ?_
  cases hf
  rw [← hQ]
  exact zRi C hK hP hD hS dX10_thrown_4
def fX10_refused (mZ : Rc) (p1 : Int32) : Option (Int32 × Rc) :=
  zLet (rs mZ 1 (fun _ => p1)) fun mZ_1 =>
  zLet (rs mZ_1 2 (fun _ => (-1 : Int32))) fun mZ_2 =>
  some ((-1 : Int32), mZ_2)
abbrev rX10_refused : Room := { frames := 0, cells := 0, slots := 0, locals := 0 }
set_option maxHeartbeats 4000000 in
set_option maxRecDepth 100000 in
theorem mtX10_refused (l : Launch) (dC : Nat → ClassId) (dI : Nat → Nat → Nat) (cI cB : ClassId) (bV bP bS bW bN bO : Nat → Nat) (sz : Nat) (mZ : Rc) (mY : Rc) (mB : Rc) (mL : Rc) (mU : Rc) (mJ : Rc) (mK : Rc) (mG : Rc) (mA : Rc) (p1 : Int32) {ov : Int32} {mZ' : Rc} (hf : fX10_refused mZ p1 = some (ov, mZ')) : zMi l yX10_refused (Cond.code yX10_refused cX10_refused 2 (some .int) :: lw_g) rX10_refused (dC, dI) [(cI, .int), (cB, .byte)] [.ref (bV 0), .int p1] sz (kX10 cI cB bV (bP 0) (bS 0) (bW 0) (bN 0) (bO 0) mZ mY mB mL mU mJ mK mG mA) ov (kX10 cI cB bV (bP 0) (bS 0) (bW 0) (bN 0) (bO 0) mZ' mY mB mL mU mJ mK mG mA) := by
  refine zSt (cc := cX10_refused) (maxL := 2) (ret := (some .int)) (own := RX10) (fun A => zQi (dC, dI) [(cI, .int), (cB, .byte)] A ov (kX10 cI cB bV (bP 0) (bS 0) (bW 0) (bN 0) (bO 0) mZ' mY mB mL mU mJ mK mG mA)) (by decide) rfl rfl (Nat.le_of_ble_eq_true rfl) ?_
  intro p e s m below meth c ls A H locs C hK hA hP hD hS hl
  generalize hQ : MQ below (zQi (dC, dI) [(cI, .int), (cB, .byte)] A ov (kX10 cI cB bV (bP 0) (bS 0) (bW 0) (bN 0) (bO 0) mZ' mY mB mL mU mJ mK mG mA)) _ s 0 0 A = QQ
  generalize ([.ref (bV 0), .int p1] : List Value).toArray = args at C hQ ⊢
  have hl : lv_has ls 2 [(0, .ref (bV 0)), (1, .int p1)] := hl
  unfold fX10_refused at hf
  refine lv_aload_n C.1.1 C.1.2.1 dX10_refused_0 rfl (lv_at hl 0 rfl) ?_
  refine lv_iload_n C.1.1 C.1.2.1 dX10_refused_1 rfl (lv_at hl 1 rfl) ?_
  obtain ⟨mZ_1, emZ_1, hf⟩ := zLet_el hf
  refine zPut (ty := .int) (kX10 cI cB bV (bP 0) (bS 0) (bW 0) (bN 0) (bO 0) mZ_1 mY mB mL mU mJ mK mG mA) C.1 wuX10 tyX10 tyX10_ok nmX10 hK hP hD hS 0 rfl rfl 1 (by decide) wfX10_89 rfl rfl (by decide +kernel) rfl rfl (Nat.le_of_ble_eq_true rfl) dX10_refused_2 (by rw [emZ_1]; rfl) (fun H locs hP hD hS => ?_)
  refine lv_aload_n C.1.1 C.1.2.1 dX10_refused_5 rfl (lv_at hl 0 rfl) ?_
  refine lv_iconst (v := (-1)) C.1.1 C.1.2.1 dX10_refused_6 (by decide) ?_
  obtain ⟨mZ_2, emZ_2, hf⟩ := zLet_el hf
  refine zPut (ty := .int) (kX10 cI cB bV (bP 0) (bS 0) (bW 0) (bN 0) (bO 0) mZ_2 mY mB mL mU mJ mK mG mA) C.1 wuX10 tyX10 tyX10_ok nmX10 hK hP hD hS 0 rfl rfl 2 (by decide) wfX10_9 rfl rfl (by decide +kernel) rfl rfl (Nat.le_of_ble_eq_true rfl) dX10_refused_7 (by rw [emZ_2]; rfl) (fun H locs hP hD hS => ?_)
  refine lv_iconst (v := (-1)) C.1.1 C.1.2.1 dX10_refused_10 (by decide) ?_
  cases hf
  rw [← hQ]
  exact zRi C hK hP hD hS dX10_refused_11
def fX10_denied (mZ : Rc) (p1 : Int32) : Option (Int32 × Rc) :=
  zLet (rs mZ 1 (fun _ => p1)) fun mZ_1 =>
  zLet (rs mZ_1 2 (fun _ => (-1 : Int32))) fun mZ_2 =>
  some ((0 : Int32), mZ_2)
abbrev rX10_denied : Room := { frames := 0, cells := 0, slots := 0, locals := 0 }
set_option maxHeartbeats 4000000 in
set_option maxRecDepth 100000 in
theorem mtX10_denied (l : Launch) (dC : Nat → ClassId) (dI : Nat → Nat → Nat) (cI cB : ClassId) (bV bP bS bW bN bO : Nat → Nat) (sz : Nat) (mZ : Rc) (mY : Rc) (mB : Rc) (mL : Rc) (mU : Rc) (mJ : Rc) (mK : Rc) (mG : Rc) (mA : Rc) (p1 : Int32) {ov : Int32} {mZ' : Rc} (hf : fX10_denied mZ p1 = some (ov, mZ')) : zMi l yX10_denied (Cond.code yX10_denied cX10_denied 2 (some .boolean) :: lw_g) rX10_denied (dC, dI) [(cI, .int), (cB, .byte)] [.ref (bV 0), .int p1] sz (kX10 cI cB bV (bP 0) (bS 0) (bW 0) (bN 0) (bO 0) mZ mY mB mL mU mJ mK mG mA) ov (kX10 cI cB bV (bP 0) (bS 0) (bW 0) (bN 0) (bO 0) mZ' mY mB mL mU mJ mK mG mA) := by
  refine zSt (cc := cX10_denied) (maxL := 2) (ret := (some .boolean)) (own := RX10) (fun A => zQi (dC, dI) [(cI, .int), (cB, .byte)] A ov (kX10 cI cB bV (bP 0) (bS 0) (bW 0) (bN 0) (bO 0) mZ' mY mB mL mU mJ mK mG mA)) (by decide) rfl rfl (Nat.le_of_ble_eq_true rfl) ?_
  intro p e s m below meth c ls A H locs C hK hA hP hD hS hl
  generalize hQ : MQ below (zQi (dC, dI) [(cI, .int), (cB, .byte)] A ov (kX10 cI cB bV (bP 0) (bS 0) (bW 0) (bN 0) (bO 0) mZ' mY mB mL mU mJ mK mG mA)) _ s 0 0 A = QQ
  generalize ([.ref (bV 0), .int p1] : List Value).toArray = args at C hQ ⊢
  have hl : lv_has ls 2 [(0, .ref (bV 0)), (1, .int p1)] := hl
  unfold fX10_denied at hf
  refine lv_aload_n C.1.1 C.1.2.1 dX10_denied_0 rfl (lv_at hl 0 rfl) ?_
  refine lv_iload_n C.1.1 C.1.2.1 dX10_denied_1 rfl (lv_at hl 1 rfl) ?_
  obtain ⟨mZ_1, emZ_1, hf⟩ := zLet_el hf
  refine zPut (ty := .int) (kX10 cI cB bV (bP 0) (bS 0) (bW 0) (bN 0) (bO 0) mZ_1 mY mB mL mU mJ mK mG mA) C.1 wuX10 tyX10 tyX10_ok nmX10 hK hP hD hS 0 rfl rfl 1 (by decide) wfX10_89 rfl rfl (by decide +kernel) rfl rfl (Nat.le_of_ble_eq_true rfl) dX10_denied_2 (by rw [emZ_1]; rfl) (fun H locs hP hD hS => ?_)
  refine lv_aload_n C.1.1 C.1.2.1 dX10_denied_5 rfl (lv_at hl 0 rfl) ?_
  refine lv_iconst (v := (-1)) C.1.1 C.1.2.1 dX10_denied_6 (by decide) ?_
  obtain ⟨mZ_2, emZ_2, hf⟩ := zLet_el hf
  refine zPut (ty := .int) (kX10 cI cB bV (bP 0) (bS 0) (bW 0) (bN 0) (bO 0) mZ_2 mY mB mL mU mJ mK mG mA) C.1 wuX10 tyX10 tyX10_ok nmX10 hK hP hD hS 0 rfl rfl 2 (by decide) wfX10_9 rfl rfl (by decide +kernel) rfl rfl (Nat.le_of_ble_eq_true rfl) dX10_denied_7 (by rw [emZ_2]; rfl) (fun H locs hP hD hS => ?_)
  refine lv_iconst (v := 0) C.1.1 C.1.2.1 dX10_denied_10 (by decide) ?_
  cases hf
  rw [← hQ]
  exact zRz C (by decide +kernel) hK hP hD hS dX10_denied_11
def fX10_done (mZ : Rc) (p1 : Int32) : Option (Int32 × Rc) :=
  zLet (rs mZ 1 (fun _ => (0 : Int32))) fun mZ_1 =>
  zLet (rs mZ_1 2 (fun _ => (-1 : Int32))) fun mZ_2 =>
  some (p1, mZ_2)
abbrev rX10_done : Room := { frames := 0, cells := 0, slots := 0, locals := 0 }
set_option maxHeartbeats 4000000 in
set_option maxRecDepth 100000 in
theorem mtX10_done (l : Launch) (dC : Nat → ClassId) (dI : Nat → Nat → Nat) (cI cB : ClassId) (bV bP bS bW bN bO : Nat → Nat) (sz : Nat) (mZ : Rc) (mY : Rc) (mB : Rc) (mL : Rc) (mU : Rc) (mJ : Rc) (mK : Rc) (mG : Rc) (mA : Rc) (p1 : Int32) {ov : Int32} {mZ' : Rc} (hf : fX10_done mZ p1 = some (ov, mZ')) : zMi l yX10_done (Cond.code yX10_done cX10_done 2 (some .int) :: lw_g) rX10_done (dC, dI) [(cI, .int), (cB, .byte)] [.ref (bV 0), .int p1] sz (kX10 cI cB bV (bP 0) (bS 0) (bW 0) (bN 0) (bO 0) mZ mY mB mL mU mJ mK mG mA) ov (kX10 cI cB bV (bP 0) (bS 0) (bW 0) (bN 0) (bO 0) mZ' mY mB mL mU mJ mK mG mA) := by
  refine zSt (cc := cX10_done) (maxL := 2) (ret := (some .int)) (own := RX10) (fun A => zQi (dC, dI) [(cI, .int), (cB, .byte)] A ov (kX10 cI cB bV (bP 0) (bS 0) (bW 0) (bN 0) (bO 0) mZ' mY mB mL mU mJ mK mG mA)) (by decide) rfl rfl (Nat.le_of_ble_eq_true rfl) ?_
  intro p e s m below meth c ls A H locs C hK hA hP hD hS hl
  generalize hQ : MQ below (zQi (dC, dI) [(cI, .int), (cB, .byte)] A ov (kX10 cI cB bV (bP 0) (bS 0) (bW 0) (bN 0) (bO 0) mZ' mY mB mL mU mJ mK mG mA)) _ s 0 0 A = QQ
  generalize ([.ref (bV 0), .int p1] : List Value).toArray = args at C hQ ⊢
  have hl : lv_has ls 2 [(0, .ref (bV 0)), (1, .int p1)] := hl
  unfold fX10_done at hf
  refine lv_aload_n C.1.1 C.1.2.1 dX10_done_0 rfl (lv_at hl 0 rfl) ?_
  refine lv_iconst (v := 0) C.1.1 C.1.2.1 dX10_done_1 (by decide) ?_
  obtain ⟨mZ_1, emZ_1, hf⟩ := zLet_el hf
  refine zPut (ty := .int) (kX10 cI cB bV (bP 0) (bS 0) (bW 0) (bN 0) (bO 0) mZ_1 mY mB mL mU mJ mK mG mA) C.1 wuX10 tyX10 tyX10_ok nmX10 hK hP hD hS 0 rfl rfl 1 (by decide) wfX10_89 rfl rfl (by decide +kernel) rfl rfl (Nat.le_of_ble_eq_true rfl) dX10_done_2 (by rw [emZ_1]; rfl) (fun H locs hP hD hS => ?_)
  refine lv_aload_n C.1.1 C.1.2.1 dX10_done_5 rfl (lv_at hl 0 rfl) ?_
  refine lv_iconst (v := (-1)) C.1.1 C.1.2.1 dX10_done_6 (by decide) ?_
  obtain ⟨mZ_2, emZ_2, hf⟩ := zLet_el hf
  refine zPut (ty := .int) (kX10 cI cB bV (bP 0) (bS 0) (bW 0) (bN 0) (bO 0) mZ_2 mY mB mL mU mJ mK mG mA) C.1 wuX10 tyX10 tyX10_ok nmX10 hK hP hD hS 0 rfl rfl 2 (by decide) wfX10_9 rfl rfl (by decide +kernel) rfl rfl (Nat.le_of_ble_eq_true rfl) dX10_done_7 (by rw [emZ_2]; rfl) (fun H locs hP hD hS => ?_)
  refine lv_iload_n C.1.1 C.1.2.1 dX10_done_10 rfl (lv_at hl 1 rfl) ?_
  cases hf
  rw [← hQ]
  exact zRi C hK hP hD hS dX10_done_11
def fX10_granted (mZ : Rc) : Option (Int32 × Rc) :=
  zLet (rs mZ 1 (fun _ => (0 : Int32))) fun mZ_1 =>
  zLet (rs mZ_1 2 (fun _ => (-1 : Int32))) fun mZ_2 =>
  some ((1 : Int32), mZ_2)
abbrev rX10_granted : Room := { frames := 0, cells := 0, slots := 0, locals := 0 }
set_option maxHeartbeats 4000000 in
set_option maxRecDepth 100000 in
theorem mtX10_granted (l : Launch) (dC : Nat → ClassId) (dI : Nat → Nat → Nat) (cI cB : ClassId) (bV bP bS bW bN bO : Nat → Nat) (sz : Nat) (mZ : Rc) (mY : Rc) (mB : Rc) (mL : Rc) (mU : Rc) (mJ : Rc) (mK : Rc) (mG : Rc) (mA : Rc) {ov : Int32} {mZ' : Rc} (hf : fX10_granted mZ = some (ov, mZ')) : zMi l yX10_granted (Cond.code yX10_granted cX10_granted 1 (some .boolean) :: lw_g) rX10_granted (dC, dI) [(cI, .int), (cB, .byte)] [.ref (bV 0)] sz (kX10 cI cB bV (bP 0) (bS 0) (bW 0) (bN 0) (bO 0) mZ mY mB mL mU mJ mK mG mA) ov (kX10 cI cB bV (bP 0) (bS 0) (bW 0) (bN 0) (bO 0) mZ' mY mB mL mU mJ mK mG mA) := by
  refine zSt (cc := cX10_granted) (maxL := 1) (ret := (some .boolean)) (own := RX10) (fun A => zQi (dC, dI) [(cI, .int), (cB, .byte)] A ov (kX10 cI cB bV (bP 0) (bS 0) (bW 0) (bN 0) (bO 0) mZ' mY mB mL mU mJ mK mG mA)) (by decide) rfl rfl (Nat.le_of_ble_eq_true rfl) ?_
  intro p e s m below meth c ls A H locs C hK hA hP hD hS hl
  generalize hQ : MQ below (zQi (dC, dI) [(cI, .int), (cB, .byte)] A ov (kX10 cI cB bV (bP 0) (bS 0) (bW 0) (bN 0) (bO 0) mZ' mY mB mL mU mJ mK mG mA)) _ s 0 0 A = QQ
  generalize ([.ref (bV 0)] : List Value).toArray = args at C hQ ⊢
  have hl : lv_has ls 1 [(0, .ref (bV 0))] := hl
  unfold fX10_granted at hf
  refine lv_aload_n C.1.1 C.1.2.1 dX10_granted_0 rfl (lv_at hl 0 rfl) ?_
  refine lv_iconst (v := 0) C.1.1 C.1.2.1 dX10_granted_1 (by decide) ?_
  obtain ⟨mZ_1, emZ_1, hf⟩ := zLet_el hf
  refine zPut (ty := .int) (kX10 cI cB bV (bP 0) (bS 0) (bW 0) (bN 0) (bO 0) mZ_1 mY mB mL mU mJ mK mG mA) C.1 wuX10 tyX10 tyX10_ok nmX10 hK hP hD hS 0 rfl rfl 1 (by decide) wfX10_89 rfl rfl (by decide +kernel) rfl rfl (Nat.le_of_ble_eq_true rfl) dX10_granted_2 (by rw [emZ_1]; rfl) (fun H locs hP hD hS => ?_)
  refine lv_aload_n C.1.1 C.1.2.1 dX10_granted_5 rfl (lv_at hl 0 rfl) ?_
  refine lv_iconst (v := (-1)) C.1.1 C.1.2.1 dX10_granted_6 (by decide) ?_
  obtain ⟨mZ_2, emZ_2, hf⟩ := zLet_el hf
  refine zPut (ty := .int) (kX10 cI cB bV (bP 0) (bS 0) (bW 0) (bN 0) (bO 0) mZ_2 mY mB mL mU mJ mK mG mA) C.1 wuX10 tyX10 tyX10_ok nmX10 hK hP hD hS 0 rfl rfl 2 (by decide) wfX10_9 rfl rfl (by decide +kernel) rfl rfl (Nat.le_of_ble_eq_true rfl) dX10_granted_7 (by rw [emZ_2]; rfl) (fun H locs hP hD hS => ?_)
  refine lv_iconst (v := 1) C.1.1 C.1.2.1 dX10_granted_10 (by decide) ?_
  cases hf
  rw [← hQ]
  exact zRz C (by decide +kernel) hK hP hD hS dX10_granted_11
def fX10_in (p1 : Int32) (p2 : Int32) (p3 : Int32) : Option (Int32) :=
  if p1 < p2 then (
    some (0 : Int32)
  ) else (
    if p3 < p1 then (
      some (0 : Int32)
    ) else (
      some (1 : Int32)
    )
  )
abbrev rX10_in : Room := { frames := 0, cells := 0, slots := 0, locals := 0 }
set_option maxHeartbeats 4000000 in
set_option maxRecDepth 100000 in
theorem mtX10_in (l : Launch) (dC : Nat → ClassId) (dI : Nat → Nat → Nat) (cI cB : ClassId) (sz : Nat) (p1 : Int32) (p2 : Int32) (p3 : Int32) {ov : Int32} (hf : fX10_in p1 p2 p3 = some ov) : zMi l yX10_in (Cond.code yX10_in cX10_in 3 (some .boolean) :: lw_g) rX10_in (dC, dI) [(cI, .int), (cB, .byte)] [.int p1, .int p2, .int p3] sz ([] : va_W) ov ([] : va_W) := by
  refine zSt (cc := cX10_in) (maxL := 3) (ret := (some .boolean)) (own := RX10) (fun A => zQi (dC, dI) [(cI, .int), (cB, .byte)] A ov ([] : va_W)) (by decide) rfl rfl (Nat.le_of_ble_eq_true rfl) ?_
  intro p e s m below meth c ls A H locs C hK hA hP hD hS hl
  generalize hQ : MQ below (zQi (dC, dI) [(cI, .int), (cB, .byte)] A ov ([] : va_W)) _ s 0 0 A = QQ
  generalize ([.int p1, .int p2, .int p3] : List Value).toArray = args at C hQ ⊢
  have hl : lv_has ls 3 [(0, .int p1), (1, .int p2), (2, .int p3)] := hl
  unfold fX10_in at hf
  refine lv_iload_n C.1.1 C.1.2.1 dX10_in_0 rfl (lv_at hl 0 rfl) ?_
  refine lv_iload_n C.1.1 C.1.2.1 dX10_in_1 rfl (lv_at hl 1 rfl) ?_
  refine lv_icmp_lt (tgt := 14) C.1.1 C.1.2.1 dX10_in_2 (by decide) (fun hc => ?_) (fun hc => ?_)
  · replace hf := zIf_t hf hc
    refine lv_iconst (v := 0) C.1.1 C.1.2.1 dX10_in_14 (by decide) ?_
    cases hf
    rw [← hQ]
    exact zRz C (by decide +kernel) hK hP hD hS dX10_in_15
  · replace hf := zIf_f hf hc
    refine lv_iload_n C.1.1 C.1.2.1 dX10_in_5 rfl (lv_at hl 0 rfl) ?_
    refine lv_iload_n C.1.1 C.1.2.1 dX10_in_6 rfl (lv_at hl 2 rfl) ?_
    refine lv_icmp_gt (tgt := 14) C.1.1 C.1.2.1 dX10_in_7 (by decide) (fun hc => ?_) (fun hc => ?_)
    · replace hf := zIf_t hf hc
      refine lv_iconst (v := 0) C.1.1 C.1.2.1 dX10_in_14 (by decide) ?_
      cases hf
      rw [← hQ]
      exact zRz C (by decide +kernel) hK hP hD hS dX10_in_15
    · replace hf := zIf_f hf hc
      refine lv_iconst (v := 1) C.1.1 C.1.2.1 dX10_in_10 (by decide) ?_
      refine lv_goto (tgt := 15) C.1.1 C.1.2.1 dX10_in_11 (by decide) ?_
      cases hf
      rw [← hQ]
      exact zRz C (by decide +kernel) hK hP hD hS dX10_in_15
def fX10_bits_L4 (J20_2 : Int32 → Option (Int32)) (n : Nat) (x3 : Int32) (x4 : Int32) : Option (Int32) := zLp2 (fun (go5 : Int32 → Int32 → Option (Int32)) (x3 : Int32) (x4 : Int32) =>
    if x4 = 0 then (
      J20_2 x3
    ) else (
      zLet (x3 + 1) fun x6 =>
      zLet (x4 &&& (x4 - (1 : Int32))) fun x7 =>
      go5 x6 x7
    )
  ) n x3 x4
def fX10_bits (NN : Nat) (p1 : Int32) : Option (Int32) :=
  zJn (fun (x1 : Int32) =>
      some x1
    ) fun J20_2 =>
  fX10_bits_L4 J20_2 NN (0 : Int32) p1
abbrev rX10_bits : Room := { frames := 0, cells := 0, slots := 0, locals := 0 }
set_option maxHeartbeats 4000000 in
set_option maxRecDepth 100000 in
theorem mtX10_bits (l : Launch) (dC : Nat → ClassId) (dI : Nat → Nat → Nat) (cI cB : ClassId) (sz : Nat) (NN : Nat) (p1 : Int32) {ov : Int32} (hf : fX10_bits NN p1 = some ov) : zMi l yX10_bits (Cond.code yX10_bits cX10_bits 3 (some .int) :: lw_g) rX10_bits (dC, dI) [(cI, .int), (cB, .byte)] [.int p1] sz ([] : va_W) ov ([] : va_W) := by
  refine zSt (cc := cX10_bits) (maxL := 3) (ret := (some .int)) (own := RX10) (fun A => zQi (dC, dI) [(cI, .int), (cB, .byte)] A ov ([] : va_W)) (by decide) rfl rfl (Nat.le_of_ble_eq_true rfl) ?_
  intro p e s m below meth c ls A H locs C hK hA hP hD hS hl
  generalize hQ : MQ below (zQi (dC, dI) [(cI, .int), (cB, .byte)] A ov ([] : va_W)) _ s 0 0 A = QQ
  generalize ([.int p1] : List Value).toArray = args at C hQ ⊢
  have hl : lv_has ls 3 [(0, .int p1)] := hl
  unfold fX10_bits at hf
  refine lv_iconst (v := 0) C.1.1 C.1.2.1 dX10_bits_0 (by decide) ?_
  refine lv_istore_n (lv' := [(1, .int (0 : Int32)), (0, .int p1)]) C.1.1 C.1.2.1 dX10_bits_1 rfl hl (by decide) rfl (fun ls hl => ?_)
  refine lv_iload_n C.1.1 C.1.2.1 dX10_bits_2 rfl (lv_at hl 1 rfl) ?_
  refine lv_istore_n (lv' := [(2, .int p1), (1, .int (0 : Int32)), (0, .int p1)]) C.1.1 C.1.2.1 dX10_bits_3 rfl hl (by decide) rfl (fun ls hl => ?_)
  obtain ⟨J20_2, eJ20_2, hf⟩ := zJn_el hf
  have hJ20_2 : ∀ (x1 : Int32), J20_2 x1 = some ov → ∀ (H : Heap) (locs : List Loc), va_P (dC, dI) vwCl ([] : va_W) H → va_D A ([] : va_W) → va_S A s.heap H locs → ∀ (ls : Array Slot), lv_has ls 3 [(1, .int x1)] → W p l e rX10_bits s m args below meth c H locs 0 0 QQ (F0 m 20 ls []) := by
    intro x1 hf H locs hP hD hS ls hl
    rw [eJ20_2] at hf
    refine lv_iload_n C.1.1 C.1.2.1 dX10_bits_20 rfl (lv_at hl 0 rfl) ?_
    cases hf
    rw [← hQ]
    exact zRi C hK hP hD hS dX10_bits_21
  refine zLp2_ind (o := ov) (P := fun (x3 : Int32) (x4 : Int32) => ∀ (H : Heap) (locs : List Loc), va_P (dC, dI) vwCl ([] : va_W) H → va_D A ([] : va_W) → va_S A s.heap H locs → ∀ (ls : Array Slot), lv_has ls 3 [(1, .int x3), (2, .int x4)] → W p l e rX10_bits s m args below meth c H locs 0 0 QQ (F0 m 4 ls [])) (fun go5 ihgo5 x3 x4 hf H locs hP hD hS ls hl => ?_) _ (0 : Int32) p1 hf H locs hP hD hS ls (lv_sub hl [1, 0] rfl)
  refine lv_iload_n C.1.1 C.1.2.1 dX10_bits_4 rfl (lv_at hl 1 rfl) ?_
  refine lv_if_eq (tgt := 20) C.1.1 C.1.2.1 dX10_bits_5 (by decide) (fun hc => ?_) (fun hc => ?_)
  · replace hf := zIf_t hf hc
    exact hJ20_2 x3 hf H locs hP hD hS ls (lv_sub hl [0] rfl)
  · replace hf := zIf_f hf hc
    obtain ⟨x6, ex6, hf⟩ := zLet_el hf
    refine lv_iinc (v := x6) (lv' := [(1, .int x6), (2, .int x4)]) C.1.1 C.1.2.1 dX10_bits_8 hl (k := 0) rfl (by rw [ex6]; rfl) (by decide) rfl (fun ls hl => ?_)
    refine lv_iload_n C.1.1 C.1.2.1 dX10_bits_11 rfl (lv_at hl 1 rfl) ?_
    refine lv_iload_n C.1.1 C.1.2.1 dX10_bits_12 rfl (lv_at hl 1 rfl) ?_
    refine lv_iconst (v := 1) C.1.1 C.1.2.1 dX10_bits_13 (by decide) ?_
    refine lv_isub C.1.1 C.1.2.1 dX10_bits_14 ?_
    refine lv_iand C.1.1 C.1.2.1 dX10_bits_15 ?_
    refine lv_topi (fun x7 ex7 => ?_)
    replace hf := zLet_at hf ex7
    refine lv_istore_n (lv' := [(2, .int x7), (1, .int x6)]) C.1.1 C.1.2.1 dX10_bits_16 rfl hl (by decide) rfl (fun ls hl => ?_)
    refine lv_goto (tgt := 4) C.1.1 C.1.2.1 dX10_bits_17 (by decide) ?_
    exact ihgo5 x6 x7 hf H locs hP hD hS ls (lv_sub hl [1, 0] rfl)
def fX10_byteAt (mB : Rc) (mL : Rc) (p1 : Int32) : Option (Int32) :=
  if (mL 13 0) ≤ p1 then (
    some (-1 : Int32)
  ) else (
    zGd (inb p1 600) <|
    some ((mB 11 p1.toNatClampNeg) &&& (255 : Int32))
  )
abbrev rX10_byteAt : Room := { frames := 0, cells := 0, slots := 0, locals := 0 }
set_option maxHeartbeats 4000000 in
set_option maxRecDepth 100000 in
theorem mtX10_byteAt (l : Launch) (dC : Nat → ClassId) (dI : Nat → Nat → Nat) (cI cB : ClassId) (bV bP bS bW bN bO : Nat → Nat) (sz : Nat) (mZ : Rc) (mY : Rc) (mB : Rc) (mL : Rc) (mU : Rc) (mJ : Rc) (mK : Rc) (mG : Rc) (mA : Rc) (p1 : Int32) {ov : Int32} (hf : fX10_byteAt mB mL p1 = some ov) : zMi l yX10_byteAt (Cond.code yX10_byteAt cX10_byteAt 2 (some .int) :: lw_g) rX10_byteAt (dC, dI) [(cI, .int), (cB, .byte)] [.ref (bV 0), .int p1] sz (kX10 cI cB bV (bP 0) (bS 0) (bW 0) (bN 0) (bO 0) mZ mY mB mL mU mJ mK mG mA) ov (kX10 cI cB bV (bP 0) (bS 0) (bW 0) (bN 0) (bO 0) mZ mY mB mL mU mJ mK mG mA) := by
  refine zSt (cc := cX10_byteAt) (maxL := 2) (ret := (some .int)) (own := RX10) (fun A => zQi (dC, dI) [(cI, .int), (cB, .byte)] A ov (kX10 cI cB bV (bP 0) (bS 0) (bW 0) (bN 0) (bO 0) mZ mY mB mL mU mJ mK mG mA)) (by decide) rfl rfl (Nat.le_of_ble_eq_true rfl) ?_
  intro p e s m below meth c ls A H locs C hK hA hP hD hS hl
  generalize hQ : MQ below (zQi (dC, dI) [(cI, .int), (cB, .byte)] A ov (kX10 cI cB bV (bP 0) (bS 0) (bW 0) (bN 0) (bO 0) mZ mY mB mL mU mJ mK mG mA)) _ s 0 0 A = QQ
  generalize ([.ref (bV 0), .int p1] : List Value).toArray = args at C hQ ⊢
  have hl : lv_has ls 2 [(0, .ref (bV 0)), (1, .int p1)] := hl
  unfold fX10_byteAt at hf
  refine lv_iload_n C.1.1 C.1.2.1 dX10_byteAt_0 rfl (lv_at hl 1 rfl) ?_
  refine lv_aload_n C.1.1 C.1.2.1 dX10_byteAt_1 rfl (lv_at hl 0 rfl) ?_
  refine zGet (.int (mL 13 0)) C.1 wuX10 hK hP 0 rfl rfl 13 (by decide) wfX10_99 rfl rfl dX10_byteAt_2 ?_
  refine lv_icmp_ge (tgt := 21) C.1.1 C.1.2.1 dX10_byteAt_5 (by decide) (fun hc => ?_) (fun hc => ?_)
  · replace hf := zIf_t hf hc
    refine lv_iconst (v := (-1)) C.1.1 C.1.2.1 dX10_byteAt_21 (by decide) ?_
    cases hf
    rw [← hQ]
    exact zRi C hK hP hD hS dX10_byteAt_22
  · replace hf := zIf_f hf hc
    refine lv_aload_n C.1.1 C.1.2.1 dX10_byteAt_8 rfl (lv_at hl 0 rfl) ?_
    refine zGet (.ref (bV 1)) C.1 wuX10 hK hP 0 rfl rfl 11 (by decide) wfX10_39 rfl rfl dX10_byteAt_9 ?_
    refine lv_iload_n C.1.1 C.1.2.1 dX10_byteAt_12 rfl (lv_at hl 1 rfl) ?_
    obtain ⟨hib, hf⟩ := zGd_el hf
    refine va_bald C.1.1 C.1.2.1 hK.1 hP 1 1 rfl rfl hib dX10_byteAt_13 ?_
    refine lv_sipush (v := 255) C.1.1 C.1.2.1 dX10_byteAt_14 (by decide) ?_
    refine lv_iand C.1.1 C.1.2.1 dX10_byteAt_17 ?_
    refine lv_goto (tgt := 22) C.1.1 C.1.2.1 dX10_byteAt_18 (by decide) ?_
    cases hf
    rw [← hQ]
    exact zRi C hK hP hD hS dX10_byteAt_22
def fX10_isLetter (p1 : Int32) : Option (Int32) :=
  if p1 < (97 : Int32) then (
    some (0 : Int32)
  ) else (
    if (122 : Int32) < p1 then (
      some (0 : Int32)
    ) else (
      some (1 : Int32)
    )
  )
abbrev rX10_isLetter : Room := { frames := 0, cells := 0, slots := 0, locals := 0 }
set_option maxHeartbeats 4000000 in
set_option maxRecDepth 100000 in
theorem mtX10_isLetter (l : Launch) (dC : Nat → ClassId) (dI : Nat → Nat → Nat) (cI cB : ClassId) (sz : Nat) (p1 : Int32) {ov : Int32} (hf : fX10_isLetter p1 = some ov) : zMi l yX10_isLetter (Cond.code yX10_isLetter cX10_isLetter 1 (some .boolean) :: lw_g) rX10_isLetter (dC, dI) [(cI, .int), (cB, .byte)] [.int p1] sz ([] : va_W) ov ([] : va_W) := by
  refine zSt (cc := cX10_isLetter) (maxL := 1) (ret := (some .boolean)) (own := RX10) (fun A => zQi (dC, dI) [(cI, .int), (cB, .byte)] A ov ([] : va_W)) (by decide) rfl rfl (Nat.le_of_ble_eq_true rfl) ?_
  intro p e s m below meth c ls A H locs C hK hA hP hD hS hl
  generalize hQ : MQ below (zQi (dC, dI) [(cI, .int), (cB, .byte)] A ov ([] : va_W)) _ s 0 0 A = QQ
  generalize ([.int p1] : List Value).toArray = args at C hQ ⊢
  have hl : lv_has ls 1 [(0, .int p1)] := hl
  unfold fX10_isLetter at hf
  refine lv_iload_n C.1.1 C.1.2.1 dX10_isLetter_0 rfl (lv_at hl 0 rfl) ?_
  refine lv_bipush (v := 97) C.1.1 C.1.2.1 dX10_isLetter_1 (by decide) ?_
  refine lv_icmp_lt (tgt := 16) C.1.1 C.1.2.1 dX10_isLetter_3 (by decide) (fun hc => ?_) (fun hc => ?_)
  · replace hf := zIf_t hf hc
    refine lv_iconst (v := 0) C.1.1 C.1.2.1 dX10_isLetter_16 (by decide) ?_
    cases hf
    rw [← hQ]
    exact zRz C (by decide +kernel) hK hP hD hS dX10_isLetter_17
  · replace hf := zIf_f hf hc
    refine lv_iload_n C.1.1 C.1.2.1 dX10_isLetter_6 rfl (lv_at hl 0 rfl) ?_
    refine lv_bipush (v := 122) C.1.1 C.1.2.1 dX10_isLetter_7 (by decide) ?_
    refine lv_icmp_gt (tgt := 16) C.1.1 C.1.2.1 dX10_isLetter_9 (by decide) (fun hc => ?_) (fun hc => ?_)
    · replace hf := zIf_t hf hc
      refine lv_iconst (v := 0) C.1.1 C.1.2.1 dX10_isLetter_16 (by decide) ?_
      cases hf
      rw [← hQ]
      exact zRz C (by decide +kernel) hK hP hD hS dX10_isLetter_17
    · replace hf := zIf_f hf hc
      refine lv_iconst (v := 1) C.1.1 C.1.2.1 dX10_isLetter_12 (by decide) ?_
      refine lv_goto (tgt := 17) C.1.1 C.1.2.1 dX10_isLetter_13 (by decide) ?_
      cases hf
      rw [← hQ]
      exact zRz C (by decide +kernel) hK hP hD hS dX10_isLetter_17
def fX10_isDigit (p1 : Int32) : Option (Int32) :=
  if p1 < (48 : Int32) then (
    some (0 : Int32)
  ) else (
    if (57 : Int32) < p1 then (
      some (0 : Int32)
    ) else (
      some (1 : Int32)
    )
  )
abbrev rX10_isDigit : Room := { frames := 0, cells := 0, slots := 0, locals := 0 }
set_option maxHeartbeats 4000000 in
set_option maxRecDepth 100000 in
theorem mtX10_isDigit (l : Launch) (dC : Nat → ClassId) (dI : Nat → Nat → Nat) (cI cB : ClassId) (sz : Nat) (p1 : Int32) {ov : Int32} (hf : fX10_isDigit p1 = some ov) : zMi l yX10_isDigit (Cond.code yX10_isDigit cX10_isDigit 1 (some .boolean) :: lw_g) rX10_isDigit (dC, dI) [(cI, .int), (cB, .byte)] [.int p1] sz ([] : va_W) ov ([] : va_W) := by
  refine zSt (cc := cX10_isDigit) (maxL := 1) (ret := (some .boolean)) (own := RX10) (fun A => zQi (dC, dI) [(cI, .int), (cB, .byte)] A ov ([] : va_W)) (by decide) rfl rfl (Nat.le_of_ble_eq_true rfl) ?_
  intro p e s m below meth c ls A H locs C hK hA hP hD hS hl
  generalize hQ : MQ below (zQi (dC, dI) [(cI, .int), (cB, .byte)] A ov ([] : va_W)) _ s 0 0 A = QQ
  generalize ([.int p1] : List Value).toArray = args at C hQ ⊢
  have hl : lv_has ls 1 [(0, .int p1)] := hl
  unfold fX10_isDigit at hf
  refine lv_iload_n C.1.1 C.1.2.1 dX10_isDigit_0 rfl (lv_at hl 0 rfl) ?_
  refine lv_bipush (v := 48) C.1.1 C.1.2.1 dX10_isDigit_1 (by decide) ?_
  refine lv_icmp_lt (tgt := 16) C.1.1 C.1.2.1 dX10_isDigit_3 (by decide) (fun hc => ?_) (fun hc => ?_)
  · replace hf := zIf_t hf hc
    refine lv_iconst (v := 0) C.1.1 C.1.2.1 dX10_isDigit_16 (by decide) ?_
    cases hf
    rw [← hQ]
    exact zRz C (by decide +kernel) hK hP hD hS dX10_isDigit_17
  · replace hf := zIf_f hf hc
    refine lv_iload_n C.1.1 C.1.2.1 dX10_isDigit_6 rfl (lv_at hl 0 rfl) ?_
    refine lv_bipush (v := 57) C.1.1 C.1.2.1 dX10_isDigit_7 (by decide) ?_
    refine lv_icmp_gt (tgt := 16) C.1.1 C.1.2.1 dX10_isDigit_9 (by decide) (fun hc => ?_) (fun hc => ?_)
    · replace hf := zIf_t hf hc
      refine lv_iconst (v := 0) C.1.1 C.1.2.1 dX10_isDigit_16 (by decide) ?_
      cases hf
      rw [← hQ]
      exact zRz C (by decide +kernel) hK hP hD hS dX10_isDigit_17
    · replace hf := zIf_f hf hc
      refine lv_iconst (v := 1) C.1.1 C.1.2.1 dX10_isDigit_12 (by decide) ?_
      refine lv_goto (tgt := 17) C.1.1 C.1.2.1 dX10_isDigit_13 (by decide) ?_
      cases hf
      rw [← hQ]
      exact zRz C (by decide +kernel) hK hP hD hS dX10_isDigit_17
def fX10_signOf (p1 : Int32) : Option (Int32) :=
  if p1 = 38 then (
    some (3 : Int32)
  ) else (
    if p1 = 42 then (
      some (2 : Int32)
    ) else (
      if p1 = 43 then (
        some (0 : Int32)
      ) else (
        if p1 = 45 then (
          some (1 : Int32)
        ) else (
          if p1 = 60 then (
            some (6 : Int32)
          ) else (
            if p1 = 94 then (
              some (5 : Int32)
            ) else (
              if p1 = 124 then (
                some (4 : Int32)
              ) else (
                some (-1 : Int32)
              )
            )
          )
        )
      )
    )
  )
abbrev rX10_signOf : Room := { frames := 0, cells := 0, slots := 0, locals := 0 }
set_option maxHeartbeats 4000000 in
set_option maxRecDepth 100000 in
theorem mtX10_signOf (l : Launch) (dC : Nat → ClassId) (dI : Nat → Nat → Nat) (cI cB : ClassId) (sz : Nat) (p1 : Int32) {ov : Int32} (hf : fX10_signOf p1 = some ov) : zMi l yX10_signOf (Cond.code yX10_signOf cX10_signOf 1 (some .int) :: lw_g) rX10_signOf (dC, dI) [(cI, .int), (cB, .byte)] [.int p1] sz ([] : va_W) ov ([] : va_W) := by
  refine zSt (cc := cX10_signOf) (maxL := 1) (ret := (some .int)) (own := RX10) (fun A => zQi (dC, dI) [(cI, .int), (cB, .byte)] A ov ([] : va_W)) (by decide) rfl rfl (Nat.le_of_ble_eq_true rfl) ?_
  intro p e s m below meth c ls A H locs C hK hA hP hD hS hl
  generalize hQ : MQ below (zQi (dC, dI) [(cI, .int), (cB, .byte)] A ov ([] : va_W)) _ s 0 0 A = QQ
  generalize ([.int p1] : List Value).toArray = args at C hQ ⊢
  have hl : lv_has ls 1 [(0, .int p1)] := hl
  unfold fX10_signOf at hf
  refine lv_iload_n C.1.1 C.1.2.1 dX10_signOf_0 rfl (lv_at hl 0 rfl) ?_
  rcases Classical.em (p1 = 38) with hk1 | hk1
  · replace hf := zIf_t hf hk1
    refine lv_lookup (off := 73) (tgt := 74) C.1.1 C.1.2.1 dX10_signOf_1 (by decide +kernel) (by rw [hk1] <;> decide +kernel) (by decide) ?_
    refine lv_iconst (v := 3) C.1.1 C.1.2.1 dX10_signOf_74 (by decide) ?_
    cases hf
    rw [← hQ]
    exact zRi C hK hP hD hS dX10_signOf_75
  · replace hf := zIf_f hf hk1
    rcases Classical.em (p1 = 42) with hk2 | hk2
    · replace hf := zIf_t hf hk2
      refine lv_lookup (off := 71) (tgt := 72) C.1.1 C.1.2.1 dX10_signOf_1 (by decide +kernel) (by rw [hk2] <;> decide +kernel) (by decide) ?_
      refine lv_iconst (v := 2) C.1.1 C.1.2.1 dX10_signOf_72 (by decide) ?_
      cases hf
      rw [← hQ]
      exact zRi C hK hP hD hS dX10_signOf_73
    · replace hf := zIf_f hf hk2
      rcases Classical.em (p1 = 43) with hk3 | hk3
      · replace hf := zIf_t hf hk3
        refine lv_lookup (off := 67) (tgt := 68) C.1.1 C.1.2.1 dX10_signOf_1 (by decide +kernel) (by rw [hk3] <;> decide +kernel) (by decide) ?_
        refine lv_iconst (v := 0) C.1.1 C.1.2.1 dX10_signOf_68 (by decide) ?_
        cases hf
        rw [← hQ]
        exact zRi C hK hP hD hS dX10_signOf_69
      · replace hf := zIf_f hf hk3
        rcases Classical.em (p1 = 45) with hk4 | hk4
        · replace hf := zIf_t hf hk4
          refine lv_lookup (off := 69) (tgt := 70) C.1.1 C.1.2.1 dX10_signOf_1 (by decide +kernel) (by rw [hk4] <;> decide +kernel) (by decide) ?_
          refine lv_iconst (v := 1) C.1.1 C.1.2.1 dX10_signOf_70 (by decide) ?_
          cases hf
          rw [← hQ]
          exact zRi C hK hP hD hS dX10_signOf_71
        · replace hf := zIf_f hf hk4
          rcases Classical.em (p1 = 60) with hk5 | hk5
          · replace hf := zIf_t hf hk5
            refine lv_lookup (off := 79) (tgt := 80) C.1.1 C.1.2.1 dX10_signOf_1 (by decide +kernel) (by rw [hk5] <;> decide +kernel) (by decide) ?_
            refine lv_bipush (v := 6) C.1.1 C.1.2.1 dX10_signOf_80 (by decide) ?_
            cases hf
            rw [← hQ]
            exact zRi C hK hP hD hS dX10_signOf_82
          · replace hf := zIf_f hf hk5
            rcases Classical.em (p1 = 94) with hk6 | hk6
            · replace hf := zIf_t hf hk6
              refine lv_lookup (off := 77) (tgt := 78) C.1.1 C.1.2.1 dX10_signOf_1 (by decide +kernel) (by rw [hk6] <;> decide +kernel) (by decide) ?_
              refine lv_iconst (v := 5) C.1.1 C.1.2.1 dX10_signOf_78 (by decide) ?_
              cases hf
              rw [← hQ]
              exact zRi C hK hP hD hS dX10_signOf_79
            · replace hf := zIf_f hf hk6
              rcases Classical.em (p1 = 124) with hk7 | hk7
              · replace hf := zIf_t hf hk7
                refine lv_lookup (off := 75) (tgt := 76) C.1.1 C.1.2.1 dX10_signOf_1 (by decide +kernel) (by rw [hk7] <;> decide +kernel) (by decide) ?_
                refine lv_iconst (v := 4) C.1.1 C.1.2.1 dX10_signOf_76 (by decide) ?_
                cases hf
                rw [← hQ]
                exact zRi C hK hP hD hS dX10_signOf_77
              · replace hf := zIf_f hf hk7
                refine lv_lookup (off := 82) (tgt := 83) C.1.1 C.1.2.1 dX10_signOf_1 (by decide +kernel) (by simp only [List.toList_toArray]; rw [lv_osw hk1 (by decide), lv_osw hk2 (by decide), lv_osw hk3 (by decide), lv_osw hk4 (by decide), lv_osw hk5 (by decide), lv_osw hk6 (by decide), lv_osw hk7 (by decide)] <;> rfl) (by decide) ?_
                refine lv_iconst (v := (-1)) C.1.1 C.1.2.1 dX10_signOf_83 (by decide) ?_
                cases hf
                rw [← hQ]
                exact zRi C hK hP hD hS dX10_signOf_84
def fX10_isSign (p1 : Int32) : Option (Int32) :=
  if p1 = (123 : Int32) then (
    some (1 : Int32)
  ) else (
    if p1 = (125 : Int32) then (
      some (1 : Int32)
    ) else (
      if p1 = (59 : Int32) then (
        some (1 : Int32)
      ) else (
        if p1 = (61 : Int32) then (
          some (1 : Int32)
        ) else (
          if p1 = (40 : Int32) then (
            some (1 : Int32)
          ) else (
            if p1 = (41 : Int32) then (
              some (1 : Int32)
            ) else (
              if p1 = (126 : Int32) then (
                some (1 : Int32)
              ) else (
                zB1 (fX10_signOf p1) fun v1 =>
                if v1 = (-1 : Int32) then (
                  some (0 : Int32)
                ) else (
                  some (1 : Int32)
                )
              )
            )
          )
        )
      )
    )
  )
abbrev rX10_isSign : Room := { frames := 1, cells := 0, slots := 0, locals := 20 }
set_option maxHeartbeats 4000000 in
set_option maxRecDepth 100000 in
theorem mtX10_isSign (l : Launch) (dC : Nat → ClassId) (dI : Nat → Nat → Nat) (cI cB : ClassId) (sz : Nat) (p1 : Int32) {ov : Int32} (hf : fX10_isSign p1 = some ov) : zMi l yX10_isSign (Cond.code yX10_isSign cX10_isSign 1 (some .boolean) :: lw_g) rX10_isSign (dC, dI) [(cI, .int), (cB, .byte)] [.int p1] sz ([] : va_W) ov ([] : va_W) := by
  refine zSt (cc := cX10_isSign) (maxL := 1) (ret := (some .boolean)) (own := RX10) (fun A => zQi (dC, dI) [(cI, .int), (cB, .byte)] A ov ([] : va_W)) (by decide) rfl rfl (Nat.le_of_ble_eq_true rfl) ?_
  intro p e s m below meth c ls A H locs C hK hA hP hD hS hl
  generalize hQ : MQ below (zQi (dC, dI) [(cI, .int), (cB, .byte)] A ov ([] : va_W)) _ s 0 0 A = QQ
  generalize ([.int p1] : List Value).toArray = args at C hQ ⊢
  have hl : lv_has ls 1 [(0, .int p1)] := hl
  unfold fX10_isSign at hf
  refine lv_iload_n C.1.1 C.1.2.1 dX10_isSign_0 rfl (lv_at hl 0 rfl) ?_
  refine lv_bipush (v := 123) C.1.1 C.1.2.1 dX10_isSign_1 (by decide) ?_
  refine lv_icmp_eq (tgt := 50) C.1.1 C.1.2.1 dX10_isSign_3 (by decide) (fun hc => ?_) (fun hc => ?_)
  · replace hf := zIf_t hf hc
    refine lv_iconst (v := 1) C.1.1 C.1.2.1 dX10_isSign_50 (by decide) ?_
    refine lv_goto (tgt := 55) C.1.1 C.1.2.1 dX10_isSign_51 (by decide) ?_
    cases hf
    rw [← hQ]
    exact zRz C (by decide +kernel) hK hP hD hS dX10_isSign_55
  · replace hf := zIf_f hf hc
    refine lv_iload_n C.1.1 C.1.2.1 dX10_isSign_6 rfl (lv_at hl 0 rfl) ?_
    refine lv_bipush (v := 125) C.1.1 C.1.2.1 dX10_isSign_7 (by decide) ?_
    refine lv_icmp_eq (tgt := 50) C.1.1 C.1.2.1 dX10_isSign_9 (by decide) (fun hc => ?_) (fun hc => ?_)
    · replace hf := zIf_t hf hc
      refine lv_iconst (v := 1) C.1.1 C.1.2.1 dX10_isSign_50 (by decide) ?_
      refine lv_goto (tgt := 55) C.1.1 C.1.2.1 dX10_isSign_51 (by decide) ?_
      cases hf
      rw [← hQ]
      exact zRz C (by decide +kernel) hK hP hD hS dX10_isSign_55
    · replace hf := zIf_f hf hc
      refine lv_iload_n C.1.1 C.1.2.1 dX10_isSign_12 rfl (lv_at hl 0 rfl) ?_
      refine lv_bipush (v := 59) C.1.1 C.1.2.1 dX10_isSign_13 (by decide) ?_
      refine lv_icmp_eq (tgt := 50) C.1.1 C.1.2.1 dX10_isSign_15 (by decide) (fun hc => ?_) (fun hc => ?_)
      · replace hf := zIf_t hf hc
        refine lv_iconst (v := 1) C.1.1 C.1.2.1 dX10_isSign_50 (by decide) ?_
        refine lv_goto (tgt := 55) C.1.1 C.1.2.1 dX10_isSign_51 (by decide) ?_
        cases hf
        rw [← hQ]
        exact zRz C (by decide +kernel) hK hP hD hS dX10_isSign_55
      · replace hf := zIf_f hf hc
        refine lv_iload_n C.1.1 C.1.2.1 dX10_isSign_18 rfl (lv_at hl 0 rfl) ?_
        refine lv_bipush (v := 61) C.1.1 C.1.2.1 dX10_isSign_19 (by decide) ?_
        refine lv_icmp_eq (tgt := 50) C.1.1 C.1.2.1 dX10_isSign_21 (by decide) (fun hc => ?_) (fun hc => ?_)
        · replace hf := zIf_t hf hc
          refine lv_iconst (v := 1) C.1.1 C.1.2.1 dX10_isSign_50 (by decide) ?_
          refine lv_goto (tgt := 55) C.1.1 C.1.2.1 dX10_isSign_51 (by decide) ?_
          cases hf
          rw [← hQ]
          exact zRz C (by decide +kernel) hK hP hD hS dX10_isSign_55
        · replace hf := zIf_f hf hc
          refine lv_iload_n C.1.1 C.1.2.1 dX10_isSign_24 rfl (lv_at hl 0 rfl) ?_
          refine lv_bipush (v := 40) C.1.1 C.1.2.1 dX10_isSign_25 (by decide) ?_
          refine lv_icmp_eq (tgt := 50) C.1.1 C.1.2.1 dX10_isSign_27 (by decide) (fun hc => ?_) (fun hc => ?_)
          · replace hf := zIf_t hf hc
            refine lv_iconst (v := 1) C.1.1 C.1.2.1 dX10_isSign_50 (by decide) ?_
            refine lv_goto (tgt := 55) C.1.1 C.1.2.1 dX10_isSign_51 (by decide) ?_
            cases hf
            rw [← hQ]
            exact zRz C (by decide +kernel) hK hP hD hS dX10_isSign_55
          · replace hf := zIf_f hf hc
            refine lv_iload_n C.1.1 C.1.2.1 dX10_isSign_30 rfl (lv_at hl 0 rfl) ?_
            refine lv_bipush (v := 41) C.1.1 C.1.2.1 dX10_isSign_31 (by decide) ?_
            refine lv_icmp_eq (tgt := 50) C.1.1 C.1.2.1 dX10_isSign_33 (by decide) (fun hc => ?_) (fun hc => ?_)
            · replace hf := zIf_t hf hc
              refine lv_iconst (v := 1) C.1.1 C.1.2.1 dX10_isSign_50 (by decide) ?_
              refine lv_goto (tgt := 55) C.1.1 C.1.2.1 dX10_isSign_51 (by decide) ?_
              cases hf
              rw [← hQ]
              exact zRz C (by decide +kernel) hK hP hD hS dX10_isSign_55
            · replace hf := zIf_f hf hc
              refine lv_iload_n C.1.1 C.1.2.1 dX10_isSign_36 rfl (lv_at hl 0 rfl) ?_
              refine lv_bipush (v := 126) C.1.1 C.1.2.1 dX10_isSign_37 (by decide) ?_
              refine lv_icmp_eq (tgt := 50) C.1.1 C.1.2.1 dX10_isSign_39 (by decide) (fun hc => ?_) (fun hc => ?_)
              · replace hf := zIf_t hf hc
                refine lv_iconst (v := 1) C.1.1 C.1.2.1 dX10_isSign_50 (by decide) ?_
                refine lv_goto (tgt := 55) C.1.1 C.1.2.1 dX10_isSign_51 (by decide) ?_
                cases hf
                rw [← hQ]
                exact zRz C (by decide +kernel) hK hP hD hS dX10_isSign_55
              · replace hf := zIf_f hf hc
                refine lv_iload_n C.1.1 C.1.2.1 dX10_isSign_42 rfl (lv_at hl 0 rfl) ?_
                obtain ⟨v1, hg, hf⟩ := zB1_el hf
                refine zCSi (As := [.int p1]) (rest := []) (wr := ([] : va_W)) (wn := ([] : va_W)) C.1 hK hA hP hD hS [] [] [] (mtX10_signOf l dC dI cI cB H.size p1 hg) (zCwS 1 C.1 wlX10_102 wtX10_signOf wnX10 wkX10_signOf rfl rfl (by decide +kernel) ⟨Nat.le_of_ble_eq_true rfl, Nat.le_of_ble_eq_true rfl⟩) rfl rfl (by decide +kernel) rfl rfl hl.1 (Nat.le_of_ble_eq_true rfl) dX10_isSign_43 ⟨Nat.zero_le _, Nat.zero_le _⟩ rfl (fun H locs hP hD hS => ?_)
                refine lv_iconst (v := (-1)) C.1.1 C.1.2.1 dX10_isSign_46 (by decide) ?_
                refine lv_icmp_eq (tgt := 54) C.1.1 C.1.2.1 dX10_isSign_47 (by decide) (fun hc => ?_) (fun hc => ?_)
                · replace hf := zIf_t hf hc
                  refine lv_iconst (v := 0) C.1.1 C.1.2.1 dX10_isSign_54 (by decide) ?_
                  cases hf
                  rw [← hQ]
                  exact zRz C (by decide +kernel) hK hP hD hS dX10_isSign_55
                · replace hf := zIf_f hf hc
                  refine lv_iconst (v := 1) C.1.1 C.1.2.1 dX10_isSign_50 (by decide) ?_
                  refine lv_goto (tgt := 55) C.1.1 C.1.2.1 dX10_isSign_51 (by decide) ?_
                  cases hf
                  rw [← hQ]
                  exact zRz C (by decide +kernel) hK hP hD hS dX10_isSign_55
def fX10_next_L149 (mB : Rc) (J207_16 : Int32 → Rc → Option (Rc)) (n : Nat) (x18 : Int32) (mL_19 : Rc) : Option (Rc) := zLp2 (fun (go20 : Int32 → Rc → Option (Rc)) (x18 : Int32) (mL_19 : Rc) =>
    zB1 (fX10_byteAt mB mL_19 (mL_19 14 0)) fun v21 =>
    zB1 (fX10_isDigit v21) fun v22 =>
    if v22 = 0 then (
      J207_16 x18 mL_19
    ) else (
      zJn (fun (mL_23 : Rc) =>
          zLet (x18 + 1) fun x25 =>
          zLet (rs mL_23 14 (fun _ => ((mL_23 14 0) + (1 : Int32)))) fun mL_26 =>
          go20 x25 mL_26
        ) fun J191_24 =>
      if (5 : Int32) ≤ x18 then (
        J191_24 mL_19
      ) else (
        zB1 (fX10_byteAt mB mL_19 (mL_19 14 0)) fun v27 =>
        zLet (rs mL_19 18 (fun _ => ((((10 : Int32) * (mL_19 18 0)) + v27) - (48 : Int32)))) fun mL_28 =>
        J191_24 mL_28
      )
    )
  ) n x18 mL_19
def fX10_next_L88 (mB : Rc) (J118_31 : Int32 → Rc → Option (Rc)) (n : Nat) (x34 : Int32) (mL_35 : Rc) : Option (Rc) := zLp2 (fun (go36 : Int32 → Rc → Option (Rc)) (x34 : Int32) (mL_35 : Rc) =>
    zB1 (fX10_byteAt mB mL_35 (mL_35 14 0)) fun v37 =>
    zB1 (fX10_isLetter v37) fun v38 =>
    if v38 = 0 then (
      J118_31 x34 mL_35
    ) else (
      zLet (x34 + 1) fun x39 =>
      zLet (rs mL_35 14 (fun _ => ((mL_35 14 0) + (1 : Int32)))) fun mL_40 =>
      go36 x39 mL_40
    )
  ) n x34 mL_35
def fX10_next_L0 (mB : Rc) (J39_2 : Rc → Option (Rc)) (n : Nat) (mL_42 : Rc) : Option (Rc) := zLp1 (fun (go43 : Rc → Option (Rc)) (mL_42 : Rc) =>
    zB1 (fX10_byteAt mB mL_42 (mL_42 14 0)) fun v44 =>
    zJn (fun (_ : Unit) =>
        zLet (rs mL_42 14 (fun _ => ((mL_42 14 0) + (1 : Int32)))) fun mL_46 =>
        go43 mL_46
      ) fun J26_45 =>
    if v44 = (32 : Int32) then (
      J26_45 ()
    ) else (
      zB1 (fX10_byteAt mB mL_42 (mL_42 14 0)) fun v47 =>
      if v47 = (10 : Int32) then (
        J26_45 ()
      ) else (
        J39_2 mL_42
      )
    )
  ) n mL_42
def fX10_next (NN : Nat) (mB : Rc) (mL : Rc) : Option (Rc) :=
  zJn (fun (mL_1 : Rc) =>
      zLet (rs mL_1 16 (fun _ => (mL_1 14 0))) fun mL_3 =>
      zLet (rs mL_3 15 (fun _ => (0 : Int32))) fun mL_4 =>
      zLet (rs mL_4 17 (fun _ => (0 : Int32))) fun mL_5 =>
      zB1 (fX10_byteAt mB mL_5 (mL_5 14 0)) fun v6 =>
      if v6 = (-1 : Int32) then (
        zLet (rs mL_5 15 (fun _ => (1 : Int32))) fun mL_41 =>
        some mL_41
      ) else (
        zB1 (fX10_isLetter v6) fun v7 =>
        if v7 = 0 then (
          zB1 (fX10_isDigit v6) fun v8 =>
          if v8 = 0 then (
            zB1 (fX10_isSign v6) fun v9 =>
            if v9 = 0 then (
              some mL_5
            ) else (
              zLet (rs mL_5 15 (fun _ => (4 : Int32))) fun mL_10 =>
              zLet (rs mL_10 17 (fun _ => v6)) fun mL_11 =>
              zLet (rs mL_11 14 (fun _ => ((mL_11 14 0) + (1 : Int32)))) fun mL_12 =>
              some mL_12
            )
          ) else (
            zLet (rs mL_5 18 (fun _ => (0 : Int32))) fun mL_13 =>
            zJn (fun (x14 : Int32) (mL_15 : Rc) =>
                if (6 : Int32) ≤ x14 then (
                  some mL_15
                ) else (
                  zLet (rs mL_15 15 (fun _ => (3 : Int32))) fun mL_17 =>
                  some mL_17
                )
              ) fun J207_16 =>
            fX10_next_L149 mB J207_16 NN (0 : Int32) mL_13
          )
        ) else (
          zJn (fun (x29 : Int32) (mL_30 : Rc) =>
              zLet (rs mL_30 19 (fun _ => x29)) fun mL_32 =>
              if (8 : Int32) < x29 then (
                some mL_32
              ) else (
                zLet (rs mL_32 15 (fun _ => (2 : Int32))) fun mL_33 =>
                some mL_33
              )
            ) fun J118_31 =>
          fX10_next_L88 mB J118_31 NN (0 : Int32) mL_5
        )
      )
    ) fun J39_2 =>
  fX10_next_L0 mB J39_2 NN mL
abbrev rX10_next : Room := { frames := 2, cells := 0, slots := 0, locals := 40 }
set_option maxHeartbeats 4000000 in
set_option maxRecDepth 100000 in
theorem mtX10_next (l : Launch) (dC : Nat → ClassId) (dI : Nat → Nat → Nat) (cI cB : ClassId) (bV bP bS bW bN bO : Nat → Nat) (sz : Nat) (NN : Nat) (mZ : Rc) (mY : Rc) (mB : Rc) (mL : Rc) (mU : Rc) (mJ : Rc) (mK : Rc) (mG : Rc) (mA : Rc) {mL' : Rc} (hf : fX10_next NN mB mL = some mL') : zMv l yX10_next (Cond.code yX10_next cX10_next 3 none :: lw_g) rX10_next (dC, dI) [(cI, .int), (cB, .byte)] [.ref (bV 0)] sz (kX10 cI cB bV (bP 0) (bS 0) (bW 0) (bN 0) (bO 0) mZ mY mB mL mU mJ mK mG mA) (kX10 cI cB bV (bP 0) (bS 0) (bW 0) (bN 0) (bO 0) mZ mY mB mL' mU mJ mK mG mA) := by
  refine zSt (cc := cX10_next) (maxL := 3) (ret := none) (own := RX10) (fun A => zQv (dC, dI) [(cI, .int), (cB, .byte)] A (kX10 cI cB bV (bP 0) (bS 0) (bW 0) (bN 0) (bO 0) mZ mY mB mL' mU mJ mK mG mA)) (by decide) rfl rfl (Nat.le_of_ble_eq_true rfl) ?_
  intro p e s m below meth c ls A H locs C hK hA hP hD hS hl
  generalize hQ : MQ below (zQv (dC, dI) [(cI, .int), (cB, .byte)] A (kX10 cI cB bV (bP 0) (bS 0) (bW 0) (bN 0) (bO 0) mZ mY mB mL' mU mJ mK mG mA)) _ s 0 0 A = QQ
  generalize ([.ref (bV 0)] : List Value).toArray = args at C hQ ⊢
  have hl : lv_has ls 3 [(0, .ref (bV 0))] := hl
  unfold fX10_next at hf
  obtain ⟨J39_2, eJ39_2, hf⟩ := zJn_el hf
  have hJ39_2 : ∀ (mL_1 : Rc), J39_2 mL_1 = some mL' → ∀ (H : Heap) (locs : List Loc), va_P (dC, dI) vwCl (kX10 cI cB bV (bP 0) (bS 0) (bW 0) (bN 0) (bO 0) mZ mY mB mL_1 mU mJ mK mG mA) H → va_D A (kX10 cI cB bV (bP 0) (bS 0) (bW 0) (bN 0) (bO 0) mZ mY mB mL_1 mU mJ mK mG mA) → va_S A s.heap H locs → ∀ (ls : Array Slot), lv_has ls 3 [(0, .ref (bV 0))] → W p l e rX10_next s m args below meth c H locs 0 0 QQ (F0 m 39 ls []) := by
    intro mL_1 hf H locs hP hD hS ls hl
    rw [eJ39_2] at hf
    refine lv_aload_n C.1.1 C.1.2.1 dX10_next_39 rfl (lv_at hl 0 rfl) ?_
    refine lv_aload_n C.1.1 C.1.2.1 dX10_next_40 rfl (lv_at hl 0 rfl) ?_
    refine zGet (.int (mL_1 14 0)) C.1 wuX10 hK hP 0 rfl rfl 14 (by decide) wfX10_106 rfl rfl dX10_next_41 ?_
    obtain ⟨mL_3, emL_3, hf⟩ := zLet_el hf
    refine zPut (ty := .int) (kX10 cI cB bV (bP 0) (bS 0) (bW 0) (bN 0) (bO 0) mZ mY mB mL_3 mU mJ mK mG mA) C.1 wuX10 tyX10 tyX10_ok nmX10 hK hP hD hS 0 rfl rfl 16 (by decide) wfX10_95 rfl rfl (by decide +kernel) rfl rfl (Nat.le_of_ble_eq_true rfl) dX10_next_44 (by rw [emL_3]; rfl) (fun H locs hP hD hS => ?_)
    refine lv_aload_n C.1.1 C.1.2.1 dX10_next_47 rfl (lv_at hl 0 rfl) ?_
    refine lv_iconst (v := 0) C.1.1 C.1.2.1 dX10_next_48 (by decide) ?_
    obtain ⟨mL_4, emL_4, hf⟩ := zLet_el hf
    refine zPut (ty := .int) (kX10 cI cB bV (bP 0) (bS 0) (bW 0) (bN 0) (bO 0) mZ mY mB mL_4 mU mJ mK mG mA) C.1 wuX10 tyX10 tyX10_ok nmX10 hK hP hD hS 0 rfl rfl 15 (by decide) wfX10_112 rfl rfl (by decide +kernel) rfl rfl (Nat.le_of_ble_eq_true rfl) dX10_next_49 (by rw [emL_4]; rfl) (fun H locs hP hD hS => ?_)
    refine lv_aload_n C.1.1 C.1.2.1 dX10_next_52 rfl (lv_at hl 0 rfl) ?_
    refine lv_iconst (v := 0) C.1.1 C.1.2.1 dX10_next_53 (by decide) ?_
    obtain ⟨mL_5, emL_5, hf⟩ := zLet_el hf
    refine zPut (ty := .int) (kX10 cI cB bV (bP 0) (bS 0) (bW 0) (bN 0) (bO 0) mZ mY mB mL_5 mU mJ mK mG mA) C.1 wuX10 tyX10 tyX10_ok nmX10 hK hP hD hS 0 rfl rfl 17 (by decide) wfX10_115 rfl rfl (by decide +kernel) rfl rfl (Nat.le_of_ble_eq_true rfl) dX10_next_54 (by rw [emL_5]; rfl) (fun H locs hP hD hS => ?_)
    refine lv_aload_n C.1.1 C.1.2.1 dX10_next_57 rfl (lv_at hl 0 rfl) ?_
    refine lv_aload_n C.1.1 C.1.2.1 dX10_next_58 rfl (lv_at hl 0 rfl) ?_
    refine zGet (.int (mL_5 14 0)) C.1 wuX10 hK hP 0 rfl rfl 14 (by decide) wfX10_106 rfl rfl dX10_next_59 ?_
    obtain ⟨v6, hg, hf⟩ := zB1_el hf
    refine zCVi (As := [.int (mL_5 14 0)]) (rest := []) (wr := ([] : va_W)) (wn := (kX10 cI cB bV (bP 0) (bS 0) (bW 0) (bN 0) (bO 0) mZ mY mB mL_5 mU mJ mK mG mA)) C.1 hK hA hP hD hS [0, 1, 2, 3, 4, 5, 6, 7, 8, 9, 10, 11, 12, 13] [] [0, 1, 2, 3, 4, 5, 6, 7, 8, 9, 10, 11, 12, 13] 0 (mtX10_byteAt l dC dI cI cB bV bP bS bW bN bO H.size mZ mY mB mL_5 mU mJ mK mG mA (mL_5 14 0) hg) (zCwV 1 C.1 wlX10_109 wiX10_byteAt ws_X10_byteAt wnX10 wkX10_byteAt rfl rfl (by decide +kernel) ⟨Nat.le_of_ble_eq_true rfl, Nat.le_of_ble_eq_true rfl⟩) rfl rfl (by decide +kernel) rfl rfl rfl rfl hl.1 (Nat.le_of_ble_eq_true rfl) dX10_next_62 ⟨Nat.zero_le _, Nat.zero_le _⟩ rfl (fun H locs hP hD hS => ?_)
    refine lv_istore_n (lv' := [(1, .int v6), (0, .ref (bV 0))]) C.1.1 C.1.2.1 dX10_next_65 rfl hl (by decide) rfl (fun ls hl => ?_)
    refine lv_iconst (v := 0) C.1.1 C.1.2.1 dX10_next_66 (by decide) ?_
    refine lv_istore_n (lv' := [(2, .int (0 : Int32)), (1, .int v6), (0, .ref (bV 0))]) C.1.1 C.1.2.1 dX10_next_67 rfl hl (by decide) rfl (fun ls hl => ?_)
    refine lv_iload_n C.1.1 C.1.2.1 dX10_next_68 rfl (lv_at hl 1 rfl) ?_
    refine lv_iconst (v := (-1)) C.1.1 C.1.2.1 dX10_next_69 (by decide) ?_
    refine lv_icmp_ne (tgt := 81) C.1.1 C.1.2.1 dX10_next_70 (by decide) (fun hc => ?_) (fun hc => ?_)
    · replace hf := zIf_f hf hc
      refine lv_iload_n C.1.1 C.1.2.1 dX10_next_81 rfl (lv_at hl 1 rfl) ?_
      obtain ⟨v7, hg, hf⟩ := zB1_el hf
      refine zCSi (As := [.int v6]) (rest := []) (wr := (kX10 cI cB bV (bP 0) (bS 0) (bW 0) (bN 0) (bO 0) mZ mY mB mL_5 mU mJ mK mG mA)) (wn := (kX10 cI cB bV (bP 0) (bS 0) (bW 0) (bN 0) (bO 0) mZ mY mB mL_5 mU mJ mK mG mA)) C.1 hK hA hP hD hS [] [0, 1, 2, 3, 4, 5, 6, 7, 8, 9, 10, 11, 12, 13] [0, 1, 2, 3, 4, 5, 6, 7, 8, 9, 10, 11, 12, 13] (mtX10_isLetter l dC dI cI cB H.size v6 hg) (zCwS 1 C.1 wlX10_118 wtX10_isLetter wnX10 wkX10_isLetter rfl rfl (by decide +kernel) ⟨Nat.le_of_ble_eq_true rfl, Nat.le_of_ble_eq_true rfl⟩) rfl rfl (by decide +kernel) rfl rfl hl.1 (Nat.le_of_ble_eq_true rfl) dX10_next_82 ⟨Nat.zero_le _, Nat.zero_le _⟩ rfl (fun H locs hP hD hS => ?_)
      refine lv_if_eq (tgt := 137) C.1.1 C.1.2.1 dX10_next_85 (by decide) (fun hc => ?_) (fun hc => ?_)
      · replace hf := zIf_t hf hc
        refine lv_iload_n C.1.1 C.1.2.1 dX10_next_137 rfl (lv_at hl 1 rfl) ?_
        obtain ⟨v8, hg, hf⟩ := zB1_el hf
        refine zCSi (As := [.int v6]) (rest := []) (wr := (kX10 cI cB bV (bP 0) (bS 0) (bW 0) (bN 0) (bO 0) mZ mY mB mL_5 mU mJ mK mG mA)) (wn := (kX10 cI cB bV (bP 0) (bS 0) (bW 0) (bN 0) (bO 0) mZ mY mB mL_5 mU mJ mK mG mA)) C.1 hK hA hP hD hS [] [0, 1, 2, 3, 4, 5, 6, 7, 8, 9, 10, 11, 12, 13] [0, 1, 2, 3, 4, 5, 6, 7, 8, 9, 10, 11, 12, 13] (mtX10_isDigit l dC dI cI cB H.size v6 hg) (zCwS 1 C.1 wlX10_125 wtX10_isDigit wnX10 wkX10_isDigit rfl rfl (by decide +kernel) ⟨Nat.le_of_ble_eq_true rfl, Nat.le_of_ble_eq_true rfl⟩) rfl rfl (by decide +kernel) rfl rfl hl.1 (Nat.le_of_ble_eq_true rfl) dX10_next_138 ⟨Nat.zero_le _, Nat.zero_le _⟩ rfl (fun H locs hP hD hS => ?_)
        refine lv_if_eq (tgt := 221) C.1.1 C.1.2.1 dX10_next_141 (by decide) (fun hc => ?_) (fun hc => ?_)
        · replace hf := zIf_t hf hc
          refine lv_iload_n C.1.1 C.1.2.1 dX10_next_221 rfl (lv_at hl 1 rfl) ?_
          obtain ⟨v9, hg, hf⟩ := zB1_el hf
          refine zCSi (As := [.int v6]) (rest := []) (wr := (kX10 cI cB bV (bP 0) (bS 0) (bW 0) (bN 0) (bO 0) mZ mY mB mL_5 mU mJ mK mG mA)) (wn := (kX10 cI cB bV (bP 0) (bS 0) (bW 0) (bN 0) (bO 0) mZ mY mB mL_5 mU mJ mK mG mA)) C.1 hK hA hP hD hS [] [0, 1, 2, 3, 4, 5, 6, 7, 8, 9, 10, 11, 12, 13] [0, 1, 2, 3, 4, 5, 6, 7, 8, 9, 10, 11, 12, 13] (mtX10_isSign l dC dI cI cB H.size v6 hg) (zCwS 1 C.1 wlX10_131 wtX10_isSign wnX10 wkX10_isSign rfl rfl (by decide +kernel) ⟨Nat.le_of_ble_eq_true rfl, Nat.le_of_ble_eq_true rfl⟩) rfl rfl (by decide +kernel) rfl rfl hl.1 (Nat.le_of_ble_eq_true rfl) dX10_next_222 ⟨Nat.zero_le _, Nat.zero_le _⟩ rfl (fun H locs hP hD hS => ?_)
          refine lv_if_eq (tgt := 248) C.1.1 C.1.2.1 dX10_next_225 (by decide) (fun hc => ?_) (fun hc => ?_)
          · replace hf := zIf_t hf hc
            cases hf
            rw [← hQ]
            exact zRv C hK hP hD hS dX10_next_248
          · replace hf := zIf_f hf hc
            refine lv_aload_n C.1.1 C.1.2.1 dX10_next_228 rfl (lv_at hl 2 rfl) ?_
            refine lv_iconst (v := 4) C.1.1 C.1.2.1 dX10_next_229 (by decide) ?_
            obtain ⟨mL_10, emL_10, hf⟩ := zLet_el hf
            refine zPut (ty := .int) (kX10 cI cB bV (bP 0) (bS 0) (bW 0) (bN 0) (bO 0) mZ mY mB mL_10 mU mJ mK mG mA) C.1 wuX10 tyX10 tyX10_ok nmX10 hK hP hD hS 0 rfl rfl 15 (by decide) wfX10_112 rfl rfl (by decide +kernel) rfl rfl (Nat.le_of_ble_eq_true rfl) dX10_next_230 (by rw [emL_10]; rfl) (fun H locs hP hD hS => ?_)
            refine lv_aload_n C.1.1 C.1.2.1 dX10_next_233 rfl (lv_at hl 2 rfl) ?_
            refine lv_iload_n C.1.1 C.1.2.1 dX10_next_234 rfl (lv_at hl 1 rfl) ?_
            obtain ⟨mL_11, emL_11, hf⟩ := zLet_el hf
            refine zPut (ty := .int) (kX10 cI cB bV (bP 0) (bS 0) (bW 0) (bN 0) (bO 0) mZ mY mB mL_11 mU mJ mK mG mA) C.1 wuX10 tyX10 tyX10_ok nmX10 hK hP hD hS 0 rfl rfl 17 (by decide) wfX10_115 rfl rfl (by decide +kernel) rfl rfl (Nat.le_of_ble_eq_true rfl) dX10_next_235 (by rw [emL_11]; rfl) (fun H locs hP hD hS => ?_)
            refine lv_aload_n C.1.1 C.1.2.1 dX10_next_238 rfl (lv_at hl 2 rfl) ?_
            refine lv_dup C.1.1 C.1.2.1 dX10_next_239 rfl ?_
            refine zGet (.int (mL_11 14 0)) C.1 wuX10 hK hP 0 rfl rfl 14 (by decide) wfX10_106 rfl rfl dX10_next_240 ?_
            refine lv_iconst (v := 1) C.1.1 C.1.2.1 dX10_next_243 (by decide) ?_
            refine lv_iadd C.1.1 C.1.2.1 dX10_next_244 ?_
            obtain ⟨mL_12, emL_12, hf⟩ := zLet_el hf
            refine zPut (ty := .int) (kX10 cI cB bV (bP 0) (bS 0) (bW 0) (bN 0) (bO 0) mZ mY mB mL_12 mU mJ mK mG mA) C.1 wuX10 tyX10 tyX10_ok nmX10 hK hP hD hS 0 rfl rfl 14 (by decide) wfX10_106 rfl rfl (by decide +kernel) rfl rfl (Nat.le_of_ble_eq_true rfl) dX10_next_245 (by rw [emL_12]; rfl) (fun H locs hP hD hS => ?_)
            cases hf
            rw [← hQ]
            exact zRv C hK hP hD hS dX10_next_248
        · replace hf := zIf_f hf hc
          refine lv_aload_n C.1.1 C.1.2.1 dX10_next_144 rfl (lv_at hl 2 rfl) ?_
          refine lv_iconst (v := 0) C.1.1 C.1.2.1 dX10_next_145 (by decide) ?_
          obtain ⟨mL_13, emL_13, hf⟩ := zLet_el hf
          refine zPut (ty := .int) (kX10 cI cB bV (bP 0) (bS 0) (bW 0) (bN 0) (bO 0) mZ mY mB mL_13 mU mJ mK mG mA) C.1 wuX10 tyX10 tyX10_ok nmX10 hK hP hD hS 0 rfl rfl 18 (by decide) wfX10_128 rfl rfl (by decide +kernel) rfl rfl (Nat.le_of_ble_eq_true rfl) dX10_next_146 (by rw [emL_13]; rfl) (fun H locs hP hD hS => ?_)
          obtain ⟨J207_16, eJ207_16, hf⟩ := zJn_el hf
          have hJ207_16 : ∀ (x14 : Int32) (mL_15 : Rc), J207_16 x14 mL_15 = some mL' → ∀ (H : Heap) (locs : List Loc), va_P (dC, dI) vwCl (kX10 cI cB bV (bP 0) (bS 0) (bW 0) (bN 0) (bO 0) mZ mY mB mL_15 mU mJ mK mG mA) H → va_D A (kX10 cI cB bV (bP 0) (bS 0) (bW 0) (bN 0) (bO 0) mZ mY mB mL_15 mU mJ mK mG mA) → va_S A s.heap H locs → ∀ (ls : Array Slot), lv_has ls 3 [(0, .ref (bV 0)), (2, .int x14)] → W p l e rX10_next s m args below meth c H locs 0 0 QQ (F0 m 207 ls []) := by
            intro x14 mL_15 hf H locs hP hD hS ls hl
            rw [eJ207_16] at hf
            refine lv_iload_n C.1.1 C.1.2.1 dX10_next_207 rfl (lv_at hl 1 rfl) ?_
            refine lv_bipush (v := 6) C.1.1 C.1.2.1 dX10_next_208 (by decide) ?_
            refine lv_icmp_ge (tgt := 248) C.1.1 C.1.2.1 dX10_next_210 (by decide) (fun hc => ?_) (fun hc => ?_)
            · replace hf := zIf_t hf hc
              cases hf
              rw [← hQ]
              exact zRv C hK hP hD hS dX10_next_248
            · replace hf := zIf_f hf hc
              refine lv_aload_n C.1.1 C.1.2.1 dX10_next_213 rfl (lv_at hl 0 rfl) ?_
              refine lv_iconst (v := 3) C.1.1 C.1.2.1 dX10_next_214 (by decide) ?_
              obtain ⟨mL_17, emL_17, hf⟩ := zLet_el hf
              refine zPut (ty := .int) (kX10 cI cB bV (bP 0) (bS 0) (bW 0) (bN 0) (bO 0) mZ mY mB mL_17 mU mJ mK mG mA) C.1 wuX10 tyX10 tyX10_ok nmX10 hK hP hD hS 0 rfl rfl 15 (by decide) wfX10_112 rfl rfl (by decide +kernel) rfl rfl (Nat.le_of_ble_eq_true rfl) dX10_next_215 (by rw [emL_17]; rfl) (fun H locs hP hD hS => ?_)
              refine lv_goto (tgt := 248) C.1.1 C.1.2.1 dX10_next_218 (by decide) ?_
              cases hf
              rw [← hQ]
              exact zRv C hK hP hD hS dX10_next_248
          refine zLp2_ind (o := mL') (P := fun (x18 : Int32) (mL_19 : Rc) => ∀ (H : Heap) (locs : List Loc), va_P (dC, dI) vwCl (kX10 cI cB bV (bP 0) (bS 0) (bW 0) (bN 0) (bO 0) mZ mY mB mL_19 mU mJ mK mG mA) H → va_D A (kX10 cI cB bV (bP 0) (bS 0) (bW 0) (bN 0) (bO 0) mZ mY mB mL_19 mU mJ mK mG mA) → va_S A s.heap H locs → ∀ (ls : Array Slot), lv_has ls 3 [(0, .ref (bV 0)), (2, .int x18)] → W p l e rX10_next s m args below meth c H locs 0 0 QQ (F0 m 149 ls [])) (fun go20 ihgo20 x18 mL_19 hf H locs hP hD hS ls hl => ?_) _ (0 : Int32) mL_13 hf H locs hP hD hS ls (lv_sub hl [2, 0] rfl)
          refine lv_aload_n C.1.1 C.1.2.1 dX10_next_149 rfl (lv_at hl 0 rfl) ?_
          refine lv_aload_n C.1.1 C.1.2.1 dX10_next_150 rfl (lv_at hl 0 rfl) ?_
          refine zGet (.int (mL_19 14 0)) C.1 wuX10 hK hP 0 rfl rfl 14 (by decide) wfX10_106 rfl rfl dX10_next_151 ?_
          obtain ⟨v21, hg, hf⟩ := zB1_el hf
          refine zCVi (As := [.int (mL_19 14 0)]) (rest := []) (wr := ([] : va_W)) (wn := (kX10 cI cB bV (bP 0) (bS 0) (bW 0) (bN 0) (bO 0) mZ mY mB mL_19 mU mJ mK mG mA)) C.1 hK hA hP hD hS [0, 1, 2, 3, 4, 5, 6, 7, 8, 9, 10, 11, 12, 13] [] [0, 1, 2, 3, 4, 5, 6, 7, 8, 9, 10, 11, 12, 13] 0 (mtX10_byteAt l dC dI cI cB bV bP bS bW bN bO H.size mZ mY mB mL_19 mU mJ mK mG mA (mL_19 14 0) hg) (zCwV 1 C.1 wlX10_109 wiX10_byteAt ws_X10_byteAt wnX10 wkX10_byteAt rfl rfl (by decide +kernel) ⟨Nat.le_of_ble_eq_true rfl, Nat.le_of_ble_eq_true rfl⟩) rfl rfl (by decide +kernel) rfl rfl rfl rfl hl.1 (Nat.le_of_ble_eq_true rfl) dX10_next_154 ⟨Nat.zero_le _, Nat.zero_le _⟩ rfl (fun H locs hP hD hS => ?_)
          obtain ⟨v22, hg, hf⟩ := zB1_el hf
          refine zCSi (As := [.int v21]) (rest := []) (wr := (kX10 cI cB bV (bP 0) (bS 0) (bW 0) (bN 0) (bO 0) mZ mY mB mL_19 mU mJ mK mG mA)) (wn := (kX10 cI cB bV (bP 0) (bS 0) (bW 0) (bN 0) (bO 0) mZ mY mB mL_19 mU mJ mK mG mA)) C.1 hK hA hP hD hS [] [0, 1, 2, 3, 4, 5, 6, 7, 8, 9, 10, 11, 12, 13] [0, 1, 2, 3, 4, 5, 6, 7, 8, 9, 10, 11, 12, 13] (mtX10_isDigit l dC dI cI cB H.size v21 hg) (zCwS 1 C.1 wlX10_125 wtX10_isDigit wnX10 wkX10_isDigit rfl rfl (by decide +kernel) ⟨Nat.le_of_ble_eq_true rfl, Nat.le_of_ble_eq_true rfl⟩) rfl rfl (by decide +kernel) rfl rfl hl.1 (Nat.le_of_ble_eq_true rfl) dX10_next_157 ⟨Nat.zero_le _, Nat.zero_le _⟩ rfl (fun H locs hP hD hS => ?_)
          refine lv_if_eq (tgt := 207) C.1.1 C.1.2.1 dX10_next_160 (by decide) (fun hc => ?_) (fun hc => ?_)
          · replace hf := zIf_t hf hc
            exact hJ207_16 x18 mL_19 hf H locs hP hD hS ls (lv_sub hl [0, 1] rfl)
          · replace hf := zIf_f hf hc
            refine lv_iload_n C.1.1 C.1.2.1 dX10_next_163 rfl (lv_at hl 1 rfl) ?_
            refine lv_iconst (v := 5) C.1.1 C.1.2.1 dX10_next_164 (by decide) ?_
            obtain ⟨J191_24, eJ191_24, hf⟩ := zJn_el hf
            have hJ191_24 : ∀ (mL_23 : Rc), J191_24 mL_23 = some mL' → ∀ (H : Heap) (locs : List Loc), va_P (dC, dI) vwCl (kX10 cI cB bV (bP 0) (bS 0) (bW 0) (bN 0) (bO 0) mZ mY mB mL_23 mU mJ mK mG mA) H → va_D A (kX10 cI cB bV (bP 0) (bS 0) (bW 0) (bN 0) (bO 0) mZ mY mB mL_23 mU mJ mK mG mA) → va_S A s.heap H locs → ∀ (ls : Array Slot), lv_has ls 3 [(0, .ref (bV 0)), (2, .int x18)] → W p l e rX10_next s m args below meth c H locs 0 0 QQ (F0 m 191 ls []) := by
              intro mL_23 hf H locs hP hD hS ls hl
              rw [eJ191_24] at hf
              obtain ⟨x25, ex25, hf⟩ := zLet_el hf
              refine lv_iinc (v := x25) (lv' := [(2, .int x25), (0, .ref (bV 0))]) C.1.1 C.1.2.1 dX10_next_191 hl (k := 1) rfl (by rw [ex25]; rfl) (by decide) rfl (fun ls hl => ?_)
              refine lv_aload_n C.1.1 C.1.2.1 dX10_next_194 rfl (lv_at hl 1 rfl) ?_
              refine lv_dup C.1.1 C.1.2.1 dX10_next_195 rfl ?_
              refine zGet (.int (mL_23 14 0)) C.1 wuX10 hK hP 0 rfl rfl 14 (by decide) wfX10_106 rfl rfl dX10_next_196 ?_
              refine lv_iconst (v := 1) C.1.1 C.1.2.1 dX10_next_199 (by decide) ?_
              refine lv_iadd C.1.1 C.1.2.1 dX10_next_200 ?_
              obtain ⟨mL_26, emL_26, hf⟩ := zLet_el hf
              refine zPut (ty := .int) (kX10 cI cB bV (bP 0) (bS 0) (bW 0) (bN 0) (bO 0) mZ mY mB mL_26 mU mJ mK mG mA) C.1 wuX10 tyX10 tyX10_ok nmX10 hK hP hD hS 0 rfl rfl 14 (by decide) wfX10_106 rfl rfl (by decide +kernel) rfl rfl (Nat.le_of_ble_eq_true rfl) dX10_next_201 (by rw [emL_26]; rfl) (fun H locs hP hD hS => ?_)
              refine lv_goto (tgt := 149) C.1.1 C.1.2.1 dX10_next_204 (by decide) ?_
              exact ihgo20 x25 mL_26 hf H locs hP hD hS ls (lv_sub hl [1, 0] rfl)
            refine lv_icmp_ge (tgt := 191) C.1.1 C.1.2.1 dX10_next_165 (by decide) (fun hc => ?_) (fun hc => ?_)
            · replace hf := zIf_t hf hc
              exact hJ191_24 mL_19 hf H locs hP hD hS ls (lv_sub hl [0, 1] rfl)
            · replace hf := zIf_f hf hc
              refine lv_aload_n C.1.1 C.1.2.1 dX10_next_168 rfl (lv_at hl 0 rfl) ?_
              refine lv_bipush (v := 10) C.1.1 C.1.2.1 dX10_next_169 (by decide) ?_
              refine lv_aload_n C.1.1 C.1.2.1 dX10_next_171 rfl (lv_at hl 0 rfl) ?_
              refine zGet (.int (mL_19 18 0)) C.1 wuX10 hK hP 0 rfl rfl 18 (by decide) wfX10_128 rfl rfl dX10_next_172 ?_
              refine lv_imul C.1.1 C.1.2.1 dX10_next_175 ?_
              refine lv_aload_n C.1.1 C.1.2.1 dX10_next_176 rfl (lv_at hl 0 rfl) ?_
              refine lv_aload_n C.1.1 C.1.2.1 dX10_next_177 rfl (lv_at hl 0 rfl) ?_
              refine zGet (.int (mL_19 14 0)) C.1 wuX10 hK hP 0 rfl rfl 14 (by decide) wfX10_106 rfl rfl dX10_next_178 ?_
              obtain ⟨v27, hg, hf⟩ := zB1_el hf
              refine zCVi (As := [.int (mL_19 14 0)]) (rest := [.int ((10 : Int32) * (mL_19 18 0)), .ref (bV 0)]) (wr := ([] : va_W)) (wn := (kX10 cI cB bV (bP 0) (bS 0) (bW 0) (bN 0) (bO 0) mZ mY mB mL_19 mU mJ mK mG mA)) C.1 hK hA hP hD hS [0, 1, 2, 3, 4, 5, 6, 7, 8, 9, 10, 11, 12, 13] [] [0, 1, 2, 3, 4, 5, 6, 7, 8, 9, 10, 11, 12, 13] 0 (mtX10_byteAt l dC dI cI cB bV bP bS bW bN bO H.size mZ mY mB mL_19 mU mJ mK mG mA (mL_19 14 0) hg) (zCwV 1 C.1 wlX10_109 wiX10_byteAt ws_X10_byteAt wnX10 wkX10_byteAt rfl rfl (by decide +kernel) ⟨Nat.le_of_ble_eq_true rfl, Nat.le_of_ble_eq_true rfl⟩) rfl rfl (by decide +kernel) rfl rfl rfl rfl hl.1 (Nat.le_of_ble_eq_true rfl) dX10_next_181 ⟨Nat.zero_le _, Nat.zero_le _⟩ rfl (fun H locs hP hD hS => ?_)
              refine lv_iadd C.1.1 C.1.2.1 dX10_next_184 ?_
              refine lv_bipush (v := 48) C.1.1 C.1.2.1 dX10_next_185 (by decide) ?_
              refine lv_isub C.1.1 C.1.2.1 dX10_next_187 ?_
              obtain ⟨mL_28, emL_28, hf⟩ := zLet_el hf
              refine zPut (ty := .int) (kX10 cI cB bV (bP 0) (bS 0) (bW 0) (bN 0) (bO 0) mZ mY mB mL_28 mU mJ mK mG mA) C.1 wuX10 tyX10 tyX10_ok nmX10 hK hP hD hS 0 rfl rfl 18 (by decide) wfX10_128 rfl rfl (by decide +kernel) rfl rfl (Nat.le_of_ble_eq_true rfl) dX10_next_188 (by rw [emL_28]; rfl) (fun H locs hP hD hS => ?_)
              exact hJ191_24 mL_28 hf H locs hP hD hS ls (lv_sub hl [0, 1] rfl)
      · replace hf := zIf_f hf hc
        obtain ⟨J118_31, eJ118_31, hf⟩ := zJn_el hf
        have hJ118_31 : ∀ (x29 : Int32) (mL_30 : Rc), J118_31 x29 mL_30 = some mL' → ∀ (H : Heap) (locs : List Loc), va_P (dC, dI) vwCl (kX10 cI cB bV (bP 0) (bS 0) (bW 0) (bN 0) (bO 0) mZ mY mB mL_30 mU mJ mK mG mA) H → va_D A (kX10 cI cB bV (bP 0) (bS 0) (bW 0) (bN 0) (bO 0) mZ mY mB mL_30 mU mJ mK mG mA) → va_S A s.heap H locs → ∀ (ls : Array Slot), lv_has ls 3 [(0, .ref (bV 0)), (2, .int x29)] → W p l e rX10_next s m args below meth c H locs 0 0 QQ (F0 m 118 ls []) := by
          intro x29 mL_30 hf H locs hP hD hS ls hl
          rw [eJ118_31] at hf
          refine lv_aload_n C.1.1 C.1.2.1 dX10_next_118 rfl (lv_at hl 0 rfl) ?_
          refine lv_iload_n C.1.1 C.1.2.1 dX10_next_119 rfl (lv_at hl 1 rfl) ?_
          obtain ⟨mL_32, emL_32, hf⟩ := zLet_el hf
          refine zPut (ty := .int) (kX10 cI cB bV (bP 0) (bS 0) (bW 0) (bN 0) (bO 0) mZ mY mB mL_32 mU mJ mK mG mA) C.1 wuX10 tyX10 tyX10_ok nmX10 hK hP hD hS 0 rfl rfl 19 (by decide) wfX10_122 rfl rfl (by decide +kernel) rfl rfl (Nat.le_of_ble_eq_true rfl) dX10_next_120 (by rw [emL_32]; rfl) (fun H locs hP hD hS => ?_)
          refine lv_iload_n C.1.1 C.1.2.1 dX10_next_123 rfl (lv_at hl 1 rfl) ?_
          refine lv_bipush (v := 8) C.1.1 C.1.2.1 dX10_next_124 (by decide) ?_
          refine lv_icmp_gt (tgt := 248) C.1.1 C.1.2.1 dX10_next_126 (by decide) (fun hc => ?_) (fun hc => ?_)
          · replace hf := zIf_t hf hc
            cases hf
            rw [← hQ]
            exact zRv C hK hP hD hS dX10_next_248
          · replace hf := zIf_f hf hc
            refine lv_aload_n C.1.1 C.1.2.1 dX10_next_129 rfl (lv_at hl 0 rfl) ?_
            refine lv_iconst (v := 2) C.1.1 C.1.2.1 dX10_next_130 (by decide) ?_
            obtain ⟨mL_33, emL_33, hf⟩ := zLet_el hf
            refine zPut (ty := .int) (kX10 cI cB bV (bP 0) (bS 0) (bW 0) (bN 0) (bO 0) mZ mY mB mL_33 mU mJ mK mG mA) C.1 wuX10 tyX10 tyX10_ok nmX10 hK hP hD hS 0 rfl rfl 15 (by decide) wfX10_112 rfl rfl (by decide +kernel) rfl rfl (Nat.le_of_ble_eq_true rfl) dX10_next_131 (by rw [emL_33]; rfl) (fun H locs hP hD hS => ?_)
            refine lv_goto (tgt := 248) C.1.1 C.1.2.1 dX10_next_134 (by decide) ?_
            cases hf
            rw [← hQ]
            exact zRv C hK hP hD hS dX10_next_248
        refine zLp2_ind (o := mL') (P := fun (x34 : Int32) (mL_35 : Rc) => ∀ (H : Heap) (locs : List Loc), va_P (dC, dI) vwCl (kX10 cI cB bV (bP 0) (bS 0) (bW 0) (bN 0) (bO 0) mZ mY mB mL_35 mU mJ mK mG mA) H → va_D A (kX10 cI cB bV (bP 0) (bS 0) (bW 0) (bN 0) (bO 0) mZ mY mB mL_35 mU mJ mK mG mA) → va_S A s.heap H locs → ∀ (ls : Array Slot), lv_has ls 3 [(0, .ref (bV 0)), (2, .int x34)] → W p l e rX10_next s m args below meth c H locs 0 0 QQ (F0 m 88 ls [])) (fun go36 ihgo36 x34 mL_35 hf H locs hP hD hS ls hl => ?_) _ (0 : Int32) mL_5 hf H locs hP hD hS ls (lv_sub hl [2, 0] rfl)
        refine lv_aload_n C.1.1 C.1.2.1 dX10_next_88 rfl (lv_at hl 0 rfl) ?_
        refine lv_aload_n C.1.1 C.1.2.1 dX10_next_89 rfl (lv_at hl 0 rfl) ?_
        refine zGet (.int (mL_35 14 0)) C.1 wuX10 hK hP 0 rfl rfl 14 (by decide) wfX10_106 rfl rfl dX10_next_90 ?_
        obtain ⟨v37, hg, hf⟩ := zB1_el hf
        refine zCVi (As := [.int (mL_35 14 0)]) (rest := []) (wr := ([] : va_W)) (wn := (kX10 cI cB bV (bP 0) (bS 0) (bW 0) (bN 0) (bO 0) mZ mY mB mL_35 mU mJ mK mG mA)) C.1 hK hA hP hD hS [0, 1, 2, 3, 4, 5, 6, 7, 8, 9, 10, 11, 12, 13] [] [0, 1, 2, 3, 4, 5, 6, 7, 8, 9, 10, 11, 12, 13] 0 (mtX10_byteAt l dC dI cI cB bV bP bS bW bN bO H.size mZ mY mB mL_35 mU mJ mK mG mA (mL_35 14 0) hg) (zCwV 1 C.1 wlX10_109 wiX10_byteAt ws_X10_byteAt wnX10 wkX10_byteAt rfl rfl (by decide +kernel) ⟨Nat.le_of_ble_eq_true rfl, Nat.le_of_ble_eq_true rfl⟩) rfl rfl (by decide +kernel) rfl rfl rfl rfl hl.1 (Nat.le_of_ble_eq_true rfl) dX10_next_93 ⟨Nat.zero_le _, Nat.zero_le _⟩ rfl (fun H locs hP hD hS => ?_)
        obtain ⟨v38, hg, hf⟩ := zB1_el hf
        refine zCSi (As := [.int v37]) (rest := []) (wr := (kX10 cI cB bV (bP 0) (bS 0) (bW 0) (bN 0) (bO 0) mZ mY mB mL_35 mU mJ mK mG mA)) (wn := (kX10 cI cB bV (bP 0) (bS 0) (bW 0) (bN 0) (bO 0) mZ mY mB mL_35 mU mJ mK mG mA)) C.1 hK hA hP hD hS [] [0, 1, 2, 3, 4, 5, 6, 7, 8, 9, 10, 11, 12, 13] [0, 1, 2, 3, 4, 5, 6, 7, 8, 9, 10, 11, 12, 13] (mtX10_isLetter l dC dI cI cB H.size v37 hg) (zCwS 1 C.1 wlX10_118 wtX10_isLetter wnX10 wkX10_isLetter rfl rfl (by decide +kernel) ⟨Nat.le_of_ble_eq_true rfl, Nat.le_of_ble_eq_true rfl⟩) rfl rfl (by decide +kernel) rfl rfl hl.1 (Nat.le_of_ble_eq_true rfl) dX10_next_96 ⟨Nat.zero_le _, Nat.zero_le _⟩ rfl (fun H locs hP hD hS => ?_)
        refine lv_if_eq (tgt := 118) C.1.1 C.1.2.1 dX10_next_99 (by decide) (fun hc => ?_) (fun hc => ?_)
        · replace hf := zIf_t hf hc
          exact hJ118_31 x34 mL_35 hf H locs hP hD hS ls (lv_sub hl [0, 1] rfl)
        · replace hf := zIf_f hf hc
          obtain ⟨x39, ex39, hf⟩ := zLet_el hf
          refine lv_iinc (v := x39) (lv' := [(2, .int x39), (0, .ref (bV 0))]) C.1.1 C.1.2.1 dX10_next_102 hl (k := 1) rfl (by rw [ex39]; rfl) (by decide) rfl (fun ls hl => ?_)
          refine lv_aload_n C.1.1 C.1.2.1 dX10_next_105 rfl (lv_at hl 1 rfl) ?_
          refine lv_dup C.1.1 C.1.2.1 dX10_next_106 rfl ?_
          refine zGet (.int (mL_35 14 0)) C.1 wuX10 hK hP 0 rfl rfl 14 (by decide) wfX10_106 rfl rfl dX10_next_107 ?_
          refine lv_iconst (v := 1) C.1.1 C.1.2.1 dX10_next_110 (by decide) ?_
          refine lv_iadd C.1.1 C.1.2.1 dX10_next_111 ?_
          obtain ⟨mL_40, emL_40, hf⟩ := zLet_el hf
          refine zPut (ty := .int) (kX10 cI cB bV (bP 0) (bS 0) (bW 0) (bN 0) (bO 0) mZ mY mB mL_40 mU mJ mK mG mA) C.1 wuX10 tyX10 tyX10_ok nmX10 hK hP hD hS 0 rfl rfl 14 (by decide) wfX10_106 rfl rfl (by decide +kernel) rfl rfl (Nat.le_of_ble_eq_true rfl) dX10_next_112 (by rw [emL_40]; rfl) (fun H locs hP hD hS => ?_)
          refine lv_goto (tgt := 88) C.1.1 C.1.2.1 dX10_next_115 (by decide) ?_
          exact ihgo36 x39 mL_40 hf H locs hP hD hS ls (lv_sub hl [1, 0] rfl)
    · replace hf := zIf_t hf hc
      refine lv_aload_n C.1.1 C.1.2.1 dX10_next_73 rfl (lv_at hl 2 rfl) ?_
      refine lv_iconst (v := 1) C.1.1 C.1.2.1 dX10_next_74 (by decide) ?_
      obtain ⟨mL_41, emL_41, hf⟩ := zLet_el hf
      refine zPut (ty := .int) (kX10 cI cB bV (bP 0) (bS 0) (bW 0) (bN 0) (bO 0) mZ mY mB mL_41 mU mJ mK mG mA) C.1 wuX10 tyX10 tyX10_ok nmX10 hK hP hD hS 0 rfl rfl 15 (by decide) wfX10_112 rfl rfl (by decide +kernel) rfl rfl (Nat.le_of_ble_eq_true rfl) dX10_next_75 (by rw [emL_41]; rfl) (fun H locs hP hD hS => ?_)
      refine lv_goto (tgt := 248) C.1.1 C.1.2.1 dX10_next_78 (by decide) ?_
      cases hf
      rw [← hQ]
      exact zRv C hK hP hD hS dX10_next_248
  refine zLp1_ind (o := mL') (P := fun (mL_42 : Rc) => ∀ (H : Heap) (locs : List Loc), va_P (dC, dI) vwCl (kX10 cI cB bV (bP 0) (bS 0) (bW 0) (bN 0) (bO 0) mZ mY mB mL_42 mU mJ mK mG mA) H → va_D A (kX10 cI cB bV (bP 0) (bS 0) (bW 0) (bN 0) (bO 0) mZ mY mB mL_42 mU mJ mK mG mA) → va_S A s.heap H locs → ∀ (ls : Array Slot), lv_has ls 3 [(0, .ref (bV 0))] → W p l e rX10_next s m args below meth c H locs 0 0 QQ (F0 m 0 ls [])) (fun go43 ihgo43 mL_42 hf H locs hP hD hS ls hl => ?_) _ mL hf H locs hP hD hS ls (lv_sub hl [0] rfl)
  refine lv_aload_n C.1.1 C.1.2.1 dX10_next_0 rfl (lv_at hl 0 rfl) ?_
  refine lv_aload_n C.1.1 C.1.2.1 dX10_next_1 rfl (lv_at hl 0 rfl) ?_
  refine zGet (.int (mL_42 14 0)) C.1 wuX10 hK hP 0 rfl rfl 14 (by decide) wfX10_106 rfl rfl dX10_next_2 ?_
  obtain ⟨v44, hg, hf⟩ := zB1_el hf
  refine zCVi (As := [.int (mL_42 14 0)]) (rest := []) (wr := ([] : va_W)) (wn := (kX10 cI cB bV (bP 0) (bS 0) (bW 0) (bN 0) (bO 0) mZ mY mB mL_42 mU mJ mK mG mA)) C.1 hK hA hP hD hS [0, 1, 2, 3, 4, 5, 6, 7, 8, 9, 10, 11, 12, 13] [] [0, 1, 2, 3, 4, 5, 6, 7, 8, 9, 10, 11, 12, 13] 0 (mtX10_byteAt l dC dI cI cB bV bP bS bW bN bO H.size mZ mY mB mL_42 mU mJ mK mG mA (mL_42 14 0) hg) (zCwV 1 C.1 wlX10_109 wiX10_byteAt ws_X10_byteAt wnX10 wkX10_byteAt rfl rfl (by decide +kernel) ⟨Nat.le_of_ble_eq_true rfl, Nat.le_of_ble_eq_true rfl⟩) rfl rfl (by decide +kernel) rfl rfl rfl rfl hl.1 (Nat.le_of_ble_eq_true rfl) dX10_next_5 ⟨Nat.zero_le _, Nat.zero_le _⟩ rfl (fun H locs hP hD hS => ?_)
  refine lv_bipush (v := 32) C.1.1 C.1.2.1 dX10_next_8 (by decide) ?_
  obtain ⟨J26_45, eJ26_45, hf⟩ := zJn_el hf
  have hJ26_45 : ∀ (u : Unit), J26_45 u = some mL' → ∀ (H : Heap) (locs : List Loc), va_P (dC, dI) vwCl (kX10 cI cB bV (bP 0) (bS 0) (bW 0) (bN 0) (bO 0) mZ mY mB mL_42 mU mJ mK mG mA) H → va_D A (kX10 cI cB bV (bP 0) (bS 0) (bW 0) (bN 0) (bO 0) mZ mY mB mL_42 mU mJ mK mG mA) → va_S A s.heap H locs → ∀ (ls : Array Slot), lv_has ls 3 [(0, .ref (bV 0))] → W p l e rX10_next s m args below meth c H locs 0 0 QQ (F0 m 26 ls []) := by
    intro u hf H locs hP hD hS ls hl
    rw [eJ26_45] at hf
    refine lv_aload_n C.1.1 C.1.2.1 dX10_next_26 rfl (lv_at hl 0 rfl) ?_
    refine lv_dup C.1.1 C.1.2.1 dX10_next_27 rfl ?_
    refine zGet (.int (mL_42 14 0)) C.1 wuX10 hK hP 0 rfl rfl 14 (by decide) wfX10_106 rfl rfl dX10_next_28 ?_
    refine lv_iconst (v := 1) C.1.1 C.1.2.1 dX10_next_31 (by decide) ?_
    refine lv_iadd C.1.1 C.1.2.1 dX10_next_32 ?_
    obtain ⟨mL_46, emL_46, hf⟩ := zLet_el hf
    refine zPut (ty := .int) (kX10 cI cB bV (bP 0) (bS 0) (bW 0) (bN 0) (bO 0) mZ mY mB mL_46 mU mJ mK mG mA) C.1 wuX10 tyX10 tyX10_ok nmX10 hK hP hD hS 0 rfl rfl 14 (by decide) wfX10_106 rfl rfl (by decide +kernel) rfl rfl (Nat.le_of_ble_eq_true rfl) dX10_next_33 (by rw [emL_46]; rfl) (fun H locs hP hD hS => ?_)
    refine lv_goto (tgt := 0) C.1.1 C.1.2.1 dX10_next_36 (by decide) ?_
    exact ihgo43 mL_46 hf H locs hP hD hS ls (lv_sub hl [0] rfl)
  refine lv_icmp_eq (tgt := 26) C.1.1 C.1.2.1 dX10_next_10 (by decide) (fun hc => ?_) (fun hc => ?_)
  · replace hf := zIf_t hf hc
    exact hJ26_45 () hf H locs hP hD hS ls (lv_sub hl [0] rfl)
  · replace hf := zIf_f hf hc
    refine lv_aload_n C.1.1 C.1.2.1 dX10_next_13 rfl (lv_at hl 0 rfl) ?_
    refine lv_aload_n C.1.1 C.1.2.1 dX10_next_14 rfl (lv_at hl 0 rfl) ?_
    refine zGet (.int (mL_42 14 0)) C.1 wuX10 hK hP 0 rfl rfl 14 (by decide) wfX10_106 rfl rfl dX10_next_15 ?_
    obtain ⟨v47, hg, hf⟩ := zB1_el hf
    refine zCVi (As := [.int (mL_42 14 0)]) (rest := []) (wr := ([] : va_W)) (wn := (kX10 cI cB bV (bP 0) (bS 0) (bW 0) (bN 0) (bO 0) mZ mY mB mL_42 mU mJ mK mG mA)) C.1 hK hA hP hD hS [0, 1, 2, 3, 4, 5, 6, 7, 8, 9, 10, 11, 12, 13] [] [0, 1, 2, 3, 4, 5, 6, 7, 8, 9, 10, 11, 12, 13] 0 (mtX10_byteAt l dC dI cI cB bV bP bS bW bN bO H.size mZ mY mB mL_42 mU mJ mK mG mA (mL_42 14 0) hg) (zCwV 1 C.1 wlX10_109 wiX10_byteAt ws_X10_byteAt wnX10 wkX10_byteAt rfl rfl (by decide +kernel) ⟨Nat.le_of_ble_eq_true rfl, Nat.le_of_ble_eq_true rfl⟩) rfl rfl (by decide +kernel) rfl rfl rfl rfl hl.1 (Nat.le_of_ble_eq_true rfl) dX10_next_18 ⟨Nat.zero_le _, Nat.zero_le _⟩ rfl (fun H locs hP hD hS => ?_)
    refine lv_bipush (v := 10) C.1.1 C.1.2.1 dX10_next_21 (by decide) ?_
    refine lv_icmp_ne (tgt := 39) C.1.1 C.1.2.1 dX10_next_23 (by decide) (fun hc => ?_) (fun hc => ?_)
    · replace hf := zIf_f hf hc
      exact hJ39_2 mL_42 hf H locs hP hD hS ls (lv_sub hl [0] rfl)
    · replace hf := zIf_t hf hc
      exact hJ26_45 () hf H locs hP hD hS ls (lv_sub hl [0] rfl)
def fX10_is (mL : Rc) (p1 : Int32) : Option (Int32) :=
  if (mL 15 0) = (4 : Int32) then (
    if (mL 17 0) = p1 then (
      some (1 : Int32)
    ) else (
      some (0 : Int32)
    )
  ) else (
    some (0 : Int32)
  )
abbrev rX10_is : Room := { frames := 0, cells := 0, slots := 0, locals := 0 }
set_option maxHeartbeats 4000000 in
set_option maxRecDepth 100000 in
theorem mtX10_is (l : Launch) (dC : Nat → ClassId) (dI : Nat → Nat → Nat) (cI cB : ClassId) (bV bP bS bW bN bO : Nat → Nat) (sz : Nat) (mZ : Rc) (mY : Rc) (mB : Rc) (mL : Rc) (mU : Rc) (mJ : Rc) (mK : Rc) (mG : Rc) (mA : Rc) (p1 : Int32) {ov : Int32} (hf : fX10_is mL p1 = some ov) : zMi l yX10_is (Cond.code yX10_is cX10_is 2 (some .boolean) :: lw_g) rX10_is (dC, dI) [(cI, .int), (cB, .byte)] [.ref (bV 0), .int p1] sz (kX10 cI cB bV (bP 0) (bS 0) (bW 0) (bN 0) (bO 0) mZ mY mB mL mU mJ mK mG mA) ov (kX10 cI cB bV (bP 0) (bS 0) (bW 0) (bN 0) (bO 0) mZ mY mB mL mU mJ mK mG mA) := by
  refine zSt (cc := cX10_is) (maxL := 2) (ret := (some .boolean)) (own := RX10) (fun A => zQi (dC, dI) [(cI, .int), (cB, .byte)] A ov (kX10 cI cB bV (bP 0) (bS 0) (bW 0) (bN 0) (bO 0) mZ mY mB mL mU mJ mK mG mA)) (by decide) rfl rfl (Nat.le_of_ble_eq_true rfl) ?_
  intro p e s m below meth c ls A H locs C hK hA hP hD hS hl
  generalize hQ : MQ below (zQi (dC, dI) [(cI, .int), (cB, .byte)] A ov (kX10 cI cB bV (bP 0) (bS 0) (bW 0) (bN 0) (bO 0) mZ mY mB mL mU mJ mK mG mA)) _ s 0 0 A = QQ
  generalize ([.ref (bV 0), .int p1] : List Value).toArray = args at C hQ ⊢
  have hl : lv_has ls 2 [(0, .ref (bV 0)), (1, .int p1)] := hl
  unfold fX10_is at hf
  refine lv_aload_n C.1.1 C.1.2.1 dX10_is_0 rfl (lv_at hl 0 rfl) ?_
  refine zGet (.int (mL 15 0)) C.1 wuX10 hK hP 0 rfl rfl 15 (by decide) wfX10_112 rfl rfl dX10_is_1 ?_
  refine lv_iconst (v := 4) C.1.1 C.1.2.1 dX10_is_4 (by decide) ?_
  refine lv_icmp_ne (tgt := 20) C.1.1 C.1.2.1 dX10_is_5 (by decide) (fun hc => ?_) (fun hc => ?_)
  · replace hf := zIf_f hf hc
    refine lv_iconst (v := 0) C.1.1 C.1.2.1 dX10_is_20 (by decide) ?_
    cases hf
    rw [← hQ]
    exact zRz C (by decide +kernel) hK hP hD hS dX10_is_21
  · replace hf := zIf_t hf hc
    refine lv_aload_n C.1.1 C.1.2.1 dX10_is_8 rfl (lv_at hl 0 rfl) ?_
    refine zGet (.int (mL 17 0)) C.1 wuX10 hK hP 0 rfl rfl 17 (by decide) wfX10_115 rfl rfl dX10_is_9 ?_
    refine lv_iload_n C.1.1 C.1.2.1 dX10_is_12 rfl (lv_at hl 1 rfl) ?_
    refine lv_icmp_ne (tgt := 20) C.1.1 C.1.2.1 dX10_is_13 (by decide) (fun hc => ?_) (fun hc => ?_)
    · replace hf := zIf_f hf hc
      refine lv_iconst (v := 0) C.1.1 C.1.2.1 dX10_is_20 (by decide) ?_
      cases hf
      rw [← hQ]
      exact zRz C (by decide +kernel) hK hP hD hS dX10_is_21
    · replace hf := zIf_t hf hc
      refine lv_iconst (v := 1) C.1.1 C.1.2.1 dX10_is_16 (by decide) ?_
      refine lv_goto (tgt := 21) C.1.1 C.1.2.1 dX10_is_17 (by decide) ?_
      cases hf
      rw [← hQ]
      exact zRz C (by decide +kernel) hK hP hD hS dX10_is_21
def fX10_isIf (mB : Rc) (mL : Rc) : Option (Int32) :=
  if (mL 15 0) = (2 : Int32) then (
    if (mL 19 0) = (2 : Int32) then (
      zGd (inb (mL 16 0) 600) <|
      if (mB 11 (mL 16 0).toNatClampNeg) = (105 : Int32) then (
        zGd (inb ((mL 16 0) + (1 : Int32)) 600) <|
        if (mB 11 ((mL 16 0) + (1 : Int32)).toNatClampNeg) = (102 : Int32) then (
          some (1 : Int32)
        ) else (
          some (0 : Int32)
        )
      ) else (
        some (0 : Int32)
      )
    ) else (
      some (0 : Int32)
    )
  ) else (
    some (0 : Int32)
  )
abbrev rX10_isIf : Room := { frames := 0, cells := 0, slots := 0, locals := 0 }
set_option maxHeartbeats 4000000 in
set_option maxRecDepth 100000 in
theorem mtX10_isIf (l : Launch) (dC : Nat → ClassId) (dI : Nat → Nat → Nat) (cI cB : ClassId) (bV bP bS bW bN bO : Nat → Nat) (sz : Nat) (mZ : Rc) (mY : Rc) (mB : Rc) (mL : Rc) (mU : Rc) (mJ : Rc) (mK : Rc) (mG : Rc) (mA : Rc) {ov : Int32} (hf : fX10_isIf mB mL = some ov) : zMi l yX10_isIf (Cond.code yX10_isIf cX10_isIf 1 (some .boolean) :: lw_g) rX10_isIf (dC, dI) [(cI, .int), (cB, .byte)] [.ref (bV 0)] sz (kX10 cI cB bV (bP 0) (bS 0) (bW 0) (bN 0) (bO 0) mZ mY mB mL mU mJ mK mG mA) ov (kX10 cI cB bV (bP 0) (bS 0) (bW 0) (bN 0) (bO 0) mZ mY mB mL mU mJ mK mG mA) := by
  refine zSt (cc := cX10_isIf) (maxL := 1) (ret := (some .boolean)) (own := RX10) (fun A => zQi (dC, dI) [(cI, .int), (cB, .byte)] A ov (kX10 cI cB bV (bP 0) (bS 0) (bW 0) (bN 0) (bO 0) mZ mY mB mL mU mJ mK mG mA)) (by decide) rfl rfl (Nat.le_of_ble_eq_true rfl) ?_
  intro p e s m below meth c ls A H locs C hK hA hP hD hS hl
  generalize hQ : MQ below (zQi (dC, dI) [(cI, .int), (cB, .byte)] A ov (kX10 cI cB bV (bP 0) (bS 0) (bW 0) (bN 0) (bO 0) mZ mY mB mL mU mJ mK mG mA)) _ s 0 0 A = QQ
  generalize ([.ref (bV 0)] : List Value).toArray = args at C hQ ⊢
  have hl : lv_has ls 1 [(0, .ref (bV 0))] := hl
  unfold fX10_isIf at hf
  refine lv_aload_n C.1.1 C.1.2.1 dX10_isIf_0 rfl (lv_at hl 0 rfl) ?_
  refine zGet (.int (mL 15 0)) C.1 wuX10 hK hP 0 rfl rfl 15 (by decide) wfX10_112 rfl rfl dX10_isIf_1 ?_
  refine lv_iconst (v := 2) C.1.1 C.1.2.1 dX10_isIf_4 (by decide) ?_
  refine lv_icmp_ne (tgt := 50) C.1.1 C.1.2.1 dX10_isIf_5 (by decide) (fun hc => ?_) (fun hc => ?_)
  · replace hf := zIf_f hf hc
    refine lv_iconst (v := 0) C.1.1 C.1.2.1 dX10_isIf_50 (by decide) ?_
    cases hf
    rw [← hQ]
    exact zRz C (by decide +kernel) hK hP hD hS dX10_isIf_51
  · replace hf := zIf_t hf hc
    refine lv_aload_n C.1.1 C.1.2.1 dX10_isIf_8 rfl (lv_at hl 0 rfl) ?_
    refine zGet (.int (mL 19 0)) C.1 wuX10 hK hP 0 rfl rfl 19 (by decide) wfX10_122 rfl rfl dX10_isIf_9 ?_
    refine lv_iconst (v := 2) C.1.1 C.1.2.1 dX10_isIf_12 (by decide) ?_
    refine lv_icmp_ne (tgt := 50) C.1.1 C.1.2.1 dX10_isIf_13 (by decide) (fun hc => ?_) (fun hc => ?_)
    · replace hf := zIf_f hf hc
      refine lv_iconst (v := 0) C.1.1 C.1.2.1 dX10_isIf_50 (by decide) ?_
      cases hf
      rw [← hQ]
      exact zRz C (by decide +kernel) hK hP hD hS dX10_isIf_51
    · replace hf := zIf_t hf hc
      refine lv_aload_n C.1.1 C.1.2.1 dX10_isIf_16 rfl (lv_at hl 0 rfl) ?_
      refine zGet (.ref (bV 1)) C.1 wuX10 hK hP 0 rfl rfl 11 (by decide) wfX10_39 rfl rfl dX10_isIf_17 ?_
      refine lv_aload_n C.1.1 C.1.2.1 dX10_isIf_20 rfl (lv_at hl 0 rfl) ?_
      refine zGet (.int (mL 16 0)) C.1 wuX10 hK hP 0 rfl rfl 16 (by decide) wfX10_95 rfl rfl dX10_isIf_21 ?_
      obtain ⟨hib, hf⟩ := zGd_el hf
      refine va_bald C.1.1 C.1.2.1 hK.1 hP 1 1 rfl rfl hib dX10_isIf_24 ?_
      refine lv_bipush (v := 105) C.1.1 C.1.2.1 dX10_isIf_25 (by decide) ?_
      refine lv_icmp_ne (tgt := 50) C.1.1 C.1.2.1 dX10_isIf_27 (by decide) (fun hc => ?_) (fun hc => ?_)
      · replace hf := zIf_f hf hc
        refine lv_iconst (v := 0) C.1.1 C.1.2.1 dX10_isIf_50 (by decide) ?_
        cases hf
        rw [← hQ]
        exact zRz C (by decide +kernel) hK hP hD hS dX10_isIf_51
      · replace hf := zIf_t hf hc
        refine lv_aload_n C.1.1 C.1.2.1 dX10_isIf_30 rfl (lv_at hl 0 rfl) ?_
        refine zGet (.ref (bV 1)) C.1 wuX10 hK hP 0 rfl rfl 11 (by decide) wfX10_39 rfl rfl dX10_isIf_31 ?_
        refine lv_aload_n C.1.1 C.1.2.1 dX10_isIf_34 rfl (lv_at hl 0 rfl) ?_
        refine zGet (.int (mL 16 0)) C.1 wuX10 hK hP 0 rfl rfl 16 (by decide) wfX10_95 rfl rfl dX10_isIf_35 ?_
        refine lv_iconst (v := 1) C.1.1 C.1.2.1 dX10_isIf_38 (by decide) ?_
        refine lv_iadd C.1.1 C.1.2.1 dX10_isIf_39 ?_
        obtain ⟨hib, hf⟩ := zGd_el hf
        refine va_bald C.1.1 C.1.2.1 hK.1 hP 1 1 rfl rfl hib dX10_isIf_40 ?_
        refine lv_bipush (v := 102) C.1.1 C.1.2.1 dX10_isIf_41 (by decide) ?_
        refine lv_icmp_ne (tgt := 50) C.1.1 C.1.2.1 dX10_isIf_43 (by decide) (fun hc => ?_) (fun hc => ?_)
        · replace hf := zIf_f hf hc
          refine lv_iconst (v := 0) C.1.1 C.1.2.1 dX10_isIf_50 (by decide) ?_
          cases hf
          rw [← hQ]
          exact zRz C (by decide +kernel) hK hP hD hS dX10_isIf_51
        · replace hf := zIf_t hf hc
          refine lv_iconst (v := 1) C.1.1 C.1.2.1 dX10_isIf_46 (by decide) ?_
          refine lv_goto (tgt := 51) C.1.1 C.1.2.1 dX10_isIf_47 (by decide) ?_
          cases hf
          rw [← hQ]
          exact zRz C (by decide +kernel) hK hP hD hS dX10_isIf_51
def fX10_isName_L24 (mB : Rc) (mL : Rc) (mS : Rc) (p1 : Int32) (J76_4 : Int32 → Option (Int32)) (n : Nat) (x5 : Int32) (x6 : Int32) : Option (Int32) := zLp2 (fun (go7 : Int32 → Int32 → Option (Int32)) (x5 : Int32) (x6 : Int32) =>
    if (mL 19 0) ≤ x6 then (
      J76_4 x5
    ) else (
      if x5 = 0 then (
        J76_4 x5
      ) else (
        zGd (inb (((8 : Int32) * p1) + x6) 96) <|
        zGd (inb ((mL 16 0) + x6) 600) <|
        if (mS 6 (((8 : Int32) * p1) + x6).toNatClampNeg) = (mB 11 ((mL 16 0) + x6).toNatClampNeg) then (
          zLet (x6 + 1) fun x9 =>
          go7 (1 : Int32) x9
        ) else (
          zLet (x6 + 1) fun x8 =>
          go7 (0 : Int32) x8
        )
      )
    )
  ) n x5 x6
def fX10_isName (NN : Nat) (mB : Rc) (mL : Rc) (mS : Rc) (p1 : Int32) : Option (Int32) :=
  zGd (inb p1 12) <|
  zJn (fun (t1 : Int32) =>
      zJn (fun (x3 : Int32) =>
          zGd (zbit x3) <|
          some x3
        ) fun J76_4 =>
      fX10_isName_L24 mB mL mS p1 J76_4 NN t1 (0 : Int32)
    ) fun J21_2 =>
  if (mS 3 p1.toNatClampNeg) = (mL 19 0) then (
    J21_2 (1 : Int32)
  ) else (
    J21_2 (0 : Int32)
  )
abbrev rX10_isName : Room := { frames := 0, cells := 0, slots := 0, locals := 0 }
set_option maxHeartbeats 4000000 in
set_option maxRecDepth 100000 in
theorem mtX10_isName (l : Launch) (dC : Nat → ClassId) (dI : Nat → Nat → Nat) (cI cB : ClassId) (bV bP bS bW bN bO : Nat → Nat) (sz : Nat) (NN : Nat) (mZ : Rc) (mY : Rc) (mB : Rc) (mL : Rc) (mU : Rc) (mJ : Rc) (mK : Rc) (mG : Rc) (mA : Rc) (mS : Rc) (p1 : Int32) {ov : Int32} (hf : fX10_isName NN mB mL mS p1 = some ov) : zMi l yX10_isName (Cond.code yX10_isName cX10_isName 4 (some .boolean) :: lw_g) rX10_isName (dC, dI) [(cI, .int), (cB, .byte)] [.ref (bV 0), .int p1] sz (kX10 cI cB bV (bP 0) (bS 0) (bW 0) (bN 0) (bO 0) mZ mY mB mL mU mJ mK mG mA ++ kX8 cI cB bS mS) ov (kX10 cI cB bV (bP 0) (bS 0) (bW 0) (bN 0) (bO 0) mZ mY mB mL mU mJ mK mG mA ++ kX8 cI cB bS mS) := by
  refine zSt (cc := cX10_isName) (maxL := 4) (ret := (some .boolean)) (own := RX10) (fun A => zQi (dC, dI) [(cI, .int), (cB, .byte)] A ov (kX10 cI cB bV (bP 0) (bS 0) (bW 0) (bN 0) (bO 0) mZ mY mB mL mU mJ mK mG mA ++ kX8 cI cB bS mS)) (by decide) rfl rfl (Nat.le_of_ble_eq_true rfl) ?_
  intro p e s m below meth c ls A H locs C hK hA hP hD hS hl
  generalize hQ : MQ below (zQi (dC, dI) [(cI, .int), (cB, .byte)] A ov (kX10 cI cB bV (bP 0) (bS 0) (bW 0) (bN 0) (bO 0) mZ mY mB mL mU mJ mK mG mA ++ kX8 cI cB bS mS)) _ s 0 0 A = QQ
  generalize ([.ref (bV 0), .int p1] : List Value).toArray = args at C hQ ⊢
  have hl : lv_has ls 4 [(0, .ref (bV 0)), (1, .int p1)] := hl
  unfold fX10_isName at hf
  refine lv_aload_n C.1.1 C.1.2.1 dX10_isName_0 rfl (lv_at hl 0 rfl) ?_
  refine zGet (.ref (bS 0)) C.1 wuX10 hK hP 0 rfl rfl 8 (by decide) wfX10_29 rfl rfl dX10_isName_1 ?_
  refine zGetN (.ref (bS 1)) C.1 wuX8 hK hP 14 rfl rfl 3 (by decide) nfX10_158 rfl rfl dX10_isName_4 ?_
  refine lv_iload_n C.1.1 C.1.2.1 dX10_isName_7 rfl (lv_at hl 1 rfl) ?_
  obtain ⟨hib, hf⟩ := zGd_el hf
  refine va_iald C.1.1 C.1.2.1 hK.1 hP 15 0 rfl rfl hib dX10_isName_8 ?_
  refine lv_aload_n C.1.1 C.1.2.1 dX10_isName_9 rfl (lv_at hl 0 rfl) ?_
  refine zGet (.int (mL 19 0)) C.1 wuX10 hK hP 0 rfl rfl 19 (by decide) wfX10_122 rfl rfl dX10_isName_10 ?_
  obtain ⟨J21_2, eJ21_2, hf⟩ := zJn_el hf
  have hJ21_2 : ∀ (t1 : Int32), J21_2 t1 = some ov → ∀ (H : Heap) (locs : List Loc), va_P (dC, dI) vwCl (kX10 cI cB bV (bP 0) (bS 0) (bW 0) (bN 0) (bO 0) mZ mY mB mL mU mJ mK mG mA ++ kX8 cI cB bS mS) H → va_D A (kX10 cI cB bV (bP 0) (bS 0) (bW 0) (bN 0) (bO 0) mZ mY mB mL mU mJ mK mG mA ++ kX8 cI cB bS mS) → va_S A s.heap H locs → ∀ (ls : Array Slot), lv_has ls 4 [(0, .ref (bV 0)), (1, .int p1)] → W p l e rX10_isName s m args below meth c H locs 0 0 QQ (F0 m 21 ls [.int t1]) := by
    intro t1 hf H locs hP hD hS ls hl
    rw [eJ21_2] at hf
    refine lv_istore_n (lv' := [(2, .int t1), (0, .ref (bV 0)), (1, .int p1)]) C.1.1 C.1.2.1 dX10_isName_21 rfl hl (by decide) rfl (fun ls hl => ?_)
    refine lv_iconst (v := 0) C.1.1 C.1.2.1 dX10_isName_22 (by decide) ?_
    refine lv_istore_n (lv' := [(3, .int (0 : Int32)), (2, .int t1), (0, .ref (bV 0)), (1, .int p1)]) C.1.1 C.1.2.1 dX10_isName_23 rfl hl (by decide) rfl (fun ls hl => ?_)
    obtain ⟨J76_4, eJ76_4, hf⟩ := zJn_el hf
    have hJ76_4 : ∀ (x3 : Int32), J76_4 x3 = some ov → ∀ (H : Heap) (locs : List Loc), va_P (dC, dI) vwCl (kX10 cI cB bV (bP 0) (bS 0) (bW 0) (bN 0) (bO 0) mZ mY mB mL mU mJ mK mG mA ++ kX8 cI cB bS mS) H → va_D A (kX10 cI cB bV (bP 0) (bS 0) (bW 0) (bN 0) (bO 0) mZ mY mB mL mU mJ mK mG mA ++ kX8 cI cB bS mS) → va_S A s.heap H locs → ∀ (ls : Array Slot), lv_has ls 4 [(2, .int x3)] → W p l e rX10_isName s m args below meth c H locs 0 0 QQ (F0 m 76 ls []) := by
      intro x3 hf H locs hP hD hS ls hl
      rw [eJ76_4] at hf
      refine lv_iload_n C.1.1 C.1.2.1 dX10_isName_76 rfl (lv_at hl 0 rfl) ?_
      obtain ⟨hz, hf⟩ := zGd_el hf
      cases hf
      rw [← hQ]
      exact zRz C (zbit_n hz).1 hK hP hD hS dX10_isName_77
    refine zLp2_ind (o := ov) (P := fun (x5 : Int32) (x6 : Int32) => ∀ (H : Heap) (locs : List Loc), va_P (dC, dI) vwCl (kX10 cI cB bV (bP 0) (bS 0) (bW 0) (bN 0) (bO 0) mZ mY mB mL mU mJ mK mG mA ++ kX8 cI cB bS mS) H → va_D A (kX10 cI cB bV (bP 0) (bS 0) (bW 0) (bN 0) (bO 0) mZ mY mB mL mU mJ mK mG mA ++ kX8 cI cB bS mS) → va_S A s.heap H locs → ∀ (ls : Array Slot), lv_has ls 4 [(0, .ref (bV 0)), (1, .int p1), (2, .int x5), (3, .int x6)] → W p l e rX10_isName s m args below meth c H locs 0 0 QQ (F0 m 24 ls [])) (fun go7 ihgo7 x5 x6 hf H locs hP hD hS ls hl => ?_) _ t1 (0 : Int32) hf H locs hP hD hS ls (lv_sub hl [2, 3, 1, 0] rfl)
    refine lv_iload_n C.1.1 C.1.2.1 dX10_isName_24 rfl (lv_at hl 3 rfl) ?_
    refine lv_aload_n C.1.1 C.1.2.1 dX10_isName_25 rfl (lv_at hl 0 rfl) ?_
    refine zGet (.int (mL 19 0)) C.1 wuX10 hK hP 0 rfl rfl 19 (by decide) wfX10_122 rfl rfl dX10_isName_26 ?_
    refine lv_icmp_ge (tgt := 76) C.1.1 C.1.2.1 dX10_isName_29 (by decide) (fun hc => ?_) (fun hc => ?_)
    · replace hf := zIf_t hf hc
      exact hJ76_4 x5 hf H locs hP hD hS ls (lv_sub hl [2] rfl)
    · replace hf := zIf_f hf hc
      refine lv_iload_n C.1.1 C.1.2.1 dX10_isName_32 rfl (lv_at hl 2 rfl) ?_
      refine lv_if_eq (tgt := 76) C.1.1 C.1.2.1 dX10_isName_33 (by decide) (fun hc => ?_) (fun hc => ?_)
      · replace hf := zIf_t hf hc
        exact hJ76_4 x5 hf H locs hP hD hS ls (lv_sub hl [2] rfl)
      · replace hf := zIf_f hf hc
        refine lv_aload_n C.1.1 C.1.2.1 dX10_isName_36 rfl (lv_at hl 0 rfl) ?_
        refine zGet (.ref (bS 0)) C.1 wuX10 hK hP 0 rfl rfl 8 (by decide) wfX10_29 rfl rfl dX10_isName_37 ?_
        refine zGetN (.ref (bS 4)) C.1 wuX8 hK hP 14 rfl rfl 6 (by decide) nfX10_161 rfl rfl dX10_isName_40 ?_
        refine lv_bipush (v := 8) C.1.1 C.1.2.1 dX10_isName_43 (by decide) ?_
        refine lv_iload_n C.1.1 C.1.2.1 dX10_isName_45 rfl (lv_at hl 1 rfl) ?_
        refine lv_imul C.1.1 C.1.2.1 dX10_isName_46 ?_
        refine lv_iload_n C.1.1 C.1.2.1 dX10_isName_47 rfl (lv_at hl 3 rfl) ?_
        refine lv_iadd C.1.1 C.1.2.1 dX10_isName_48 ?_
        obtain ⟨hib, hf⟩ := zGd_el hf
        refine va_bald C.1.1 C.1.2.1 hK.1 hP 18 1 rfl rfl hib dX10_isName_49 ?_
        refine lv_aload_n C.1.1 C.1.2.1 dX10_isName_50 rfl (lv_at hl 0 rfl) ?_
        refine zGet (.ref (bV 1)) C.1 wuX10 hK hP 0 rfl rfl 11 (by decide) wfX10_39 rfl rfl dX10_isName_51 ?_
        refine lv_aload_n C.1.1 C.1.2.1 dX10_isName_54 rfl (lv_at hl 0 rfl) ?_
        refine zGet (.int (mL 16 0)) C.1 wuX10 hK hP 0 rfl rfl 16 (by decide) wfX10_95 rfl rfl dX10_isName_55 ?_
        refine lv_iload_n C.1.1 C.1.2.1 dX10_isName_58 rfl (lv_at hl 3 rfl) ?_
        refine lv_iadd C.1.1 C.1.2.1 dX10_isName_59 ?_
        obtain ⟨hib, hf⟩ := zGd_el hf
        refine va_bald C.1.1 C.1.2.1 hK.1 hP 1 1 rfl rfl hib dX10_isName_60 ?_
        refine lv_icmp_ne (tgt := 68) C.1.1 C.1.2.1 dX10_isName_61 (by decide) (fun hc => ?_) (fun hc => ?_)
        · replace hf := zIf_f hf hc
          refine lv_iconst (v := 0) C.1.1 C.1.2.1 dX10_isName_68 (by decide) ?_
          refine lv_istore_n (lv' := [(2, .int (0 : Int32)), (0, .ref (bV 0)), (1, .int p1), (3, .int x6)]) C.1.1 C.1.2.1 dX10_isName_69 rfl hl (by decide) rfl (fun ls hl => ?_)
          obtain ⟨x8, ex8, hf⟩ := zLet_el hf
          refine lv_iinc (v := x8) (lv' := [(3, .int x8), (2, .int (0 : Int32)), (0, .ref (bV 0)), (1, .int p1)]) C.1.1 C.1.2.1 dX10_isName_70 hl (k := 3) rfl (by rw [ex8]; rfl) (by decide) rfl (fun ls hl => ?_)
          refine lv_goto (tgt := 24) C.1.1 C.1.2.1 dX10_isName_73 (by decide) ?_
          exact ihgo7 (0 : Int32) x8 hf H locs hP hD hS ls (lv_sub hl [2, 3, 1, 0] rfl)
        · replace hf := zIf_t hf hc
          refine lv_iconst (v := 1) C.1.1 C.1.2.1 dX10_isName_64 (by decide) ?_
          refine lv_goto (tgt := 69) C.1.1 C.1.2.1 dX10_isName_65 (by decide) ?_
          refine lv_istore_n (lv' := [(2, .int (1 : Int32)), (0, .ref (bV 0)), (1, .int p1), (3, .int x6)]) C.1.1 C.1.2.1 dX10_isName_69 rfl hl (by decide) rfl (fun ls hl => ?_)
          obtain ⟨x9, ex9, hf⟩ := zLet_el hf
          refine lv_iinc (v := x9) (lv' := [(3, .int x9), (2, .int (1 : Int32)), (0, .ref (bV 0)), (1, .int p1)]) C.1.1 C.1.2.1 dX10_isName_70 hl (k := 3) rfl (by rw [ex9]; rfl) (by decide) rfl (fun ls hl => ?_)
          refine lv_goto (tgt := 24) C.1.1 C.1.2.1 dX10_isName_73 (by decide) ?_
          exact ihgo7 (1 : Int32) x9 hf H locs hP hD hS ls (lv_sub hl [2, 3, 1, 0] rfl)
  refine lv_icmp_ne (tgt := 20) C.1.1 C.1.2.1 dX10_isName_13 (by decide) (fun hc => ?_) (fun hc => ?_)
  · replace hf := zIf_f hf hc
    refine lv_iconst (v := 0) C.1.1 C.1.2.1 dX10_isName_20 (by decide) ?_
    exact hJ21_2 (0 : Int32) hf H locs hP hD hS ls (lv_sub hl [0, 1] rfl)
  · replace hf := zIf_t hf hc
    refine lv_iconst (v := 1) C.1.1 C.1.2.1 dX10_isName_16 (by decide) ?_
    refine lv_goto (tgt := 21) C.1.1 C.1.2.1 dX10_isName_17 (by decide) ?_
    exact hJ21_2 (1 : Int32) hf H locs hP hD hS ls (lv_sub hl [0, 1] rfl)
def fX10_feed_L23 (p1 : Int32) (p2 : Int32) (p3 : Int32) (p4 : Int32) (p5 : Int32) (J117_3 : Rc → Option (Int32 × Rc × Rc)) (n : Nat) (x4 : Int32) (mB_5 : Rc) : Option (Int32 × Rc × Rc) := zLp2 (fun (go6 : Int32 → Rc → Option (Int32 × Rc × Rc)) (x4 : Int32) (mB_5 : Rc) =>
    if (20 : Int32) ≤ x4 then (
      J117_3 mB_5
    ) else (
      zJn (fun (t7 : Int32) =>
          zGd (inb (mB_5 12 0) 600) <|
          zLet (rs mB_5 11 (upd (mB_5 11) (mB_5 12 0).toNatClampNeg (vp_nar .byte ((t7 >>> (((24 : Int32) - ((8 : Int32) * (x4 - x4 / (4 : Int32) * (4 : Int32)))) &&& 31)).toInt8.toInt32)))) fun mB_9 =>
          zLet (rs mB_9 12 (fun _ => ((mB_9 12 0) + (1 : Int32)))) fun mB_10 =>
          zLet (x4 + 1) fun x11 =>
          go6 x11 mB_10
        ) fun J76_8 =>
      if (4 : Int32) ≤ x4 then (
        if (8 : Int32) ≤ x4 then (
          if (12 : Int32) ≤ x4 then (
            if (16 : Int32) ≤ x4 then (
              J76_8 p5
            ) else (
              J76_8 p4
            )
          ) else (
            J76_8 p3
          )
        ) else (
          J76_8 p2
        )
      ) else (
        J76_8 p1
      )
    )
  ) n x4 mB_5
def fX10_feed (NN : Nat) (mZ : Rc) (mB : Rc) (p1 : Int32) (p2 : Int32) (p3 : Int32) (p4 : Int32) (p5 : Int32) : Option (Int32 × Rc × Rc) :=
  zLet (rs mZ 0 (fun _ => (0 : Int32))) fun mZ_1 =>
  if ((mB 12 0) + (20 : Int32)) ≤ (600 : Int32) then (
    zJn (fun (mB_2 : Rc) =>
        some ((mB_2 12 0), mZ_1, mB_2)
      ) fun J117_3 =>
    fX10_feed_L23 p1 p2 p3 p4 p5 J117_3 NN (0 : Int32) mB
  ) else (
    some ((-1 : Int32), mZ_1, mB)
  )
abbrev rX10_feed : Room := { frames := 0, cells := 0, slots := 0, locals := 0 }
set_option maxHeartbeats 4000000 in
set_option maxRecDepth 100000 in
theorem mtX10_feed (l : Launch) (dC : Nat → ClassId) (dI : Nat → Nat → Nat) (cI cB : ClassId) (bV bP bS bW bN bO : Nat → Nat) (sz : Nat) (NN : Nat) (mZ : Rc) (mY : Rc) (mB : Rc) (mL : Rc) (mU : Rc) (mJ : Rc) (mK : Rc) (mG : Rc) (mA : Rc) (p1 : Int32) (p2 : Int32) (p3 : Int32) (p4 : Int32) (p5 : Int32) {ov : Int32} {mZ' : Rc} {mB' : Rc} (hf : fX10_feed NN mZ mB p1 p2 p3 p4 p5 = some (ov, mZ', mB')) : zMi l yX10_feed (Cond.code yX10_feed cX10_feed 8 (some .int) :: lw_g) rX10_feed (dC, dI) [(cI, .int), (cB, .byte)] [.ref (bV 0), .int p1, .int p2, .int p3, .int p4, .int p5] sz (kX10 cI cB bV (bP 0) (bS 0) (bW 0) (bN 0) (bO 0) mZ mY mB mL mU mJ mK mG mA) ov (kX10 cI cB bV (bP 0) (bS 0) (bW 0) (bN 0) (bO 0) mZ' mY mB' mL mU mJ mK mG mA) := by
  refine zSt (cc := cX10_feed) (maxL := 8) (ret := (some .int)) (own := RX10) (fun A => zQi (dC, dI) [(cI, .int), (cB, .byte)] A ov (kX10 cI cB bV (bP 0) (bS 0) (bW 0) (bN 0) (bO 0) mZ' mY mB' mL mU mJ mK mG mA)) (by decide) rfl rfl (Nat.le_of_ble_eq_true rfl) ?_
  intro p e s m below meth c ls A H locs C hK hA hP hD hS hl
  generalize hQ : MQ below (zQi (dC, dI) [(cI, .int), (cB, .byte)] A ov (kX10 cI cB bV (bP 0) (bS 0) (bW 0) (bN 0) (bO 0) mZ' mY mB' mL mU mJ mK mG mA)) _ s 0 0 A = QQ
  generalize ([.ref (bV 0), .int p1, .int p2, .int p3, .int p4, .int p5] : List Value).toArray = args at C hQ ⊢
  have hl : lv_has ls 8 [(0, .ref (bV 0)), (1, .int p1), (2, .int p2), (3, .int p3), (4, .int p4), (5, .int p5)] := hl
  unfold fX10_feed at hf
  refine lv_aload_n C.1.1 C.1.2.1 dX10_feed_0 rfl (lv_at hl 0 rfl) ?_
  refine lv_iconst (v := 0) C.1.1 C.1.2.1 dX10_feed_1 (by decide) ?_
  obtain ⟨mZ_1, emZ_1, hf⟩ := zLet_el hf
  refine zPut (ty := .int) (kX10 cI cB bV (bP 0) (bS 0) (bW 0) (bN 0) (bO 0) mZ_1 mY mB mL mU mJ mK mG mA) C.1 wuX10 tyX10 tyX10_ok nmX10 hK hP hD hS 0 rfl rfl 0 (by decide) wfX10_86 rfl rfl (by decide +kernel) rfl rfl (Nat.le_of_ble_eq_true rfl) dX10_feed_2 (by rw [emZ_1]; rfl) (fun H locs hP hD hS => ?_)
  refine lv_aload_n C.1.1 C.1.2.1 dX10_feed_5 rfl (lv_at hl 0 rfl) ?_
  refine zGet (.int (mB 12 0)) C.1 wuX10 hK hP 0 rfl rfl 12 (by decide) wfX10_218 rfl rfl dX10_feed_6 ?_
  refine lv_bipush (v := 20) C.1.1 C.1.2.1 dX10_feed_9 (by decide) ?_
  refine lv_iadd C.1.1 C.1.2.1 dX10_feed_11 ?_
  refine lv_sipush (v := 600) C.1.1 C.1.2.1 dX10_feed_12 (by decide) ?_
  refine lv_icmp_le (tgt := 20) C.1.1 C.1.2.1 dX10_feed_15 (by decide) (fun hc => ?_) (fun hc => ?_)
  · replace hf := zIf_t hf hc
    refine lv_iconst (v := 0) C.1.1 C.1.2.1 dX10_feed_20 (by decide) ?_
    refine lv_istore (lv' := [(6, .int (0 : Int32)), (0, .ref (bV 0)), (1, .int p1), (2, .int p2), (3, .int p3), (4, .int p4), (5, .int p5)]) C.1.1 C.1.2.1 dX10_feed_21 hl (by decide) rfl (fun ls hl => ?_)
    obtain ⟨J117_3, eJ117_3, hf⟩ := zJn_el hf
    have hJ117_3 : ∀ (mB_2 : Rc), J117_3 mB_2 = some (ov, mZ', mB') → ∀ (H : Heap) (locs : List Loc), va_P (dC, dI) vwCl (kX10 cI cB bV (bP 0) (bS 0) (bW 0) (bN 0) (bO 0) mZ_1 mY mB_2 mL mU mJ mK mG mA) H → va_D A (kX10 cI cB bV (bP 0) (bS 0) (bW 0) (bN 0) (bO 0) mZ_1 mY mB_2 mL mU mJ mK mG mA) → va_S A s.heap H locs → ∀ (ls : Array Slot), lv_has ls 8 [(0, .ref (bV 0))] → W p l e rX10_feed s m args below meth c H locs 0 0 QQ (F0 m 117 ls []) := by
      intro mB_2 hf H locs hP hD hS ls hl
      rw [eJ117_3] at hf
      refine lv_aload_n C.1.1 C.1.2.1 dX10_feed_117 rfl (lv_at hl 0 rfl) ?_
      refine zGet (.int (mB_2 12 0)) C.1 wuX10 hK hP 0 rfl rfl 12 (by decide) wfX10_218 rfl rfl dX10_feed_118 ?_
      cases hf
      rw [← hQ]
      exact zRi C hK hP hD hS dX10_feed_121
    refine zLp2_ind (o := (ov, mZ', mB')) (P := fun (x4 : Int32) (mB_5 : Rc) => ∀ (H : Heap) (locs : List Loc), va_P (dC, dI) vwCl (kX10 cI cB bV (bP 0) (bS 0) (bW 0) (bN 0) (bO 0) mZ_1 mY mB_5 mL mU mJ mK mG mA) H → va_D A (kX10 cI cB bV (bP 0) (bS 0) (bW 0) (bN 0) (bO 0) mZ_1 mY mB_5 mL mU mJ mK mG mA) → va_S A s.heap H locs → ∀ (ls : Array Slot), lv_has ls 8 [(0, .ref (bV 0)), (1, .int p1), (2, .int p2), (3, .int p3), (4, .int p4), (5, .int p5), (6, .int x4)] → W p l e rX10_feed s m args below meth c H locs 0 0 QQ (F0 m 23 ls [])) (fun go6 ihgo6 x4 mB_5 hf H locs hP hD hS ls hl => ?_) _ (0 : Int32) mB hf H locs hP hD hS ls (lv_sub hl [1, 2, 3, 4, 5, 6, 0] rfl)
    refine lv_iload C.1.1 C.1.2.1 dX10_feed_23 (lv_at hl 6 rfl) ?_
    refine lv_bipush (v := 20) C.1.1 C.1.2.1 dX10_feed_25 (by decide) ?_
    refine lv_icmp_ge (tgt := 117) C.1.1 C.1.2.1 dX10_feed_27 (by decide) (fun hc => ?_) (fun hc => ?_)
    · replace hf := zIf_t hf hc
      exact hJ117_3 mB_5 hf H locs hP hD hS ls (lv_sub hl [0] rfl)
    · replace hf := zIf_f hf hc
      refine lv_iload C.1.1 C.1.2.1 dX10_feed_30 (lv_at hl 6 rfl) ?_
      refine lv_iconst (v := 4) C.1.1 C.1.2.1 dX10_feed_32 (by decide) ?_
      obtain ⟨J76_8, eJ76_8, hf⟩ := zJn_el hf
      have hJ76_8 : ∀ (t7 : Int32), J76_8 t7 = some (ov, mZ', mB') → ∀ (H : Heap) (locs : List Loc), va_P (dC, dI) vwCl (kX10 cI cB bV (bP 0) (bS 0) (bW 0) (bN 0) (bO 0) mZ_1 mY mB_5 mL mU mJ mK mG mA) H → va_D A (kX10 cI cB bV (bP 0) (bS 0) (bW 0) (bN 0) (bO 0) mZ_1 mY mB_5 mL mU mJ mK mG mA) → va_S A s.heap H locs → ∀ (ls : Array Slot), lv_has ls 8 [(0, .ref (bV 0)), (1, .int p1), (2, .int p2), (3, .int p3), (4, .int p4), (5, .int p5), (6, .int x4)] → W p l e rX10_feed s m args below meth c H locs 0 0 QQ (F0 m 76 ls [.int t7]) := by
        intro t7 hf H locs hP hD hS ls hl
        rw [eJ76_8] at hf
        refine lv_istore (lv' := [(7, .int t7), (0, .ref (bV 0)), (1, .int p1), (2, .int p2), (3, .int p3), (4, .int p4), (5, .int p5), (6, .int x4)]) C.1.1 C.1.2.1 dX10_feed_76 hl (by decide) rfl (fun ls hl => ?_)
        refine lv_aload_n C.1.1 C.1.2.1 dX10_feed_78 rfl (lv_at hl 1 rfl) ?_
        refine zGet (.ref (bV 1)) C.1 wuX10 hK hP 0 rfl rfl 11 (by decide) wfX10_39 rfl rfl dX10_feed_79 ?_
        refine lv_aload_n C.1.1 C.1.2.1 dX10_feed_82 rfl (lv_at hl 1 rfl) ?_
        refine zGet (.int (mB_5 12 0)) C.1 wuX10 hK hP 0 rfl rfl 12 (by decide) wfX10_218 rfl rfl dX10_feed_83 ?_
        refine lv_iload C.1.1 C.1.2.1 dX10_feed_86 (lv_at hl 0 rfl) ?_
        refine lv_bipush (v := 24) C.1.1 C.1.2.1 dX10_feed_88 (by decide) ?_
        refine lv_bipush (v := 8) C.1.1 C.1.2.1 dX10_feed_90 (by decide) ?_
        refine lv_iload C.1.1 C.1.2.1 dX10_feed_92 (lv_at hl 7 rfl) ?_
        refine lv_iconst (v := 4) C.1.1 C.1.2.1 dX10_feed_94 (by decide) ?_
        refine lv_irem C.1.1 C.1.2.1 dX10_feed_95 (by decide) ?_
        refine lv_imul C.1.1 C.1.2.1 dX10_feed_96 ?_
        refine lv_isub C.1.1 C.1.2.1 dX10_feed_97 ?_
        refine lv_ishr C.1.1 C.1.2.1 dX10_feed_98 ?_
        refine lv_i2b C.1.1 C.1.2.1 dX10_feed_99 rfl ?_
        obtain ⟨hib, hf⟩ := zGd_el hf
        obtain ⟨mB_9, emB_9, hf⟩ := zLet_el hf
        refine zBast (kX10 cI cB bV (bP 0) (bS 0) (bW 0) (bN 0) (bO 0) mZ_1 mY mB_9 mL mU mJ mK mG mA) C.1 hK hP hD hS 1 1 rfl rfl hib dX10_feed_100 (by rw [emB_9]; rfl) (fun H locs hP hD hS => ?_)
        refine lv_aload_n C.1.1 C.1.2.1 dX10_feed_101 rfl (lv_at hl 1 rfl) ?_
        refine lv_dup C.1.1 C.1.2.1 dX10_feed_102 rfl ?_
        refine zGet (.int (mB_9 12 0)) C.1 wuX10 hK hP 0 rfl rfl 12 (by decide) wfX10_218 rfl rfl dX10_feed_103 ?_
        refine lv_iconst (v := 1) C.1.1 C.1.2.1 dX10_feed_106 (by decide) ?_
        refine lv_iadd C.1.1 C.1.2.1 dX10_feed_107 ?_
        obtain ⟨mB_10, emB_10, hf⟩ := zLet_el hf
        refine zPut (ty := .int) (kX10 cI cB bV (bP 0) (bS 0) (bW 0) (bN 0) (bO 0) mZ_1 mY mB_10 mL mU mJ mK mG mA) C.1 wuX10 tyX10 tyX10_ok nmX10 hK hP hD hS 0 rfl rfl 12 (by decide) wfX10_218 rfl rfl (by decide +kernel) rfl rfl (Nat.le_of_ble_eq_true rfl) dX10_feed_108 (by rw [emB_10]; rfl) (fun H locs hP hD hS => ?_)
        obtain ⟨x11, ex11, hf⟩ := zLet_el hf
        refine lv_iinc (v := x11) (lv' := [(6, .int x11), (7, .int t7), (0, .ref (bV 0)), (1, .int p1), (2, .int p2), (3, .int p3), (4, .int p4), (5, .int p5)]) C.1.1 C.1.2.1 dX10_feed_111 hl (k := 7) rfl (by rw [ex11]; rfl) (by decide) rfl (fun ls hl => ?_)
        refine lv_goto (tgt := 23) C.1.1 C.1.2.1 dX10_feed_114 (by decide) ?_
        exact ihgo6 x11 mB_10 hf H locs hP hD hS ls (lv_sub hl [2, 3, 4, 5, 6, 7, 0] rfl)
      refine lv_icmp_ge (tgt := 40) C.1.1 C.1.2.1 dX10_feed_33 (by decide) (fun hc => ?_) (fun hc => ?_)
      · replace hf := zIf_t hf hc
        refine lv_iload C.1.1 C.1.2.1 dX10_feed_40 (lv_at hl 6 rfl) ?_
        refine lv_bipush (v := 8) C.1.1 C.1.2.1 dX10_feed_42 (by decide) ?_
        refine lv_icmp_ge (tgt := 51) C.1.1 C.1.2.1 dX10_feed_44 (by decide) (fun hc => ?_) (fun hc => ?_)
        · replace hf := zIf_t hf hc
          refine lv_iload C.1.1 C.1.2.1 dX10_feed_51 (lv_at hl 6 rfl) ?_
          refine lv_bipush (v := 12) C.1.1 C.1.2.1 dX10_feed_53 (by decide) ?_
          refine lv_icmp_ge (tgt := 62) C.1.1 C.1.2.1 dX10_feed_55 (by decide) (fun hc => ?_) (fun hc => ?_)
          · replace hf := zIf_t hf hc
            refine lv_iload C.1.1 C.1.2.1 dX10_feed_62 (lv_at hl 6 rfl) ?_
            refine lv_bipush (v := 16) C.1.1 C.1.2.1 dX10_feed_64 (by decide) ?_
            refine lv_icmp_ge (tgt := 74) C.1.1 C.1.2.1 dX10_feed_66 (by decide) (fun hc => ?_) (fun hc => ?_)
            · replace hf := zIf_t hf hc
              refine lv_iload C.1.1 C.1.2.1 dX10_feed_74 (lv_at hl 5 rfl) ?_
              exact hJ76_8 p5 hf H locs hP hD hS ls (lv_sub hl [0, 1, 2, 3, 4, 5, 6] rfl)
            · replace hf := zIf_f hf hc
              refine lv_iload C.1.1 C.1.2.1 dX10_feed_69 (lv_at hl 4 rfl) ?_
              refine lv_goto (tgt := 76) C.1.1 C.1.2.1 dX10_feed_71 (by decide) ?_
              exact hJ76_8 p4 hf H locs hP hD hS ls (lv_sub hl [0, 1, 2, 3, 4, 5, 6] rfl)
          · replace hf := zIf_f hf hc
            refine lv_iload_n C.1.1 C.1.2.1 dX10_feed_58 rfl (lv_at hl 3 rfl) ?_
            refine lv_goto (tgt := 76) C.1.1 C.1.2.1 dX10_feed_59 (by decide) ?_
            exact hJ76_8 p3 hf H locs hP hD hS ls (lv_sub hl [0, 1, 2, 3, 4, 5, 6] rfl)
        · replace hf := zIf_f hf hc
          refine lv_iload_n C.1.1 C.1.2.1 dX10_feed_47 rfl (lv_at hl 2 rfl) ?_
          refine lv_goto (tgt := 76) C.1.1 C.1.2.1 dX10_feed_48 (by decide) ?_
          exact hJ76_8 p2 hf H locs hP hD hS ls (lv_sub hl [0, 1, 2, 3, 4, 5, 6] rfl)
      · replace hf := zIf_f hf hc
        refine lv_iload_n C.1.1 C.1.2.1 dX10_feed_36 rfl (lv_at hl 1 rfl) ?_
        refine lv_goto (tgt := 76) C.1.1 C.1.2.1 dX10_feed_37 (by decide) ?_
        exact hJ76_8 p1 hf H locs hP hD hS ls (lv_sub hl [0, 1, 2, 3, 4, 5, 6] rfl)
  · replace hf := zIf_f hf hc
    refine lv_iconst (v := (-1)) C.1.1 C.1.2.1 dX10_feed_18 (by decide) ?_
    cases hf
    rw [← hQ]
    exact zRi C hK hP hD hS dX10_feed_19
def fX10_fault (mZ : Rc) : Option (Int32 × Rc) :=
  zLet (rs mZ 0 (fun _ => (0 : Int32))) fun mZ_1 =>
  some ((mZ_1 3 0), mZ_1)
abbrev rX10_fault : Room := { frames := 0, cells := 0, slots := 0, locals := 0 }
set_option maxHeartbeats 4000000 in
set_option maxRecDepth 100000 in
theorem mtX10_fault (l : Launch) (dC : Nat → ClassId) (dI : Nat → Nat → Nat) (cI cB : ClassId) (bV bP bS bW bN bO : Nat → Nat) (sz : Nat) (mZ : Rc) (mY : Rc) (mB : Rc) (mL : Rc) (mU : Rc) (mJ : Rc) (mK : Rc) (mG : Rc) (mA : Rc) {ov : Int32} {mZ' : Rc} (hf : fX10_fault mZ = some (ov, mZ')) : zMi l yX10_fault (Cond.code yX10_fault cX10_fault 1 (some .int) :: lw_g) rX10_fault (dC, dI) [(cI, .int), (cB, .byte)] [.ref (bV 0)] sz (kX10 cI cB bV (bP 0) (bS 0) (bW 0) (bN 0) (bO 0) mZ mY mB mL mU mJ mK mG mA) ov (kX10 cI cB bV (bP 0) (bS 0) (bW 0) (bN 0) (bO 0) mZ' mY mB mL mU mJ mK mG mA) := by
  refine zSt (cc := cX10_fault) (maxL := 1) (ret := (some .int)) (own := RX10) (fun A => zQi (dC, dI) [(cI, .int), (cB, .byte)] A ov (kX10 cI cB bV (bP 0) (bS 0) (bW 0) (bN 0) (bO 0) mZ' mY mB mL mU mJ mK mG mA)) (by decide) rfl rfl (Nat.le_of_ble_eq_true rfl) ?_
  intro p e s m below meth c ls A H locs C hK hA hP hD hS hl
  generalize hQ : MQ below (zQi (dC, dI) [(cI, .int), (cB, .byte)] A ov (kX10 cI cB bV (bP 0) (bS 0) (bW 0) (bN 0) (bO 0) mZ' mY mB mL mU mJ mK mG mA)) _ s 0 0 A = QQ
  generalize ([.ref (bV 0)] : List Value).toArray = args at C hQ ⊢
  have hl : lv_has ls 1 [(0, .ref (bV 0))] := hl
  unfold fX10_fault at hf
  refine lv_aload_n C.1.1 C.1.2.1 dX10_fault_0 rfl (lv_at hl 0 rfl) ?_
  refine lv_iconst (v := 0) C.1.1 C.1.2.1 dX10_fault_1 (by decide) ?_
  obtain ⟨mZ_1, emZ_1, hf⟩ := zLet_el hf
  refine zPut (ty := .int) (kX10 cI cB bV (bP 0) (bS 0) (bW 0) (bN 0) (bO 0) mZ_1 mY mB mL mU mJ mK mG mA) C.1 wuX10 tyX10 tyX10_ok nmX10 hK hP hD hS 0 rfl rfl 0 (by decide) wfX10_86 rfl rfl (by decide +kernel) rfl rfl (Nat.le_of_ble_eq_true rfl) dX10_fault_2 (by rw [emZ_1]; rfl) (fun H locs hP hD hS => ?_)
  refine lv_aload_n C.1.1 C.1.2.1 dX10_fault_5 rfl (lv_at hl 0 rfl) ?_
  refine zGet (.int (mZ_1 3 0)) C.1 wuX10 hK hP 0 rfl rfl 3 (by decide) wfX10_224 rfl rfl dX10_fault_6 ?_
  cases hf
  rw [← hQ]
  exact zRi C hK hP hD hS dX10_fault_9
def fX10_where (mZ : Rc) : Option (Int32 × Rc) :=
  zLet (rs mZ 0 (fun _ => (0 : Int32))) fun mZ_1 =>
  some ((mZ_1 2 0), mZ_1)
abbrev rX10_where : Room := { frames := 0, cells := 0, slots := 0, locals := 0 }
set_option maxHeartbeats 4000000 in
set_option maxRecDepth 100000 in
theorem mtX10_where (l : Launch) (dC : Nat → ClassId) (dI : Nat → Nat → Nat) (cI cB : ClassId) (bV bP bS bW bN bO : Nat → Nat) (sz : Nat) (mZ : Rc) (mY : Rc) (mB : Rc) (mL : Rc) (mU : Rc) (mJ : Rc) (mK : Rc) (mG : Rc) (mA : Rc) {ov : Int32} {mZ' : Rc} (hf : fX10_where mZ = some (ov, mZ')) : zMi l yX10_where (Cond.code yX10_where cX10_where 1 (some .int) :: lw_g) rX10_where (dC, dI) [(cI, .int), (cB, .byte)] [.ref (bV 0)] sz (kX10 cI cB bV (bP 0) (bS 0) (bW 0) (bN 0) (bO 0) mZ mY mB mL mU mJ mK mG mA) ov (kX10 cI cB bV (bP 0) (bS 0) (bW 0) (bN 0) (bO 0) mZ' mY mB mL mU mJ mK mG mA) := by
  refine zSt (cc := cX10_where) (maxL := 1) (ret := (some .int)) (own := RX10) (fun A => zQi (dC, dI) [(cI, .int), (cB, .byte)] A ov (kX10 cI cB bV (bP 0) (bS 0) (bW 0) (bN 0) (bO 0) mZ' mY mB mL mU mJ mK mG mA)) (by decide) rfl rfl (Nat.le_of_ble_eq_true rfl) ?_
  intro p e s m below meth c ls A H locs C hK hA hP hD hS hl
  generalize hQ : MQ below (zQi (dC, dI) [(cI, .int), (cB, .byte)] A ov (kX10 cI cB bV (bP 0) (bS 0) (bW 0) (bN 0) (bO 0) mZ' mY mB mL mU mJ mK mG mA)) _ s 0 0 A = QQ
  generalize ([.ref (bV 0)] : List Value).toArray = args at C hQ ⊢
  have hl : lv_has ls 1 [(0, .ref (bV 0))] := hl
  unfold fX10_where at hf
  refine lv_aload_n C.1.1 C.1.2.1 dX10_where_0 rfl (lv_at hl 0 rfl) ?_
  refine lv_iconst (v := 0) C.1.1 C.1.2.1 dX10_where_1 (by decide) ?_
  obtain ⟨mZ_1, emZ_1, hf⟩ := zLet_el hf
  refine zPut (ty := .int) (kX10 cI cB bV (bP 0) (bS 0) (bW 0) (bN 0) (bO 0) mZ_1 mY mB mL mU mJ mK mG mA) C.1 wuX10 tyX10 tyX10_ok nmX10 hK hP hD hS 0 rfl rfl 0 (by decide) wfX10_86 rfl rfl (by decide +kernel) rfl rfl (Nat.le_of_ble_eq_true rfl) dX10_where_2 (by rw [emZ_1]; rfl) (fun H locs hP hD hS => ?_)
  refine lv_aload_n C.1.1 C.1.2.1 dX10_where_5 rfl (lv_at hl 0 rfl) ?_
  refine zGet (.int (mZ_1 2 0)) C.1 wuX10 hK hP 0 rfl rfl 2 (by decide) wfX10_9 rfl rfl dX10_where_6 ?_
  cases hf
  rw [← hQ]
  exact zRi C hK hP hD hS dX10_where_9
def fX10_low (mY : Rc) (p1 : Int32) : Option (Int32) :=
  some (p1 &&& (((1 : Int32) <<< ((mY 4 0) &&& 31)) - (1 : Int32)))
abbrev rX10_low : Room := { frames := 0, cells := 0, slots := 0, locals := 0 }
set_option maxHeartbeats 4000000 in
set_option maxRecDepth 100000 in
theorem mtX10_low (l : Launch) (dC : Nat → ClassId) (dI : Nat → Nat → Nat) (cI cB : ClassId) (bV bP bS bW bN bO : Nat → Nat) (sz : Nat) (mZ : Rc) (mY : Rc) (mB : Rc) (mL : Rc) (mU : Rc) (mJ : Rc) (mK : Rc) (mG : Rc) (mA : Rc) (p1 : Int32) {ov : Int32} (hf : fX10_low mY p1 = some ov) : zMi l yX10_low (Cond.code yX10_low cX10_low 2 (some .int) :: lw_g) rX10_low (dC, dI) [(cI, .int), (cB, .byte)] [.ref (bV 0), .int p1] sz (kX10 cI cB bV (bP 0) (bS 0) (bW 0) (bN 0) (bO 0) mZ mY mB mL mU mJ mK mG mA) ov (kX10 cI cB bV (bP 0) (bS 0) (bW 0) (bN 0) (bO 0) mZ mY mB mL mU mJ mK mG mA) := by
  refine zSt (cc := cX10_low) (maxL := 2) (ret := (some .int)) (own := RX10) (fun A => zQi (dC, dI) [(cI, .int), (cB, .byte)] A ov (kX10 cI cB bV (bP 0) (bS 0) (bW 0) (bN 0) (bO 0) mZ mY mB mL mU mJ mK mG mA)) (by decide) rfl rfl (Nat.le_of_ble_eq_true rfl) ?_
  intro p e s m below meth c ls A H locs C hK hA hP hD hS hl
  generalize hQ : MQ below (zQi (dC, dI) [(cI, .int), (cB, .byte)] A ov (kX10 cI cB bV (bP 0) (bS 0) (bW 0) (bN 0) (bO 0) mZ mY mB mL mU mJ mK mG mA)) _ s 0 0 A = QQ
  generalize ([.ref (bV 0), .int p1] : List Value).toArray = args at C hQ ⊢
  have hl : lv_has ls 2 [(0, .ref (bV 0)), (1, .int p1)] := hl
  unfold fX10_low at hf
  refine lv_iload_n C.1.1 C.1.2.1 dX10_low_0 rfl (lv_at hl 1 rfl) ?_
  refine lv_iconst (v := 1) C.1.1 C.1.2.1 dX10_low_1 (by decide) ?_
  refine lv_aload_n C.1.1 C.1.2.1 dX10_low_2 rfl (lv_at hl 0 rfl) ?_
  refine zGet (.int (mY 4 0)) C.1 wuX10 hK hP 0 rfl rfl 4 (by decide) wfX10_13 rfl rfl dX10_low_3 ?_
  refine lv_ishl C.1.1 C.1.2.1 dX10_low_6 ?_
  refine lv_iconst (v := 1) C.1.1 C.1.2.1 dX10_low_7 (by decide) ?_
  refine lv_isub C.1.1 C.1.2.1 dX10_low_8 ?_
  refine lv_iand C.1.1 C.1.2.1 dX10_low_9 ?_
  cases hf
  rw [← hQ]
  exact zRi C hK hP hD hS dX10_low_10
def fX10_set_L60 (mY_10 : Rc) (J91_12 : Ar → Option (Int32 × Rc × Rc × Ar)) (n : Nat) (x15 : Int32) (mN_16 : Ar) : Option (Int32 × Rc × Rc × Ar) := zLp2 (fun (go17 : Int32 → Ar → Option (Int32 × Rc × Rc × Ar)) (x15 : Int32) (mN_16 : Ar) =>
    if (8 : Int32) ≤ x15 then (
      J91_12 mN_16
    ) else (
      zGd (inb x15 8) <|
      zB1 (fX10_low mY_10 (mN_16 x15.toNatClampNeg)) fun v18 =>
      zGd (inb x15 8) <|
      zLet (upd mN_16 x15.toNatClampNeg v18) fun mN_19 =>
      zLet (x15 + 1) fun x20 =>
      go17 x20 mN_19
    )
  ) n x15 mN_16
def fX10_set (NN : Nat) (mZ : Rc) (mY : Rc) (mN : Ar) (p1 : Int32) (p2 : Int32) (p3 : Int32) : Option (Int32 × Rc × Rc × Ar) :=
  zLet (rs mZ 0 (fun _ => (0 : Int32))) fun mZ_1 =>
  zB1 (fX10_in p1 (4 : Int32) (16 : Int32)) fun v2 =>
  zJn (fun (_ : Unit) =>
      zB2 (fX10_denied mZ_1 (2 : Int32)) fun v4 mZ_5 =>
      zGd (zbit v4) <|
      some (v4, mZ_5, mY, mN)
    ) fun J36_3 =>
  if v2 = 0 then (
    J36_3 ()
  ) else (
    zB1 (fX10_in p2 (1 : Int32) (1000 : Int32)) fun v6 =>
    if v6 = 0 then (
      J36_3 ()
    ) else (
      zB1 (fX10_in p3 (0 : Int32) (100 : Int32)) fun v7 =>
      if v7 = 0 then (
        J36_3 ()
      ) else (
        zLet (rs mY 4 (fun _ => p1)) fun mY_8 =>
        zLet (rs mY_8 5 (fun _ => p2)) fun mY_9 =>
        zLet (rs mY_9 6 (fun _ => p3)) fun mY_10 =>
        zJn (fun (mN_11 : Ar) =>
            zB2 (fX10_granted mZ_1) fun v13 mZ_14 =>
            zGd (zbit v13) <|
            some (v13, mZ_14, mY_10, mN_11)
          ) fun J91_12 =>
        fX10_set_L60 mY_10 J91_12 NN (0 : Int32) mN
      )
    )
  )
abbrev rX10_set : Room := { frames := 1, cells := 0, slots := 0, locals := 22 }
set_option maxHeartbeats 4000000 in
set_option maxRecDepth 100000 in
theorem mtX10_set (l : Launch) (dC : Nat → ClassId) (dI : Nat → Nat → Nat) (cI cB : ClassId) (bV bP bS bW bN bO : Nat → Nat) (sz : Nat) (NN : Nat) (mZ : Rc) (mY : Rc) (mB : Rc) (mL : Rc) (mU : Rc) (mJ : Rc) (mK : Rc) (mG : Rc) (mA : Rc) (mN : Ar) (p1 : Int32) (p2 : Int32) (p3 : Int32) {ov : Int32} {mZ' : Rc} {mY' : Rc} {mN' : Ar} (hf : fX10_set NN mZ mY mN p1 p2 p3 = some (ov, mZ', mY', mN')) : zMi l yX10_set (Cond.code yX10_set cX10_set 5 (some .boolean) :: lw_g) rX10_set (dC, dI) [(cI, .int), (cB, .byte)] [.ref (bV 0), .int p1, .int p2, .int p3] sz (kX10 cI cB bV (bP 0) (bS 0) (bW 0) (bN 0) (bO 0) mZ mY mB mL mU mJ mK mG mA ++ kA8 cI cB bN mN) ov (kX10 cI cB bV (bP 0) (bS 0) (bW 0) (bN 0) (bO 0) mZ' mY' mB mL mU mJ mK mG mA ++ kA8 cI cB bN mN') := by
  refine zSt (cc := cX10_set) (maxL := 5) (ret := (some .boolean)) (own := RX10) (fun A => zQi (dC, dI) [(cI, .int), (cB, .byte)] A ov (kX10 cI cB bV (bP 0) (bS 0) (bW 0) (bN 0) (bO 0) mZ' mY' mB mL mU mJ mK mG mA ++ kA8 cI cB bN mN')) (by decide) rfl rfl (Nat.le_of_ble_eq_true rfl) ?_
  intro p e s m below meth c ls A H locs C hK hA hP hD hS hl
  generalize hQ : MQ below (zQi (dC, dI) [(cI, .int), (cB, .byte)] A ov (kX10 cI cB bV (bP 0) (bS 0) (bW 0) (bN 0) (bO 0) mZ' mY' mB mL mU mJ mK mG mA ++ kA8 cI cB bN mN')) _ s 0 0 A = QQ
  generalize ([.ref (bV 0), .int p1, .int p2, .int p3] : List Value).toArray = args at C hQ ⊢
  have hl : lv_has ls 5 [(0, .ref (bV 0)), (1, .int p1), (2, .int p2), (3, .int p3)] := hl
  unfold fX10_set at hf
  refine lv_aload_n C.1.1 C.1.2.1 dX10_set_0 rfl (lv_at hl 0 rfl) ?_
  refine lv_iconst (v := 0) C.1.1 C.1.2.1 dX10_set_1 (by decide) ?_
  obtain ⟨mZ_1, emZ_1, hf⟩ := zLet_el hf
  refine zPut (ty := .int) (kX10 cI cB bV (bP 0) (bS 0) (bW 0) (bN 0) (bO 0) mZ_1 mY mB mL mU mJ mK mG mA ++ kA8 cI cB bN mN) C.1 wuX10 tyX10 tyX10_ok nmX10 hK hP hD hS 0 rfl rfl 0 (by decide) wfX10_86 rfl rfl (by decide +kernel) rfl rfl (Nat.le_of_ble_eq_true rfl) dX10_set_2 (by rw [emZ_1]; rfl) (fun H locs hP hD hS => ?_)
  refine lv_iload_n C.1.1 C.1.2.1 dX10_set_5 rfl (lv_at hl 1 rfl) ?_
  refine lv_iconst (v := 4) C.1.1 C.1.2.1 dX10_set_6 (by decide) ?_
  refine lv_bipush (v := 16) C.1.1 C.1.2.1 dX10_set_7 (by decide) ?_
  obtain ⟨v2, hg, hf⟩ := zB1_el hf
  refine zCSi (As := [.int p1, .int (4 : Int32), .int (16 : Int32)]) (rest := []) (wr := (kX10 cI cB bV (bP 0) (bS 0) (bW 0) (bN 0) (bO 0) mZ_1 mY mB mL mU mJ mK mG mA ++ kA8 cI cB bN mN)) (wn := (kX10 cI cB bV (bP 0) (bS 0) (bW 0) (bN 0) (bO 0) mZ_1 mY mB mL mU mJ mK mG mA ++ kA8 cI cB bN mN)) C.1 hK hA hP hD hS [] [0, 1, 2, 3, 4, 5, 6, 7, 8, 9, 10, 11, 12, 13, 14] [0, 1, 2, 3, 4, 5, 6, 7, 8, 9, 10, 11, 12, 13, 14] (mtX10_in l dC dI cI cB H.size p1 (4 : Int32) (16 : Int32) hg) (zCwS 3 C.1 wlX10_167 wtX10_in wnX10 wkX10_in rfl rfl (by decide +kernel) ⟨Nat.le_of_ble_eq_true rfl, Nat.le_of_ble_eq_true rfl⟩) rfl rfl (by decide +kernel) rfl rfl hl.1 (Nat.le_of_ble_eq_true rfl) dX10_set_9 ⟨Nat.zero_le _, Nat.zero_le _⟩ rfl (fun H locs hP hD hS => ?_)
  obtain ⟨J36_3, eJ36_3, hf⟩ := zJn_el hf
  have hJ36_3 : ∀ (u : Unit), J36_3 u = some (ov, mZ', mY', mN') → ∀ (H : Heap) (locs : List Loc), va_P (dC, dI) vwCl (kX10 cI cB bV (bP 0) (bS 0) (bW 0) (bN 0) (bO 0) mZ_1 mY mB mL mU mJ mK mG mA ++ kA8 cI cB bN mN) H → va_D A (kX10 cI cB bV (bP 0) (bS 0) (bW 0) (bN 0) (bO 0) mZ_1 mY mB mL mU mJ mK mG mA ++ kA8 cI cB bN mN) → va_S A s.heap H locs → ∀ (ls : Array Slot), lv_has ls 5 [(0, .ref (bV 0))] → W p l e rX10_set s m args below meth c H locs 0 0 QQ (F0 m 36 ls []) := by
    intro u hf H locs hP hD hS ls hl
    rw [eJ36_3] at hf
    refine lv_aload_n C.1.1 C.1.2.1 dX10_set_36 rfl (lv_at hl 0 rfl) ?_
    refine lv_iconst (v := 2) C.1.1 C.1.2.1 dX10_set_37 (by decide) ?_
    obtain ⟨v4, mZ_5, hg, hf⟩ := zB2_el hf
    refine zCVi (As := [.int (2 : Int32)]) (rest := []) (wr := (kA8 cI cB bN mN)) (wn := (kX10 cI cB bV (bP 0) (bS 0) (bW 0) (bN 0) (bO 0) mZ_5 mY mB mL mU mJ mK mG mA ++ kA8 cI cB bN mN)) C.1 hK hA hP hD hS [0, 1, 2, 3, 4, 5, 6, 7, 8, 9, 10, 11, 12, 13] [14] [1, 2, 3, 4, 5, 6, 7, 8, 9, 10, 11, 12, 13, 14, 0] 0 (mtX10_denied l dC dI cI cB bV bP bS bW bN bO H.size mZ_1 mY mB mL mU mJ mK mG mA (2 : Int32) hg) (zCwV 1 C.1 wlX10_236 wiX10_denied ws_X10_denied wnX10 wkX10_denied rfl rfl (by decide +kernel) ⟨Nat.le_of_ble_eq_true rfl, Nat.le_of_ble_eq_true rfl⟩) rfl rfl (by decide +kernel) rfl rfl rfl rfl hl.1 (Nat.le_of_ble_eq_true rfl) dX10_set_38 ⟨Nat.zero_le _, Nat.zero_le _⟩ rfl (fun H locs hP hD hS => ?_)
    obtain ⟨hz, hf⟩ := zGd_el hf
    cases hf
    rw [← hQ]
    exact zRz C (zbit_n hz).1 hK hP hD hS dX10_set_41
  refine lv_if_eq (tgt := 36) C.1.1 C.1.2.1 dX10_set_12 (by decide) (fun hc => ?_) (fun hc => ?_)
  · replace hf := zIf_t hf hc
    exact hJ36_3 () hf H locs hP hD hS ls (lv_sub hl [0] rfl)
  · replace hf := zIf_f hf hc
    refine lv_iload_n C.1.1 C.1.2.1 dX10_set_15 rfl (lv_at hl 2 rfl) ?_
    refine lv_iconst (v := 1) C.1.1 C.1.2.1 dX10_set_16 (by decide) ?_
    refine lv_sipush (v := 1000) C.1.1 C.1.2.1 dX10_set_17 (by decide) ?_
    obtain ⟨v6, hg, hf⟩ := zB1_el hf
    refine zCSi (As := [.int p2, .int (1 : Int32), .int (1000 : Int32)]) (rest := []) (wr := (kX10 cI cB bV (bP 0) (bS 0) (bW 0) (bN 0) (bO 0) mZ_1 mY mB mL mU mJ mK mG mA ++ kA8 cI cB bN mN)) (wn := (kX10 cI cB bV (bP 0) (bS 0) (bW 0) (bN 0) (bO 0) mZ_1 mY mB mL mU mJ mK mG mA ++ kA8 cI cB bN mN)) C.1 hK hA hP hD hS [] [0, 1, 2, 3, 4, 5, 6, 7, 8, 9, 10, 11, 12, 13, 14] [0, 1, 2, 3, 4, 5, 6, 7, 8, 9, 10, 11, 12, 13, 14] (mtX10_in l dC dI cI cB H.size p2 (1 : Int32) (1000 : Int32) hg) (zCwS 3 C.1 wlX10_167 wtX10_in wnX10 wkX10_in rfl rfl (by decide +kernel) ⟨Nat.le_of_ble_eq_true rfl, Nat.le_of_ble_eq_true rfl⟩) rfl rfl (by decide +kernel) rfl rfl hl.1 (Nat.le_of_ble_eq_true rfl) dX10_set_20 ⟨Nat.zero_le _, Nat.zero_le _⟩ rfl (fun H locs hP hD hS => ?_)
    refine lv_if_eq (tgt := 36) C.1.1 C.1.2.1 dX10_set_23 (by decide) (fun hc => ?_) (fun hc => ?_)
    · replace hf := zIf_t hf hc
      exact hJ36_3 () hf H locs hP hD hS ls (lv_sub hl [0] rfl)
    · replace hf := zIf_f hf hc
      refine lv_iload_n C.1.1 C.1.2.1 dX10_set_26 rfl (lv_at hl 3 rfl) ?_
      refine lv_iconst (v := 0) C.1.1 C.1.2.1 dX10_set_27 (by decide) ?_
      refine lv_bipush (v := 100) C.1.1 C.1.2.1 dX10_set_28 (by decide) ?_
      obtain ⟨v7, hg, hf⟩ := zB1_el hf
      refine zCSi (As := [.int p3, .int (0 : Int32), .int (100 : Int32)]) (rest := []) (wr := (kX10 cI cB bV (bP 0) (bS 0) (bW 0) (bN 0) (bO 0) mZ_1 mY mB mL mU mJ mK mG mA ++ kA8 cI cB bN mN)) (wn := (kX10 cI cB bV (bP 0) (bS 0) (bW 0) (bN 0) (bO 0) mZ_1 mY mB mL mU mJ mK mG mA ++ kA8 cI cB bN mN)) C.1 hK hA hP hD hS [] [0, 1, 2, 3, 4, 5, 6, 7, 8, 9, 10, 11, 12, 13, 14] [0, 1, 2, 3, 4, 5, 6, 7, 8, 9, 10, 11, 12, 13, 14] (mtX10_in l dC dI cI cB H.size p3 (0 : Int32) (100 : Int32) hg) (zCwS 3 C.1 wlX10_167 wtX10_in wnX10 wkX10_in rfl rfl (by decide +kernel) ⟨Nat.le_of_ble_eq_true rfl, Nat.le_of_ble_eq_true rfl⟩) rfl rfl (by decide +kernel) rfl rfl hl.1 (Nat.le_of_ble_eq_true rfl) dX10_set_30 ⟨Nat.zero_le _, Nat.zero_le _⟩ rfl (fun H locs hP hD hS => ?_)
      refine lv_if_ne (tgt := 42) C.1.1 C.1.2.1 dX10_set_33 (by decide) (fun hc => ?_) (fun hc => ?_)
      · replace hf := zIf_f hf hc
        refine lv_aload_n C.1.1 C.1.2.1 dX10_set_42 rfl (lv_at hl 0 rfl) ?_
        refine lv_iload_n C.1.1 C.1.2.1 dX10_set_43 rfl (lv_at hl 1 rfl) ?_
        obtain ⟨mY_8, emY_8, hf⟩ := zLet_el hf
        refine zPut (ty := .int) (kX10 cI cB bV (bP 0) (bS 0) (bW 0) (bN 0) (bO 0) mZ_1 mY_8 mB mL mU mJ mK mG mA ++ kA8 cI cB bN mN) C.1 wuX10 tyX10 tyX10_ok nmX10 hK hP hD hS 0 rfl rfl 4 (by decide) wfX10_13 rfl rfl (by decide +kernel) rfl rfl (Nat.le_of_ble_eq_true rfl) dX10_set_44 (by rw [emY_8]; rfl) (fun H locs hP hD hS => ?_)
        refine lv_aload_n C.1.1 C.1.2.1 dX10_set_47 rfl (lv_at hl 0 rfl) ?_
        refine lv_iload_n C.1.1 C.1.2.1 dX10_set_48 rfl (lv_at hl 2 rfl) ?_
        obtain ⟨mY_9, emY_9, hf⟩ := zLet_el hf
        refine zPut (ty := .int) (kX10 cI cB bV (bP 0) (bS 0) (bW 0) (bN 0) (bO 0) mZ_1 mY_9 mB mL mU mJ mK mG mA ++ kA8 cI cB bN mN) C.1 wuX10 tyX10 tyX10_ok nmX10 hK hP hD hS 0 rfl rfl 5 (by decide) wfX10_16 rfl rfl (by decide +kernel) rfl rfl (Nat.le_of_ble_eq_true rfl) dX10_set_49 (by rw [emY_9]; rfl) (fun H locs hP hD hS => ?_)
        refine lv_aload_n C.1.1 C.1.2.1 dX10_set_52 rfl (lv_at hl 0 rfl) ?_
        refine lv_iload_n C.1.1 C.1.2.1 dX10_set_53 rfl (lv_at hl 3 rfl) ?_
        obtain ⟨mY_10, emY_10, hf⟩ := zLet_el hf
        refine zPut (ty := .int) (kX10 cI cB bV (bP 0) (bS 0) (bW 0) (bN 0) (bO 0) mZ_1 mY_10 mB mL mU mJ mK mG mA ++ kA8 cI cB bN mN) C.1 wuX10 tyX10 tyX10_ok nmX10 hK hP hD hS 0 rfl rfl 6 (by decide) wfX10_19 rfl rfl (by decide +kernel) rfl rfl (Nat.le_of_ble_eq_true rfl) dX10_set_54 (by rw [emY_10]; rfl) (fun H locs hP hD hS => ?_)
        refine lv_iconst (v := 0) C.1.1 C.1.2.1 dX10_set_57 (by decide) ?_
        refine lv_istore (lv' := [(4, .int (0 : Int32)), (0, .ref (bV 0)), (1, .int p1), (2, .int p2), (3, .int p3)]) C.1.1 C.1.2.1 dX10_set_58 hl (by decide) rfl (fun ls hl => ?_)
        obtain ⟨J91_12, eJ91_12, hf⟩ := zJn_el hf
        have hJ91_12 : ∀ (mN_11 : Ar), J91_12 mN_11 = some (ov, mZ', mY', mN') → ∀ (H : Heap) (locs : List Loc), va_P (dC, dI) vwCl (kX10 cI cB bV (bP 0) (bS 0) (bW 0) (bN 0) (bO 0) mZ_1 mY_10 mB mL mU mJ mK mG mA ++ kA8 cI cB bN mN_11) H → va_D A (kX10 cI cB bV (bP 0) (bS 0) (bW 0) (bN 0) (bO 0) mZ_1 mY_10 mB mL mU mJ mK mG mA ++ kA8 cI cB bN mN_11) → va_S A s.heap H locs → ∀ (ls : Array Slot), lv_has ls 5 [(0, .ref (bV 0))] → W p l e rX10_set s m args below meth c H locs 0 0 QQ (F0 m 91 ls []) := by
          intro mN_11 hf H locs hP hD hS ls hl
          rw [eJ91_12] at hf
          refine lv_aload_n C.1.1 C.1.2.1 dX10_set_91 rfl (lv_at hl 0 rfl) ?_
          obtain ⟨v13, mZ_14, hg, hf⟩ := zB2_el hf
          refine zCVi (As := []) (rest := []) (wr := (kA8 cI cB bN mN_11)) (wn := (kX10 cI cB bV (bP 0) (bS 0) (bW 0) (bN 0) (bO 0) mZ_14 mY_10 mB mL mU mJ mK mG mA ++ kA8 cI cB bN mN_11)) C.1 hK hA hP hD hS [0, 1, 2, 3, 4, 5, 6, 7, 8, 9, 10, 11, 12, 13] [14] [1, 2, 3, 4, 5, 6, 7, 8, 9, 10, 11, 12, 13, 14, 0] 0 (mtX10_granted l dC dI cI cB bV bP bS bW bN bO H.size mZ_1 mY_10 mB mL mU mJ mK mG mA hg) (zCwV 0 C.1 wlX10_242 wiX10_granted ws_X10_granted wnX10 wkX10_granted rfl rfl (by decide +kernel) ⟨Nat.le_of_ble_eq_true rfl, Nat.le_of_ble_eq_true rfl⟩) rfl rfl (by decide +kernel) rfl rfl rfl rfl hl.1 (Nat.le_of_ble_eq_true rfl) dX10_set_92 ⟨Nat.zero_le _, Nat.zero_le _⟩ rfl (fun H locs hP hD hS => ?_)
          obtain ⟨hz, hf⟩ := zGd_el hf
          cases hf
          rw [← hQ]
          exact zRz C (zbit_n hz).1 hK hP hD hS dX10_set_95
        refine zLp2_ind (o := (ov, mZ', mY', mN')) (P := fun (x15 : Int32) (mN_16 : Ar) => ∀ (H : Heap) (locs : List Loc), va_P (dC, dI) vwCl (kX10 cI cB bV (bP 0) (bS 0) (bW 0) (bN 0) (bO 0) mZ_1 mY_10 mB mL mU mJ mK mG mA ++ kA8 cI cB bN mN_16) H → va_D A (kX10 cI cB bV (bP 0) (bS 0) (bW 0) (bN 0) (bO 0) mZ_1 mY_10 mB mL mU mJ mK mG mA ++ kA8 cI cB bN mN_16) → va_S A s.heap H locs → ∀ (ls : Array Slot), lv_has ls 5 [(0, .ref (bV 0)), (4, .int x15)] → W p l e rX10_set s m args below meth c H locs 0 0 QQ (F0 m 60 ls [])) (fun go17 ihgo17 x15 mN_16 hf H locs hP hD hS ls hl => ?_) _ (0 : Int32) mN hf H locs hP hD hS ls (lv_sub hl [1, 0] rfl)
        refine lv_iload C.1.1 C.1.2.1 dX10_set_60 (lv_at hl 1 rfl) ?_
        refine lv_bipush (v := 8) C.1.1 C.1.2.1 dX10_set_62 (by decide) ?_
        refine lv_icmp_ge (tgt := 91) C.1.1 C.1.2.1 dX10_set_64 (by decide) (fun hc => ?_) (fun hc => ?_)
        · replace hf := zIf_t hf hc
          exact hJ91_12 mN_16 hf H locs hP hD hS ls (lv_sub hl [0] rfl)
        · replace hf := zIf_f hf hc
          refine lv_aload_n C.1.1 C.1.2.1 dX10_set_67 rfl (lv_at hl 0 rfl) ?_
          refine zGet (.ref (bN 0)) C.1 wuX10 hK hP 0 rfl rfl 21 (by decide) wfX10_43 rfl rfl dX10_set_68 ?_
          refine lv_iload C.1.1 C.1.2.1 dX10_set_71 (lv_at hl 1 rfl) ?_
          refine lv_aload_n C.1.1 C.1.2.1 dX10_set_73 rfl (lv_at hl 0 rfl) ?_
          refine lv_aload_n C.1.1 C.1.2.1 dX10_set_74 rfl (lv_at hl 0 rfl) ?_
          refine zGet (.ref (bN 0)) C.1 wuX10 hK hP 0 rfl rfl 21 (by decide) wfX10_43 rfl rfl dX10_set_75 ?_
          refine lv_iload C.1.1 C.1.2.1 dX10_set_78 (lv_at hl 1 rfl) ?_
          obtain ⟨hib, hf⟩ := zGd_el hf
          refine va_iald C.1.1 C.1.2.1 hK.1 hP 14 0 rfl rfl hib dX10_set_80 ?_
          obtain ⟨v18, hg, hf⟩ := zB1_el hf
          refine zCVi (As := [.int (mN_16 x15.toNatClampNeg)]) (rest := [.int x15, .ref (bN 0)]) (wr := (kA8 cI cB bN mN_16)) (wn := (kX10 cI cB bV (bP 0) (bS 0) (bW 0) (bN 0) (bO 0) mZ_1 mY_10 mB mL mU mJ mK mG mA ++ kA8 cI cB bN mN_16)) C.1 hK hA hP hD hS [0, 1, 2, 3, 4, 5, 6, 7, 8, 9, 10, 11, 12, 13] [14] [1, 2, 3, 4, 5, 6, 7, 8, 9, 10, 11, 12, 13, 14, 0] 0 (mtX10_low l dC dI cI cB bV bP bS bW bN bO H.size mZ_1 mY_10 mB mL mU mJ mK mG mA (mN_16 x15.toNatClampNeg) hg) (zCwV 1 C.1 wlX10_239 wiX10_low ws_X10_low wnX10 wkX10_low rfl rfl (by decide +kernel) ⟨Nat.le_of_ble_eq_true rfl, Nat.le_of_ble_eq_true rfl⟩) rfl rfl (by decide +kernel) rfl rfl rfl rfl hl.1 (Nat.le_of_ble_eq_true rfl) dX10_set_81 ⟨Nat.zero_le _, Nat.zero_le _⟩ rfl (fun H locs hP hD hS => ?_)
          obtain ⟨hib, hf⟩ := zGd_el hf
          obtain ⟨mN_19, emN_19, hf⟩ := zLet_el hf
          refine zIast (kX10 cI cB bV (bP 0) (bS 0) (bW 0) (bN 0) (bO 0) mZ_1 mY_10 mB mL mU mJ mK mG mA ++ kA8 cI cB bN mN_19) C.1 hK hP hD hS 14 0 rfl rfl hib dX10_set_84 (by rw [emN_19]; rfl) (fun H locs hP hD hS => ?_)
          obtain ⟨x20, ex20, hf⟩ := zLet_el hf
          refine lv_iinc (v := x20) (lv' := [(4, .int x20), (0, .ref (bV 0))]) C.1.1 C.1.2.1 dX10_set_85 hl (k := 1) rfl (by rw [ex20]; rfl) (by decide) rfl (fun ls hl => ?_)
          refine lv_goto (tgt := 60) C.1.1 C.1.2.1 dX10_set_88 (by decide) ?_
          exact ihgo17 x20 mN_19 hf H locs hP hD hS ls (lv_sub hl [1, 0] rfl)
      · replace hf := zIf_t hf hc
        exact hJ36_3 () hf H locs hP hD hS ls (lv_sub hl [0] rfl)
def fX10_put (mZ : Rc) (mY : Rc) (mN : Ar) (p1 : Int32) (p2 : Int32) : Option (Int32 × Rc × Ar) :=
  zLet (rs mZ 0 (fun _ => (0 : Int32))) fun mZ_1 =>
  zB1 (fX10_in p1 (0 : Int32) (7 : Int32)) fun v2 =>
  if v2 = 0 then (
    zB2 (fX10_denied mZ_1 (1 : Int32)) fun v7 mZ_8 =>
    zGd (zbit v7) <|
    some (v7, mZ_8, mN)
  ) else (
    zB1 (fX10_low mY p2) fun v3 =>
    zGd (inb p1 8) <|
    zLet (upd mN p1.toNatClampNeg v3) fun mN_4 =>
    zB2 (fX10_granted mZ_1) fun v5 mZ_6 =>
    zGd (zbit v5) <|
    some (v5, mZ_6, mN_4)
  )
abbrev rX10_put : Room := { frames := 1, cells := 0, slots := 0, locals := 22 }
set_option maxHeartbeats 4000000 in
set_option maxRecDepth 100000 in
theorem mtX10_put (l : Launch) (dC : Nat → ClassId) (dI : Nat → Nat → Nat) (cI cB : ClassId) (bV bP bS bW bN bO : Nat → Nat) (sz : Nat) (mZ : Rc) (mY : Rc) (mB : Rc) (mL : Rc) (mU : Rc) (mJ : Rc) (mK : Rc) (mG : Rc) (mA : Rc) (mN : Ar) (p1 : Int32) (p2 : Int32) {ov : Int32} {mZ' : Rc} {mN' : Ar} (hf : fX10_put mZ mY mN p1 p2 = some (ov, mZ', mN')) : zMi l yX10_put (Cond.code yX10_put cX10_put 3 (some .boolean) :: lw_g) rX10_put (dC, dI) [(cI, .int), (cB, .byte)] [.ref (bV 0), .int p1, .int p2] sz (kX10 cI cB bV (bP 0) (bS 0) (bW 0) (bN 0) (bO 0) mZ mY mB mL mU mJ mK mG mA ++ kA8 cI cB bN mN) ov (kX10 cI cB bV (bP 0) (bS 0) (bW 0) (bN 0) (bO 0) mZ' mY mB mL mU mJ mK mG mA ++ kA8 cI cB bN mN') := by
  refine zSt (cc := cX10_put) (maxL := 3) (ret := (some .boolean)) (own := RX10) (fun A => zQi (dC, dI) [(cI, .int), (cB, .byte)] A ov (kX10 cI cB bV (bP 0) (bS 0) (bW 0) (bN 0) (bO 0) mZ' mY mB mL mU mJ mK mG mA ++ kA8 cI cB bN mN')) (by decide) rfl rfl (Nat.le_of_ble_eq_true rfl) ?_
  intro p e s m below meth c ls A H locs C hK hA hP hD hS hl
  generalize hQ : MQ below (zQi (dC, dI) [(cI, .int), (cB, .byte)] A ov (kX10 cI cB bV (bP 0) (bS 0) (bW 0) (bN 0) (bO 0) mZ' mY mB mL mU mJ mK mG mA ++ kA8 cI cB bN mN')) _ s 0 0 A = QQ
  generalize ([.ref (bV 0), .int p1, .int p2] : List Value).toArray = args at C hQ ⊢
  have hl : lv_has ls 3 [(0, .ref (bV 0)), (1, .int p1), (2, .int p2)] := hl
  unfold fX10_put at hf
  refine lv_aload_n C.1.1 C.1.2.1 dX10_put_0 rfl (lv_at hl 0 rfl) ?_
  refine lv_iconst (v := 0) C.1.1 C.1.2.1 dX10_put_1 (by decide) ?_
  obtain ⟨mZ_1, emZ_1, hf⟩ := zLet_el hf
  refine zPut (ty := .int) (kX10 cI cB bV (bP 0) (bS 0) (bW 0) (bN 0) (bO 0) mZ_1 mY mB mL mU mJ mK mG mA ++ kA8 cI cB bN mN) C.1 wuX10 tyX10 tyX10_ok nmX10 hK hP hD hS 0 rfl rfl 0 (by decide) wfX10_86 rfl rfl (by decide +kernel) rfl rfl (Nat.le_of_ble_eq_true rfl) dX10_put_2 (by rw [emZ_1]; rfl) (fun H locs hP hD hS => ?_)
  refine lv_iload_n C.1.1 C.1.2.1 dX10_put_5 rfl (lv_at hl 1 rfl) ?_
  refine lv_iconst (v := 0) C.1.1 C.1.2.1 dX10_put_6 (by decide) ?_
  refine lv_bipush (v := 7) C.1.1 C.1.2.1 dX10_put_7 (by decide) ?_
  obtain ⟨v2, hg, hf⟩ := zB1_el hf
  refine zCSi (As := [.int p1, .int (0 : Int32), .int (7 : Int32)]) (rest := []) (wr := (kX10 cI cB bV (bP 0) (bS 0) (bW 0) (bN 0) (bO 0) mZ_1 mY mB mL mU mJ mK mG mA ++ kA8 cI cB bN mN)) (wn := (kX10 cI cB bV (bP 0) (bS 0) (bW 0) (bN 0) (bO 0) mZ_1 mY mB mL mU mJ mK mG mA ++ kA8 cI cB bN mN)) C.1 hK hA hP hD hS [] [0, 1, 2, 3, 4, 5, 6, 7, 8, 9, 10, 11, 12, 13, 14] [0, 1, 2, 3, 4, 5, 6, 7, 8, 9, 10, 11, 12, 13, 14] (mtX10_in l dC dI cI cB H.size p1 (0 : Int32) (7 : Int32) hg) (zCwS 3 C.1 wlX10_167 wtX10_in wnX10 wkX10_in rfl rfl (by decide +kernel) ⟨Nat.le_of_ble_eq_true rfl, Nat.le_of_ble_eq_true rfl⟩) rfl rfl (by decide +kernel) rfl rfl hl.1 (Nat.le_of_ble_eq_true rfl) dX10_put_9 ⟨Nat.zero_le _, Nat.zero_le _⟩ rfl (fun H locs hP hD hS => ?_)
  refine lv_if_ne (tgt := 21) C.1.1 C.1.2.1 dX10_put_12 (by decide) (fun hc => ?_) (fun hc => ?_)
  · replace hf := zIf_f hf hc
    refine lv_aload_n C.1.1 C.1.2.1 dX10_put_21 rfl (lv_at hl 0 rfl) ?_
    refine zGet (.ref (bN 0)) C.1 wuX10 hK hP 0 rfl rfl 21 (by decide) wfX10_43 rfl rfl dX10_put_22 ?_
    refine lv_iload_n C.1.1 C.1.2.1 dX10_put_25 rfl (lv_at hl 1 rfl) ?_
    refine lv_aload_n C.1.1 C.1.2.1 dX10_put_26 rfl (lv_at hl 0 rfl) ?_
    refine lv_iload_n C.1.1 C.1.2.1 dX10_put_27 rfl (lv_at hl 2 rfl) ?_
    obtain ⟨v3, hg, hf⟩ := zB1_el hf
    refine zCVi (As := [.int p2]) (rest := [.int p1, .ref (bN 0)]) (wr := (kA8 cI cB bN mN)) (wn := (kX10 cI cB bV (bP 0) (bS 0) (bW 0) (bN 0) (bO 0) mZ_1 mY mB mL mU mJ mK mG mA ++ kA8 cI cB bN mN)) C.1 hK hA hP hD hS [0, 1, 2, 3, 4, 5, 6, 7, 8, 9, 10, 11, 12, 13] [14] [1, 2, 3, 4, 5, 6, 7, 8, 9, 10, 11, 12, 13, 14, 0] 0 (mtX10_low l dC dI cI cB bV bP bS bW bN bO H.size mZ_1 mY mB mL mU mJ mK mG mA p2 hg) (zCwV 1 C.1 wlX10_239 wiX10_low ws_X10_low wnX10 wkX10_low rfl rfl (by decide +kernel) ⟨Nat.le_of_ble_eq_true rfl, Nat.le_of_ble_eq_true rfl⟩) rfl rfl (by decide +kernel) rfl rfl rfl rfl hl.1 (Nat.le_of_ble_eq_true rfl) dX10_put_28 ⟨Nat.zero_le _, Nat.zero_le _⟩ rfl (fun H locs hP hD hS => ?_)
    obtain ⟨hib, hf⟩ := zGd_el hf
    obtain ⟨mN_4, emN_4, hf⟩ := zLet_el hf
    refine zIast (kX10 cI cB bV (bP 0) (bS 0) (bW 0) (bN 0) (bO 0) mZ_1 mY mB mL mU mJ mK mG mA ++ kA8 cI cB bN mN_4) C.1 hK hP hD hS 14 0 rfl rfl hib dX10_put_31 (by rw [emN_4]; rfl) (fun H locs hP hD hS => ?_)
    refine lv_aload_n C.1.1 C.1.2.1 dX10_put_32 rfl (lv_at hl 0 rfl) ?_
    obtain ⟨v5, mZ_6, hg, hf⟩ := zB2_el hf
    refine zCVi (As := []) (rest := []) (wr := (kA8 cI cB bN mN_4)) (wn := (kX10 cI cB bV (bP 0) (bS 0) (bW 0) (bN 0) (bO 0) mZ_6 mY mB mL mU mJ mK mG mA ++ kA8 cI cB bN mN_4)) C.1 hK hA hP hD hS [0, 1, 2, 3, 4, 5, 6, 7, 8, 9, 10, 11, 12, 13] [14] [1, 2, 3, 4, 5, 6, 7, 8, 9, 10, 11, 12, 13, 14, 0] 0 (mtX10_granted l dC dI cI cB bV bP bS bW bN bO H.size mZ_1 mY mB mL mU mJ mK mG mA hg) (zCwV 0 C.1 wlX10_242 wiX10_granted ws_X10_granted wnX10 wkX10_granted rfl rfl (by decide +kernel) ⟨Nat.le_of_ble_eq_true rfl, Nat.le_of_ble_eq_true rfl⟩) rfl rfl (by decide +kernel) rfl rfl rfl rfl hl.1 (Nat.le_of_ble_eq_true rfl) dX10_put_33 ⟨Nat.zero_le _, Nat.zero_le _⟩ rfl (fun H locs hP hD hS => ?_)
    obtain ⟨hz, hf⟩ := zGd_el hf
    cases hf
    rw [← hQ]
    exact zRz C (zbit_n hz).1 hK hP hD hS dX10_put_36
  · replace hf := zIf_t hf hc
    refine lv_aload_n C.1.1 C.1.2.1 dX10_put_15 rfl (lv_at hl 0 rfl) ?_
    refine lv_iconst (v := 1) C.1.1 C.1.2.1 dX10_put_16 (by decide) ?_
    obtain ⟨v7, mZ_8, hg, hf⟩ := zB2_el hf
    refine zCVi (As := [.int (1 : Int32)]) (rest := []) (wr := (kA8 cI cB bN mN)) (wn := (kX10 cI cB bV (bP 0) (bS 0) (bW 0) (bN 0) (bO 0) mZ_8 mY mB mL mU mJ mK mG mA ++ kA8 cI cB bN mN)) C.1 hK hA hP hD hS [0, 1, 2, 3, 4, 5, 6, 7, 8, 9, 10, 11, 12, 13] [14] [1, 2, 3, 4, 5, 6, 7, 8, 9, 10, 11, 12, 13, 14, 0] 0 (mtX10_denied l dC dI cI cB bV bP bS bW bN bO H.size mZ_1 mY mB mL mU mJ mK mG mA (1 : Int32) hg) (zCwV 1 C.1 wlX10_236 wiX10_denied ws_X10_denied wnX10 wkX10_denied rfl rfl (by decide +kernel) ⟨Nat.le_of_ble_eq_true rfl, Nat.le_of_ble_eq_true rfl⟩) rfl rfl (by decide +kernel) rfl rfl rfl rfl hl.1 (Nat.le_of_ble_eq_true rfl) dX10_put_17 ⟨Nat.zero_le _, Nat.zero_le _⟩ rfl (fun H locs hP hD hS => ?_)
    obtain ⟨hz, hf⟩ := zGd_el hf
    cases hf
    rw [← hQ]
    exact zRz C (zbit_n hz).1 hK hP hD hS dX10_put_20
def fX10_get (mZ : Rc) (mN : Ar) (p1 : Int32) : Option (Int32 × Rc) :=
  zLet (rs mZ 0 (fun _ => (0 : Int32))) fun mZ_1 =>
  zB1 (fX10_in p1 (0 : Int32) (7 : Int32)) fun v2 =>
  if v2 = 0 then (
    some ((-1 : Int32), mZ_1)
  ) else (
    zGd (inb p1 8) <|
    some ((mN p1.toNatClampNeg), mZ_1)
  )
abbrev rX10_get : Room := { frames := 1, cells := 0, slots := 0, locals := 22 }
set_option maxHeartbeats 4000000 in
set_option maxRecDepth 100000 in
theorem mtX10_get (l : Launch) (dC : Nat → ClassId) (dI : Nat → Nat → Nat) (cI cB : ClassId) (bV bP bS bW bN bO : Nat → Nat) (sz : Nat) (mZ : Rc) (mY : Rc) (mB : Rc) (mL : Rc) (mU : Rc) (mJ : Rc) (mK : Rc) (mG : Rc) (mA : Rc) (mN : Ar) (p1 : Int32) {ov : Int32} {mZ' : Rc} (hf : fX10_get mZ mN p1 = some (ov, mZ')) : zMi l yX10_get (Cond.code yX10_get cX10_get 2 (some .int) :: lw_g) rX10_get (dC, dI) [(cI, .int), (cB, .byte)] [.ref (bV 0), .int p1] sz (kX10 cI cB bV (bP 0) (bS 0) (bW 0) (bN 0) (bO 0) mZ mY mB mL mU mJ mK mG mA ++ kA8 cI cB bN mN) ov (kX10 cI cB bV (bP 0) (bS 0) (bW 0) (bN 0) (bO 0) mZ' mY mB mL mU mJ mK mG mA ++ kA8 cI cB bN mN) := by
  refine zSt (cc := cX10_get) (maxL := 2) (ret := (some .int)) (own := RX10) (fun A => zQi (dC, dI) [(cI, .int), (cB, .byte)] A ov (kX10 cI cB bV (bP 0) (bS 0) (bW 0) (bN 0) (bO 0) mZ' mY mB mL mU mJ mK mG mA ++ kA8 cI cB bN mN)) (by decide) rfl rfl (Nat.le_of_ble_eq_true rfl) ?_
  intro p e s m below meth c ls A H locs C hK hA hP hD hS hl
  generalize hQ : MQ below (zQi (dC, dI) [(cI, .int), (cB, .byte)] A ov (kX10 cI cB bV (bP 0) (bS 0) (bW 0) (bN 0) (bO 0) mZ' mY mB mL mU mJ mK mG mA ++ kA8 cI cB bN mN)) _ s 0 0 A = QQ
  generalize ([.ref (bV 0), .int p1] : List Value).toArray = args at C hQ ⊢
  have hl : lv_has ls 2 [(0, .ref (bV 0)), (1, .int p1)] := hl
  unfold fX10_get at hf
  refine lv_aload_n C.1.1 C.1.2.1 dX10_get_0 rfl (lv_at hl 0 rfl) ?_
  refine lv_iconst (v := 0) C.1.1 C.1.2.1 dX10_get_1 (by decide) ?_
  obtain ⟨mZ_1, emZ_1, hf⟩ := zLet_el hf
  refine zPut (ty := .int) (kX10 cI cB bV (bP 0) (bS 0) (bW 0) (bN 0) (bO 0) mZ_1 mY mB mL mU mJ mK mG mA ++ kA8 cI cB bN mN) C.1 wuX10 tyX10 tyX10_ok nmX10 hK hP hD hS 0 rfl rfl 0 (by decide) wfX10_86 rfl rfl (by decide +kernel) rfl rfl (Nat.le_of_ble_eq_true rfl) dX10_get_2 (by rw [emZ_1]; rfl) (fun H locs hP hD hS => ?_)
  refine lv_iload_n C.1.1 C.1.2.1 dX10_get_5 rfl (lv_at hl 1 rfl) ?_
  refine lv_iconst (v := 0) C.1.1 C.1.2.1 dX10_get_6 (by decide) ?_
  refine lv_bipush (v := 7) C.1.1 C.1.2.1 dX10_get_7 (by decide) ?_
  obtain ⟨v2, hg, hf⟩ := zB1_el hf
  refine zCSi (As := [.int p1, .int (0 : Int32), .int (7 : Int32)]) (rest := []) (wr := (kX10 cI cB bV (bP 0) (bS 0) (bW 0) (bN 0) (bO 0) mZ_1 mY mB mL mU mJ mK mG mA ++ kA8 cI cB bN mN)) (wn := (kX10 cI cB bV (bP 0) (bS 0) (bW 0) (bN 0) (bO 0) mZ_1 mY mB mL mU mJ mK mG mA ++ kA8 cI cB bN mN)) C.1 hK hA hP hD hS [] [0, 1, 2, 3, 4, 5, 6, 7, 8, 9, 10, 11, 12, 13, 14] [0, 1, 2, 3, 4, 5, 6, 7, 8, 9, 10, 11, 12, 13, 14] (mtX10_in l dC dI cI cB H.size p1 (0 : Int32) (7 : Int32) hg) (zCwS 3 C.1 wlX10_167 wtX10_in wnX10 wkX10_in rfl rfl (by decide +kernel) ⟨Nat.le_of_ble_eq_true rfl, Nat.le_of_ble_eq_true rfl⟩) rfl rfl (by decide +kernel) rfl rfl hl.1 (Nat.le_of_ble_eq_true rfl) dX10_get_9 ⟨Nat.zero_le _, Nat.zero_le _⟩ rfl (fun H locs hP hD hS => ?_)
  refine lv_if_eq (tgt := 24) C.1.1 C.1.2.1 dX10_get_12 (by decide) (fun hc => ?_) (fun hc => ?_)
  · replace hf := zIf_t hf hc
    refine lv_iconst (v := (-1)) C.1.1 C.1.2.1 dX10_get_24 (by decide) ?_
    cases hf
    rw [← hQ]
    exact zRi C hK hP hD hS dX10_get_25
  · replace hf := zIf_f hf hc
    refine lv_aload_n C.1.1 C.1.2.1 dX10_get_15 rfl (lv_at hl 0 rfl) ?_
    refine zGet (.ref (bN 0)) C.1 wuX10 hK hP 0 rfl rfl 21 (by decide) wfX10_43 rfl rfl dX10_get_16 ?_
    refine lv_iload_n C.1.1 C.1.2.1 dX10_get_19 rfl (lv_at hl 1 rfl) ?_
    obtain ⟨hib, hf⟩ := zGd_el hf
    refine va_iald C.1.1 C.1.2.1 hK.1 hP 14 0 rfl rfl hib dX10_get_20 ?_
    refine lv_goto (tgt := 25) C.1.1 C.1.2.1 dX10_get_21 (by decide) ?_
    cases hf
    rw [← hQ]
    exact zRi C hK hP hD hS dX10_get_25
def fX10_gatesOf (mY : Rc) (p1 : Int32) : Option (Int32) :=
  if p1 = 0 then (
    some ((5 : Int32) * (mY 4 0))
  ) else (
    if p1 = 1 then (
      some ((6 : Int32) * (mY 4 0))
    ) else (
      if p1 = 2 then (
        some (((6 : Int32) * (mY 4 0)) * (mY 4 0))
      ) else (
        if p1 = 3 then (
          some (mY 4 0)
        ) else (
          if p1 = 4 then (
            some (mY 4 0)
          ) else (
            if p1 = 5 then (
              some (mY 4 0)
            ) else (
              if p1 = 6 then (
                some ((6 : Int32) * (mY 4 0))
              ) else (
                if p1 = 7 then (
                  some (mY 4 0)
                ) else (
                  if p1 = 8 then (
                    some ((4 : Int32) * (mY 4 0))
                  ) else (
                    some (mY 4 0)
                  )
                )
              )
            )
          )
        )
      )
    )
  )
abbrev rX10_gatesOf : Room := { frames := 0, cells := 0, slots := 0, locals := 0 }
set_option maxHeartbeats 4000000 in
set_option maxRecDepth 100000 in
theorem mtX10_gatesOf (l : Launch) (dC : Nat → ClassId) (dI : Nat → Nat → Nat) (cI cB : ClassId) (bV bP bS bW bN bO : Nat → Nat) (sz : Nat) (mZ : Rc) (mY : Rc) (mB : Rc) (mL : Rc) (mU : Rc) (mJ : Rc) (mK : Rc) (mG : Rc) (mA : Rc) (p1 : Int32) {ov : Int32} (hf : fX10_gatesOf mY p1 = some ov) : zMi l yX10_gatesOf (Cond.code yX10_gatesOf cX10_gatesOf 2 (some .int) :: lw_g) rX10_gatesOf (dC, dI) [(cI, .int), (cB, .byte)] [.ref (bV 0), .int p1] sz (kX10 cI cB bV (bP 0) (bS 0) (bW 0) (bN 0) (bO 0) mZ mY mB mL mU mJ mK mG mA) ov (kX10 cI cB bV (bP 0) (bS 0) (bW 0) (bN 0) (bO 0) mZ mY mB mL mU mJ mK mG mA) := by
  refine zSt (cc := cX10_gatesOf) (maxL := 2) (ret := (some .int)) (own := RX10) (fun A => zQi (dC, dI) [(cI, .int), (cB, .byte)] A ov (kX10 cI cB bV (bP 0) (bS 0) (bW 0) (bN 0) (bO 0) mZ mY mB mL mU mJ mK mG mA)) (by decide) rfl rfl (Nat.le_of_ble_eq_true rfl) ?_
  intro p e s m below meth c ls A H locs C hK hA hP hD hS hl
  generalize hQ : MQ below (zQi (dC, dI) [(cI, .int), (cB, .byte)] A ov (kX10 cI cB bV (bP 0) (bS 0) (bW 0) (bN 0) (bO 0) mZ mY mB mL mU mJ mK mG mA)) _ s 0 0 A = QQ
  generalize ([.ref (bV 0), .int p1] : List Value).toArray = args at C hQ ⊢
  have hl : lv_has ls 2 [(0, .ref (bV 0)), (1, .int p1)] := hl
  unfold fX10_gatesOf at hf
  refine lv_iload_n C.1.1 C.1.2.1 dX10_gatesOf_0 rfl (lv_at hl 1 rfl) ?_
  rcases Classical.em (p1 = 0) with hk1 | hk1
  · replace hf := zIf_t hf hk1
    refine lv_tableIn (off := 51) (tgt := 52) C.1.1 C.1.2.1 dX10_gatesOf_1 (by rw [hk1] <;> decide +kernel) (by rw [hk1] <;> decide +kernel) (by rw [hk1] <;> decide +kernel) (by decide) ?_
    refine lv_iconst (v := 5) C.1.1 C.1.2.1 dX10_gatesOf_52 (by decide) ?_
    refine lv_aload_n C.1.1 C.1.2.1 dX10_gatesOf_53 rfl (lv_at hl 0 rfl) ?_
    refine zGet (.int (mY 4 0)) C.1 wuX10 hK hP 0 rfl rfl 4 (by decide) wfX10_13 rfl rfl dX10_gatesOf_54 ?_
    refine lv_imul C.1.1 C.1.2.1 dX10_gatesOf_57 ?_
    cases hf
    rw [← hQ]
    exact zRi C hK hP hD hS dX10_gatesOf_58
  · replace hf := zIf_f hf hk1
    rcases Classical.em (p1 = 1) with hk2 | hk2
    · replace hf := zIf_t hf hk2
      refine lv_tableIn (off := 58) (tgt := 59) C.1.1 C.1.2.1 dX10_gatesOf_1 (by rw [hk2] <;> decide +kernel) (by rw [hk2] <;> decide +kernel) (by rw [hk2] <;> decide +kernel) (by decide) ?_
      refine lv_bipush (v := 6) C.1.1 C.1.2.1 dX10_gatesOf_59 (by decide) ?_
      refine lv_aload_n C.1.1 C.1.2.1 dX10_gatesOf_61 rfl (lv_at hl 0 rfl) ?_
      refine zGet (.int (mY 4 0)) C.1 wuX10 hK hP 0 rfl rfl 4 (by decide) wfX10_13 rfl rfl dX10_gatesOf_62 ?_
      refine lv_imul C.1.1 C.1.2.1 dX10_gatesOf_65 ?_
      cases hf
      rw [← hQ]
      exact zRi C hK hP hD hS dX10_gatesOf_66
    · replace hf := zIf_f hf hk2
      rcases Classical.em (p1 = 2) with hk3 | hk3
      · replace hf := zIf_t hf hk3
        refine lv_tableIn (off := 66) (tgt := 67) C.1.1 C.1.2.1 dX10_gatesOf_1 (by rw [hk3] <;> decide +kernel) (by rw [hk3] <;> decide +kernel) (by rw [hk3] <;> decide +kernel) (by decide) ?_
        refine lv_bipush (v := 6) C.1.1 C.1.2.1 dX10_gatesOf_67 (by decide) ?_
        refine lv_aload_n C.1.1 C.1.2.1 dX10_gatesOf_69 rfl (lv_at hl 0 rfl) ?_
        refine zGet (.int (mY 4 0)) C.1 wuX10 hK hP 0 rfl rfl 4 (by decide) wfX10_13 rfl rfl dX10_gatesOf_70 ?_
        refine lv_imul C.1.1 C.1.2.1 dX10_gatesOf_73 ?_
        refine lv_aload_n C.1.1 C.1.2.1 dX10_gatesOf_74 rfl (lv_at hl 0 rfl) ?_
        refine zGet (.int (mY 4 0)) C.1 wuX10 hK hP 0 rfl rfl 4 (by decide) wfX10_13 rfl rfl dX10_gatesOf_75 ?_
        refine lv_imul C.1.1 C.1.2.1 dX10_gatesOf_78 ?_
        cases hf
        rw [← hQ]
        exact zRi C hK hP hD hS dX10_gatesOf_79
      · replace hf := zIf_f hf hk3
        rcases Classical.em (p1 = 3) with hk4 | hk4
        · replace hf := zIf_t hf hk4
          refine lv_tableIn (off := 86) (tgt := 87) C.1.1 C.1.2.1 dX10_gatesOf_1 (by rw [hk4] <;> decide +kernel) (by rw [hk4] <;> decide +kernel) (by rw [hk4] <;> decide +kernel) (by decide) ?_
          refine lv_aload_n C.1.1 C.1.2.1 dX10_gatesOf_87 rfl (lv_at hl 0 rfl) ?_
          refine zGet (.int (mY 4 0)) C.1 wuX10 hK hP 0 rfl rfl 4 (by decide) wfX10_13 rfl rfl dX10_gatesOf_88 ?_
          cases hf
          rw [← hQ]
          exact zRi C hK hP hD hS dX10_gatesOf_91
        · replace hf := zIf_f hf hk4
          rcases Classical.em (p1 = 4) with hk5 | hk5
          · replace hf := zIf_t hf hk5
            refine lv_tableIn (off := 86) (tgt := 87) C.1.1 C.1.2.1 dX10_gatesOf_1 (by rw [hk5] <;> decide +kernel) (by rw [hk5] <;> decide +kernel) (by rw [hk5] <;> decide +kernel) (by decide) ?_
            refine lv_aload_n C.1.1 C.1.2.1 dX10_gatesOf_87 rfl (lv_at hl 0 rfl) ?_
            refine zGet (.int (mY 4 0)) C.1 wuX10 hK hP 0 rfl rfl 4 (by decide) wfX10_13 rfl rfl dX10_gatesOf_88 ?_
            cases hf
            rw [← hQ]
            exact zRi C hK hP hD hS dX10_gatesOf_91
          · replace hf := zIf_f hf hk5
            rcases Classical.em (p1 = 5) with hk6 | hk6
            · replace hf := zIf_t hf hk6
              refine lv_tableIn (off := 86) (tgt := 87) C.1.1 C.1.2.1 dX10_gatesOf_1 (by rw [hk6] <;> decide +kernel) (by rw [hk6] <;> decide +kernel) (by rw [hk6] <;> decide +kernel) (by decide) ?_
              refine lv_aload_n C.1.1 C.1.2.1 dX10_gatesOf_87 rfl (lv_at hl 0 rfl) ?_
              refine zGet (.int (mY 4 0)) C.1 wuX10 hK hP 0 rfl rfl 4 (by decide) wfX10_13 rfl rfl dX10_gatesOf_88 ?_
              cases hf
              rw [← hQ]
              exact zRi C hK hP hD hS dX10_gatesOf_91
            · replace hf := zIf_f hf hk6
              rcases Classical.em (p1 = 6) with hk7 | hk7
              · replace hf := zIf_t hf hk7
                refine lv_tableIn (off := 58) (tgt := 59) C.1.1 C.1.2.1 dX10_gatesOf_1 (by rw [hk7] <;> decide +kernel) (by rw [hk7] <;> decide +kernel) (by rw [hk7] <;> decide +kernel) (by decide) ?_
                refine lv_bipush (v := 6) C.1.1 C.1.2.1 dX10_gatesOf_59 (by decide) ?_
                refine lv_aload_n C.1.1 C.1.2.1 dX10_gatesOf_61 rfl (lv_at hl 0 rfl) ?_
                refine zGet (.int (mY 4 0)) C.1 wuX10 hK hP 0 rfl rfl 4 (by decide) wfX10_13 rfl rfl dX10_gatesOf_62 ?_
                refine lv_imul C.1.1 C.1.2.1 dX10_gatesOf_65 ?_
                cases hf
                rw [← hQ]
                exact zRi C hK hP hD hS dX10_gatesOf_66
              · replace hf := zIf_f hf hk7
                rcases Classical.em (p1 = 7) with hk8 | hk8
                · replace hf := zIf_t hf hk8
                  refine lv_tableIn (off := 86) (tgt := 87) C.1.1 C.1.2.1 dX10_gatesOf_1 (by rw [hk8] <;> decide +kernel) (by rw [hk8] <;> decide +kernel) (by rw [hk8] <;> decide +kernel) (by decide) ?_
                  refine lv_aload_n C.1.1 C.1.2.1 dX10_gatesOf_87 rfl (lv_at hl 0 rfl) ?_
                  refine zGet (.int (mY 4 0)) C.1 wuX10 hK hP 0 rfl rfl 4 (by decide) wfX10_13 rfl rfl dX10_gatesOf_88 ?_
                  cases hf
                  rw [← hQ]
                  exact zRi C hK hP hD hS dX10_gatesOf_91
                · replace hf := zIf_f hf hk8
                  rcases Classical.em (p1 = 8) with hk9 | hk9
                  · replace hf := zIf_t hf hk9
                    refine lv_tableIn (off := 79) (tgt := 80) C.1.1 C.1.2.1 dX10_gatesOf_1 (by rw [hk9] <;> decide +kernel) (by rw [hk9] <;> decide +kernel) (by rw [hk9] <;> decide +kernel) (by decide) ?_
                    refine lv_iconst (v := 4) C.1.1 C.1.2.1 dX10_gatesOf_80 (by decide) ?_
                    refine lv_aload_n C.1.1 C.1.2.1 dX10_gatesOf_81 rfl (lv_at hl 0 rfl) ?_
                    refine zGet (.int (mY 4 0)) C.1 wuX10 hK hP 0 rfl rfl 4 (by decide) wfX10_13 rfl rfl dX10_gatesOf_82 ?_
                    refine lv_imul C.1.1 C.1.2.1 dX10_gatesOf_85 ?_
                    cases hf
                    rw [← hQ]
                    exact zRi C hK hP hD hS dX10_gatesOf_86
                  · replace hf := zIf_f hf hk9
                    have nhk1 := lv_neT hk1 (a := 0) (by decide)
                    have nhk2 := lv_neT hk2 (a := 1) (by decide)
                    have nhk3 := lv_neT hk3 (a := 2) (by decide)
                    have nhk4 := lv_neT hk4 (a := 3) (by decide)
                    have nhk5 := lv_neT hk5 (a := 4) (by decide)
                    have nhk6 := lv_neT hk6 (a := 5) (by decide)
                    have nhk7 := lv_neT hk7 (a := 6) (by decide)
                    have nhk8 := lv_neT hk8 (a := 7) (by decide)
                    have nhk9 := lv_neT hk9 (a := 8) (by decide)
                    refine lv_tableOut (tgt := 87) C.1.1 C.1.2.1 dX10_gatesOf_1 (by omega) (by decide) ?_
                    refine lv_aload_n C.1.1 C.1.2.1 dX10_gatesOf_87 rfl (lv_at hl 0 rfl) ?_
                    refine zGet (.int (mY 4 0)) C.1 wuX10 hK hP 0 rfl rfl 4 (by decide) wfX10_13 rfl rfl dX10_gatesOf_88 ?_
                    cases hf
                    rw [← hQ]
                    exact zRi C hK hP hD hS dX10_gatesOf_91
