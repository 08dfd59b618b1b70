theorem dX3_init_0 : decode cX3_init 0 = .ok (.aload_n 0, 1) := by decide +kernel
theorem dX3_init_1 : decode cX3_init 1 = .ok (.invokespecial 3, 3) := by decide +kernel
theorem dX3_init_4 : decode cX3_init 4 = .ok (.aload_n 0, 1) := by decide +kernel
theorem dX3_init_5 : decode cX3_init 5 = .ok (.bipush 12, 2) := by decide +kernel
theorem dX3_init_7 : decode cX3_init 7 = .ok (.newarray .int, 2) := by decide +kernel
theorem dX3_init_9 : decode cX3_init 9 = .ok (.putfield 9, 3) := by decide +kernel
theorem dX3_init_12 : decode cX3_init 12 = .ok (.aload_n 0, 1) := by decide +kernel
theorem dX3_init_13 : decode cX3_init 13 = .ok (.iconst 0, 1) := by decide +kernel
theorem dX3_init_14 : decode cX3_init 14 = .ok (.putfield 15, 3) := by decide +kernel
theorem dX3_init_17 : decode cX3_init 17 = .ok (.return_, 1) := by decide +kernel
theorem dX3_empty_0 : decode cX3_empty 0 = .ok (.aload_n 0, 1) := by decide +kernel
theorem dX3_empty_1 : decode cX3_empty 1 = .ok (.iconst 0, 1) := by decide +kernel
theorem dX3_empty_2 : decode cX3_empty 2 = .ok (.putfield 15, 3) := by decide +kernel
theorem dX3_empty_5 : decode cX3_empty 5 = .ok (.return_, 1) := by decide +kernel
theorem dX3_push_0 : decode cX3_push 0 = .ok (.aload_n 0, 1) := by decide +kernel
theorem dX3_push_1 : decode cX3_push 1 = .ok (.getfield 15, 3) := by decide +kernel
theorem dX3_push_4 : decode cX3_push 4 = .ok (.aload_n 0, 1) := by decide +kernel
theorem dX3_push_5 : decode cX3_push 5 = .ok (.getfield 9, 3) := by decide +kernel
theorem dX3_push_8 : decode cX3_push 8 = .ok (.arraylength, 1) := by decide +kernel
theorem dX3_push_9 : decode cX3_push 9 = .ok (.if_icmp .ge 23, 3) := by decide +kernel
theorem dX3_push_12 : decode cX3_push 12 = .ok (.aload_n 0, 1) := by decide +kernel
theorem dX3_push_13 : decode cX3_push 13 = .ok (.getfield 9, 3) := by decide +kernel
theorem dX3_push_16 : decode cX3_push 16 = .ok (.aload_n 0, 1) := by decide +kernel
theorem dX3_push_17 : decode cX3_push 17 = .ok (.getfield 15, 3) := by decide +kernel
theorem dX3_push_20 : decode cX3_push 20 = .ok (.iload_n 1, 1) := by decide +kernel
theorem dX3_push_21 : decode cX3_push 21 = .ok (.iastore, 1) := by decide +kernel
theorem dX3_push_22 : decode cX3_push 22 = .ok (.aload_n 0, 1) := by decide +kernel
theorem dX3_push_23 : decode cX3_push 23 = .ok (.dup, 1) := by decide +kernel
theorem dX3_push_24 : decode cX3_push 24 = .ok (.getfield 15, 3) := by decide +kernel
theorem dX3_push_27 : decode cX3_push 27 = .ok (.iconst 1, 1) := by decide +kernel
theorem dX3_push_28 : decode cX3_push 28 = .ok (.iadd, 1) := by decide +kernel
theorem dX3_push_29 : decode cX3_push 29 = .ok (.putfield 15, 3) := by decide +kernel
theorem dX3_push_32 : decode cX3_push 32 = .ok (.return_, 1) := by decide +kernel
theorem dX3_pop_0 : decode cX3_pop 0 = .ok (.aload_n 0, 1) := by decide +kernel
theorem dX3_pop_1 : decode cX3_pop 1 = .ok (.getfield 15, 3) := by decide +kernel
theorem dX3_pop_4 : decode cX3_pop 4 = .ok (.ifCond .gt 5, 3) := by decide +kernel
theorem dX3_pop_7 : decode cX3_pop 7 = .ok (.iconst 0, 1) := by decide +kernel
theorem dX3_pop_8 : decode cX3_pop 8 = .ok (.ireturn, 1) := by decide +kernel
theorem dX3_pop_9 : decode cX3_pop 9 = .ok (.aload_n 0, 1) := by decide +kernel
theorem dX3_pop_10 : decode cX3_pop 10 = .ok (.dup, 1) := by decide +kernel
theorem dX3_pop_11 : decode cX3_pop 11 = .ok (.getfield 15, 3) := by decide +kernel
theorem dX3_pop_14 : decode cX3_pop 14 = .ok (.iconst 1, 1) := by decide +kernel
theorem dX3_pop_15 : decode cX3_pop 15 = .ok (.isub, 1) := by decide +kernel
theorem dX3_pop_16 : decode cX3_pop 16 = .ok (.putfield 15, 3) := by decide +kernel
theorem dX3_pop_19 : decode cX3_pop 19 = .ok (.aload_n 0, 1) := by decide +kernel
theorem dX3_pop_20 : decode cX3_pop 20 = .ok (.getfield 9, 3) := by decide +kernel
theorem dX3_pop_23 : decode cX3_pop 23 = .ok (.aload_n 0, 1) := by decide +kernel
theorem dX3_pop_24 : decode cX3_pop 24 = .ok (.getfield 15, 3) := by decide +kernel
theorem dX3_pop_27 : decode cX3_pop 27 = .ok (.iaload, 1) := by decide +kernel
theorem dX3_pop_28 : decode cX3_pop 28 = .ok (.ireturn, 1) := by decide +kernel
def fX3_empty (oQ : Rc) : Option (Rc) :=
  zLet (rs oQ 1 (fun _ => (0 : Int32))) fun oQ_1 =>
  some oQ_1
abbrev rX3_empty : Room := { frames := 0, cells := 0, slots := 0, locals := 0 }
set_option maxHeartbeats 4000000 in
set_option maxRecDepth 100000 in
theorem mtX3_empty (l : Launch) (dC : Nat → ClassId) (dI : Nat → Nat → Nat) (cI cB : ClassId) (aQ : Nat → Nat) (sz : Nat) (oQ : Rc) {oQ' : Rc} (hf : fX3_empty oQ = some oQ') : zMv l yX3_empty (Cond.code yX3_empty cX3_empty 1 none :: lw_g) rX3_empty (dC, dI) [(cI, .int), (cB, .byte)] [.ref (aQ 0)] sz (kX3 cI cB aQ oQ) (kX3 cI cB aQ oQ') := by
  refine zSt (cc := cX3_empty) (maxL := 1) (ret := none) (own := RX3) (fun A => zQv (dC, dI) [(cI, .int), (cB, .byte)] A (kX3 cI cB aQ oQ')) (by decide) rfl rfl (Nat.le_of_ble_eq_true rfl) ?_
  intro p e s m below meth c ls A H locs C hK hA hP hD hS hl
  generalize hQ : MQ below (zQv (dC, dI) [(cI, .int), (cB, .byte)] A (kX3 cI cB aQ oQ')) _ s 0 0 A = QQ
  generalize ([.ref (aQ 0)] : List Value).toArray = args at C hQ ⊢
  have hl : lv_has ls 1 [(0, .ref (aQ 0))] := hl
  unfold fX3_empty at hf
  refine lv_aload_n C.1.1 C.1.2.1 dX3_empty_0 rfl (lv_at hl 0 rfl) ?_
  refine lv_iconst (v := 0) C.1.1 C.1.2.1 dX3_empty_1 (by decide) ?_
  obtain ⟨oQ_1, eoQ_1, hf⟩ := zLet_el hf
  refine zPut (ty := .int) (kX3 cI cB aQ oQ_1) C.1 wuX3 tyX3 tyX3_ok nmX3 hK hP hD hS 0 rfl rfl 1 (by decide) wfX3_15 rfl rfl (by decide +kernel) rfl rfl (Nat.le_of_ble_eq_true rfl) dX3_empty_2 (by rw [eoQ_1]; rfl) (fun H locs hP hD hS => ?_)
  cases hf
  rw [← hQ]
  exact zRv C hK hP hD hS dX3_empty_5
def fX3_push (oQ : Rc) (p1 : Int32) : Option (Rc) :=
  if (12 : Int32) ≤ (oQ 1 0) then (
    some oQ
  ) else (
    zGd (inb (oQ 1 0) 12) <|
    zLet (rs oQ 0 (upd (oQ 0) (oQ 1 0).toNatClampNeg p1)) fun oQ_1 =>
    zLet (rs oQ_1 1 (fun _ => ((oQ_1 1 0) + (1 : Int32)))) fun oQ_2 =>
    some oQ_2
  )
abbrev rX3_push : Room := { frames := 0, cells := 0, slots := 0, locals := 0 }
set_option maxHeartbeats 4000000 in
set_option maxRecDepth 100000 in
theorem mtX3_push (l : Launch) (dC : Nat → ClassId) (dI : Nat → Nat → Nat) (cI cB : ClassId) (aQ : Nat → Nat) (sz : Nat) (oQ : Rc) (p1 : Int32) {oQ' : Rc} (hf : fX3_push oQ p1 = some oQ') : zMv l yX3_push (Cond.code yX3_push cX3_push 2 none :: lw_g) rX3_push (dC, dI) [(cI, .int), (cB, .byte)] [.ref (aQ 0), .int p1] sz (kX3 cI cB aQ oQ) (kX3 cI cB aQ oQ') := by
  refine zSt (cc := cX3_push) (maxL := 2) (ret := none) (own := RX3) (fun A => zQv (dC, dI) [(cI, .int), (cB, .byte)] A (kX3 cI cB aQ oQ')) (by decide) rfl rfl (Nat.le_of_ble_eq_true rfl) ?_
  intro p e s m below meth c ls A H locs C hK hA hP hD hS hl
  generalize hQ : MQ below (zQv (dC, dI) [(cI, .int), (cB, .byte)] A (kX3 cI cB aQ oQ')) _ s 0 0 A = QQ
  generalize ([.ref (aQ 0), .int p1] : List Value).toArray = args at C hQ ⊢
  have hl : lv_has ls 2 [(0, .ref (aQ 0)), (1, .int p1)] := hl
  unfold fX3_push at hf
  refine lv_aload_n C.1.1 C.1.2.1 dX3_push_0 rfl (lv_at hl 0 rfl) ?_
  refine zGet (.int (oQ 1 0)) C.1 wuX3 hK hP 0 rfl rfl 1 (by decide) wfX3_15 rfl rfl dX3_push_1 ?_
  refine lv_aload_n C.1.1 C.1.2.1 dX3_push_4 rfl (lv_at hl 0 rfl) ?_
  refine zGet (.ref (aQ 1)) C.1 wuX3 hK hP 0 rfl rfl 0 (by decide) wfX3_9 rfl rfl dX3_push_5 ?_
  refine va_alen (v := 12) C.1.1 C.1.2.1 hK.1 hP 1 0 rfl rfl rfl dX3_push_8 ?_
  refine lv_icmp_ge (tgt := 32) C.1.1 C.1.2.1 dX3_push_9 (by decide) (fun hc => ?_) (fun hc => ?_)
  · replace hf := zIf_t hf hc
    cases hf
    rw [← hQ]
    exact zRv C hK hP hD hS dX3_push_32
  · replace hf := zIf_f hf hc
    refine lv_aload_n C.1.1 C.1.2.1 dX3_push_12 rfl (lv_at hl 0 rfl) ?_
    refine zGet (.ref (aQ 1)) C.1 wuX3 hK hP 0 rfl rfl 0 (by decide) wfX3_9 rfl rfl dX3_push_13 ?_
    refine lv_aload_n C.1.1 C.1.2.1 dX3_push_16 rfl (lv_at hl 0 rfl) ?_
    refine zGet (.int (oQ 1 0)) C.1 wuX3 hK hP 0 rfl rfl 1 (by decide) wfX3_15 rfl rfl dX3_push_17 ?_
    refine lv_iload_n C.1.1 C.1.2.1 dX3_push_20 rfl (lv_at hl 1 rfl) ?_
    obtain ⟨hib, hf⟩ := zGd_el hf
    obtain ⟨oQ_1, eoQ_1, hf⟩ := zLet_el hf
    refine zIast (kX3 cI cB aQ oQ_1) C.1 hK hP hD hS 1 0 rfl rfl hib dX3_push_21 (by rw [eoQ_1]; rfl) (fun H locs hP hD hS => ?_)
    refine lv_aload_n C.1.1 C.1.2.1 dX3_push_22 rfl (lv_at hl 0 rfl) ?_
    refine lv_dup C.1.1 C.1.2.1 dX3_push_23 rfl ?_
    refine zGet (.int (oQ_1 1 0)) C.1 wuX3 hK hP 0 rfl rfl 1 (by decide) wfX3_15 rfl rfl dX3_push_24 ?_
    refine lv_iconst (v := 1) C.1.1 C.1.2.1 dX3_push_27 (by decide) ?_
    refine lv_iadd C.1.1 C.1.2.1 dX3_push_28 ?_
    obtain ⟨oQ_2, eoQ_2, hf⟩ := zLet_el hf
    refine zPut (ty := .int) (kX3 cI cB aQ oQ_2) C.1 wuX3 tyX3 tyX3_ok nmX3 hK hP hD hS 0 rfl rfl 1 (by decide) wfX3_15 rfl rfl (by decide +kernel) rfl rfl (Nat.le_of_ble_eq_true rfl) dX3_push_29 (by rw [eoQ_2]; rfl) (fun H locs hP hD hS => ?_)
    cases hf
    rw [← hQ]
    exact zRv C hK hP hD hS dX3_push_32
def fX3_pop (oQ : Rc) : Option (Int32 × Rc) :=
  if 0 < (oQ 1 0) then (
    zLet (rs oQ 1 (fun _ => ((oQ 1 0) - (1 : Int32)))) fun oQ_1 =>
    zGd (inb (oQ_1 1 0) 12) <|
    some ((oQ_1 0 (oQ_1 1 0).toNatClampNeg), oQ_1)
  ) else (
    some ((0 : Int32), oQ)
  )
abbrev rX3_pop : Room := { frames := 0, cells := 0, slots := 0, locals := 0 }
set_option maxHeartbeats 4000000 in
set_option maxRecDepth 100000 in
theorem mtX3_pop (l : Launch) (dC : Nat → ClassId) (dI : Nat → Nat → Nat) (cI cB : ClassId) (aQ : Nat → Nat) (sz : Nat) (oQ : Rc) {ov : Int32} {oQ' : Rc} (hf : fX3_pop oQ = some (ov, oQ')) : zMi l yX3_pop (Cond.code yX3_pop cX3_pop 1 (some .int) :: lw_g) rX3_pop (dC, dI) [(cI, .int), (cB, .byte)] [.ref (aQ 0)] sz (kX3 cI cB aQ oQ) ov (kX3 cI cB aQ oQ') := by
  refine zSt (cc := cX3_pop) (maxL := 1) (ret := (some .int)) (own := RX3) (fun A => zQi (dC, dI) [(cI, .int), (cB, .byte)] A ov (kX3 cI cB aQ oQ')) (by decide) rfl rfl (Nat.le_of_ble_eq_true rfl) ?_
  intro p e s m below meth c ls A H locs C hK hA hP hD hS hl
  generalize hQ : MQ below (zQi (dC, dI) [(cI, .int), (cB, .byte)] A ov (kX3 cI cB aQ oQ')) _ s 0 0 A = QQ
  generalize ([.ref (aQ 0)] : List Value).toArray = args at C hQ ⊢
  have hl : lv_has ls 1 [(0, .ref (aQ 0))] := hl
  unfold fX3_pop at hf
  refine lv_aload_n C.1.1 C.1.2.1 dX3_pop_0 rfl (lv_at hl 0 rfl) ?_
  refine zGet (.int (oQ 1 0)) C.1 wuX3 hK hP 0 rfl rfl 1 (by decide) wfX3_15 rfl rfl dX3_pop_1 ?_
  refine lv_if_gt (tgt := 9) C.1.1 C.1.2.1 dX3_pop_4 (by decide) (fun hc => ?_) (fun hc => ?_)
  · replace hf := zIf_t hf hc
    refine lv_aload_n C.1.1 C.1.2.1 dX3_pop_9 rfl (lv_at hl 0 rfl) ?_
    refine lv_dup C.1.1 C.1.2.1 dX3_pop_10 rfl ?_
    refine zGet (.int (oQ 1 0)) C.1 wuX3 hK hP 0 rfl rfl 1 (by decide) wfX3_15 rfl rfl dX3_pop_11 ?_
    refine lv_iconst (v := 1) C.1.1 C.1.2.1 dX3_pop_14 (by decide) ?_
    refine lv_isub C.1.1 C.1.2.1 dX3_pop_15 ?_
    obtain ⟨oQ_1, eoQ_1, hf⟩ := zLet_el hf
    refine zPut (ty := .int) (kX3 cI cB aQ oQ_1) C.1 wuX3 tyX3 tyX3_ok nmX3 hK hP hD hS 0 rfl rfl 1 (by decide) wfX3_15 rfl rfl (by decide +kernel) rfl rfl (Nat.le_of_ble_eq_true rfl) dX3_pop_16 (by rw [eoQ_1]; rfl) (fun H locs hP hD hS => ?_)
    refine lv_aload_n C.1.1 C.1.2.1 dX3_pop_19 rfl (lv_at hl 0 rfl) ?_
    refine zGet (.ref (aQ 1)) C.1 wuX3 hK hP 0 rfl rfl 0 (by decide) wfX3_9 rfl rfl dX3_pop_20 ?_
    refine lv_aload_n C.1.1 C.1.2.1 dX3_pop_23 rfl (lv_at hl 0 rfl) ?_
    refine zGet (.int (oQ_1 1 0)) C.1 wuX3 hK hP 0 rfl rfl 1 (by decide) wfX3_15 rfl rfl dX3_pop_24 ?_
    obtain ⟨hib, hf⟩ := zGd_el hf
    refine va_iald C.1.1 C.1.2.1 hK.1 hP 1 0 rfl rfl hib dX3_pop_27 ?_
    cases hf
    rw [← hQ]
    exact zRi C hK hP hD hS dX3_pop_28
  · replace hf := zIf_f hf hc
    refine lv_iconst (v := 0) C.1.1 C.1.2.1 dX3_pop_7 (by decide) ?_
    cases hf
    rw [← hQ]
    exact zRi C hK hP hD hS dX3_pop_8
