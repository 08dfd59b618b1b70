def iX3 : Rc := fun k _ => 0
theorem zdX3 : ∀ j, j < 2 → defaultValue (tyX3 j) = vp_V [.null, .int 0] j := by
  intro j hj
  match j, hj with
  | 0, _ => rfl
  | 1, _ => rfl
  | k + 2, h => exact absurd h (by omega)
abbrev rX3_init : Room := { frames := 1, cells := 1, slots := 12, locals := 12 }
set_option maxHeartbeats 4000000 in
set_option maxRecDepth 100000 in
theorem mtX3_init (l : Launch) (dC : Nat → ClassId) (dI : Nat → Nat → Nat) (cI cB : ClassId) (h0 : Nat) (sz : Nat) : zMc l yX3_init (Cond.code yX3_init cX3_init 1 none :: lw_g) rX3_init (dC, dI) [(cI, .int), (cB, .byte)] h0 sz [(h0, .inr (3, [.null, .int 0]))] (fun ad => (kX3 cI cB (ad 0) iX3)) 1 12 := by
  refine zStC (cc := cX3_init) (maxL := 1) (ret := none) (own := RX3) (fun A => zCq (dC, dI) [(cI, .int), (cB, .byte)] A h0 (fun ad => (kX3 cI cB (ad 0) iX3))) (by decide) rfl rfl rfl (Nat.le_of_ble_eq_true rfl) ?_
  intro p e s m below meth c ls A H locs C hin hK hA hP hD hS hl
  generalize hQ : MQ below (zCq (dC, dI) [(cI, .int), (cB, .byte)] A h0 (fun ad => (kX3 cI cB (ad 0) iX3))) _ s 1 12 A = QQ
  generalize ([.ref h0] : List Value).toArray = args at C hQ ⊢
  have hl : lv_has ls 1 [(0, .ref h0)] := hl
  refine lv_aload_n C.1.1 C.1.2.1 dX3_init_0 rfl (lv_at hl 0 rfl) ?_
  refine W.objInit C.1.1 C.1.2.1 C.1.2.2.2.1 (C.1.2.2.2.2 _ wlX3_3) (C.1.2.2.2.2 _ wOi) (C.1.2.2.2.2 _ wOc) rfl (by rw [C.1.2.2.1]; exact hl.1) rfl dX3_init_1 (Nat.le_of_ble_eq_true rfl) (Nat.le_of_ble_eq_true rfl) ?_
  refine W.eq (g2 := F0 m 4 ls []) rfl ?_
  refine lv_aload_n C.1.1 C.1.2.1 dX3_init_4 rfl (lv_at hl 0 rfl) ?_
  refine lv_bipush (v := 12) C.1.1 C.1.2.1 dX3_init_5 (by decide) ?_
  refine zNewI 12 C.1 hK hP hD hS hA 0 rfl (by decide) (by decide) (by decide) (Nat.le_of_ble_eq_true rfl) (Nat.le_of_ble_eq_true rfl) dX3_init_7 wAI (fun q1 H hP hD hS => ?_)
  have hP : va_P (dC, dI) vwCl ([(h0, .inr (3, [.null, .int 0])), (q1, .inl (cI, 12, .inl (fun _ => 0)))]) H := hP
  have hD : va_D A ([(h0, .inr (3, [.null, .int 0])), (q1, .inl (cI, 12, .inl (fun _ => 0)))]) := hD
  refine W.widen (k := 1) (n := 12) (Nat.le_refl _) (Nat.le_refl _) ?_
  refine zPutF (ty := (.array .int)) ([(h0, .inr (3, [.ref q1, .int 0])), (q1, .inl (cI, 12, .inl (fun _ => 0)))]) C.1 hin wuX3 tyX3 tyX3_ok nmX3 hK hP hD hS 0 rfl rfl 0 (by decide) wfX3_9 rfl rfl rfl (by decide +kernel) rfl rfl (Nat.le_of_ble_eq_true rfl) dX3_init_9 rfl (fun H locs hP hD hS => ?_)
  refine lv_aload_n C.1.1 C.1.2.1 dX3_init_12 rfl (lv_at hl 0 rfl) ?_
  refine lv_iconst (v := 0) C.1.1 C.1.2.1 dX3_init_13 (by decide) ?_
  refine zPut (ty := .int) ([(h0, .inr (3, [.ref q1, .int (0 : Int32)])), (q1, .inl (cI, 12, .inl (fun _ => 0)))]) C.1 wuX3 tyX3 tyX3_ok nmX3 hK hP hD hS 0 rfl rfl 1 (by decide) wfX3_15 rfl rfl (by decide +kernel) (by decide +kernel) (by decide +kernel) (Nat.le_of_ble_eq_true rfl) dX3_init_14 rfl (fun H locs hP hD hS => ?_)
  rw [← hQ]
  exact zRc (ad := (zsel [zl [h0, q1]])) C rfl hK (hP.sub (ws' := (kX3 cI cB ((zsel [zl [h0, q1]]) 0) iX3)) [0, 1] rfl) (hD.sub (ws' := (kX3 cI cB ((zsel [zl [h0, q1]]) 0) iX3)) [0, 1] (by decide +kernel) rfl) hS dX3_init_17
def iX6 : Rc := fun k _ => if k = 8 then (-1) else 0
theorem zdX6 : ∀ j, j < 10 → defaultValue (tyX6 j) = vp_V [.null, .int 0, .int 0, .int 0, .int 0, .int 0, .int 0, .int 0, .int 0, .int 0] j := by
  intro j hj
  match j, hj with
  | 0, _ => rfl
  | 1, _ => rfl
  | 2, _ => rfl
  | 3, _ => rfl
  | 4, _ => rfl
  | 5, _ => rfl
  | 6, _ => rfl
  | 7, _ => rfl
  | 8, _ => rfl
  | 9, _ => rfl
  | k + 10, h => exact absurd h (by omega)
abbrev rX6_init : Room := { frames := 1, cells := 1, slots := 600, locals := 12 }
set_option maxHeartbeats 4000000 in
set_option maxRecDepth 100000 in
theorem mtX6_init (l : Launch) (dC : Nat → ClassId) (dI : Nat → Nat → Nat) (cI cB : ClassId) (h0 : Nat) (sz : Nat) : zMc l yX6_init (Cond.code yX6_init cX6_init 1 none :: lw_g) rX6_init (dC, dI) [(cI, .int), (cB, .byte)] h0 sz [(h0, .inr (6, [.null, .int 0, .int 0, .int 0, .int 0, .int 0, .int 0, .int 0, .int 0, .int 0]))] (fun ad => (kX6 cI cB (ad 0) iX6)) 1 600 := by
  refine zStC (cc := cX6_init) (maxL := 1) (ret := none) (own := RX6) (fun A => zCq (dC, dI) [(cI, .int), (cB, .byte)] A h0 (fun ad => (kX6 cI cB (ad 0) iX6))) (by decide) rfl rfl rfl (Nat.le_of_ble_eq_true rfl) ?_
  intro p e s m below meth c ls A H locs C hin hK hA hP hD hS hl
  generalize hQ : MQ below (zCq (dC, dI) [(cI, .int), (cB, .byte)] A h0 (fun ad => (kX6 cI cB (ad 0) iX6))) _ s 1 600 A = QQ
  generalize ([.ref h0] : List Value).toArray = args at C hQ ⊢
  have hl : lv_has ls 1 [(0, .ref h0)] := hl
  refine lv_aload_n C.1.1 C.1.2.1 dX6_init_0 rfl (lv_at hl 0 rfl) ?_
  refine W.objInit C.1.1 C.1.2.1 C.1.2.2.2.1 (C.1.2.2.2.2 _ wlX6_3) (C.1.2.2.2.2 _ wOi) (C.1.2.2.2.2 _ wOc) rfl (by rw [C.1.2.2.1]; exact hl.1) rfl dX6_init_1 (Nat.le_of_ble_eq_true rfl) (Nat.le_of_ble_eq_true rfl) ?_
  refine W.eq (g2 := F0 m 4 ls []) rfl ?_
  refine lv_aload_n C.1.1 C.1.2.1 dX6_init_4 rfl (lv_at hl 0 rfl) ?_
  refine lv_sipush (v := 600) C.1.1 C.1.2.1 dX6_init_5 (by decide) ?_
  refine zNewI 600 C.1 hK hP hD hS hA 0 rfl (by decide) (by decide) (by decide) (Nat.le_of_ble_eq_true rfl) (Nat.le_of_ble_eq_true rfl) dX6_init_8 wAI (fun q1 H hP hD hS => ?_)
  have hP : va_P (dC, dI) vwCl ([(h0, .inr (6, [.null, .int 0, .int 0, .int 0, .int 0, .int 0, .int 0, .int 0, .int 0, .int 0])), (q1, .inl (cI, 600, .inl (fun _ => 0)))]) H := hP
  have hD : va_D A ([(h0, .inr (6, [.null, .int 0, .int 0, .int 0, .int 0, .int 0, .int 0, .int 0, .int 0, .int 0])), (q1, .inl (cI, 600, .inl (fun _ => 0)))]) := hD
  refine W.widen (k := 1) (n := 600) (Nat.le_refl _) (Nat.le_refl _) ?_
  refine zPutF (ty := (.array .int)) ([(h0, .inr (6, [.ref q1, .int 0, .int 0, .int 0, .int 0, .int 0, .int 0, .int 0, .int 0, .int 0])), (q1, .inl (cI, 600, .inl (fun _ => 0)))]) C.1 hin wuX6 tyX6 tyX6_ok nmX6 hK hP hD hS 0 rfl rfl 0 (by decide) wfX6_9 rfl rfl rfl (by decide +kernel) rfl rfl (Nat.le_of_ble_eq_true rfl) dX6_init_10 rfl (fun H locs hP hD hS => ?_)
  refine lv_aload_n C.1.1 C.1.2.1 dX6_init_13 rfl (lv_at hl 0 rfl) ?_
  refine lv_iconst (v := 0) C.1.1 C.1.2.1 dX6_init_14 (by decide) ?_
  refine zPut (ty := .int) ([(h0, .inr (6, [.ref q1, .int (0 : Int32), .int 0, .int 0, .int 0, .int 0, .int 0, .int 0, .int 0, .int 0])), (q1, .inl (cI, 600, .inl (fun _ => 0)))]) C.1 wuX6 tyX6 tyX6_ok nmX6 hK hP hD hS 0 rfl rfl 1 (by decide) wfX6_15 rfl rfl (by decide +kernel) (by decide +kernel) (by decide +kernel) (Nat.le_of_ble_eq_true rfl) dX6_init_15 rfl (fun H locs hP hD hS => ?_)
  refine lv_aload_n C.1.1 C.1.2.1 dX6_init_18 rfl (lv_at hl 0 rfl) ?_
  refine lv_iconst (v := 0) C.1.1 C.1.2.1 dX6_init_19 (by decide) ?_
  refine zPut (ty := .int) ([(h0, .inr (6, [.ref q1, .int (0 : Int32), .int (0 : Int32), .int 0, .int 0, .int 0, .int 0, .int 0, .int 0, .int 0])), (q1, .inl (cI, 600, .inl (fun _ => 0)))]) C.1 wuX6 tyX6 tyX6_ok nmX6 hK hP hD hS 0 rfl rfl 2 (by decide) wfX6_19 rfl rfl (by decide +kernel) (by decide +kernel) (by decide +kernel) (Nat.le_of_ble_eq_true rfl) dX6_init_20 rfl (fun H locs hP hD hS => ?_)
  refine lv_aload_n C.1.1 C.1.2.1 dX6_init_23 rfl (lv_at hl 0 rfl) ?_
  refine lv_iconst (v := 0) C.1.1 C.1.2.1 dX6_init_24 (by decide) ?_
  refine zPut (ty := .int) ([(h0, .inr (6, [.ref q1, .int (0 : Int32), .int (0 : Int32), .int (0 : Int32), .int 0, .int 0, .int 0, .int 0, .int 0, .int 0])), (q1, .inl (cI, 600, .inl (fun _ => 0)))]) C.1 wuX6 tyX6 tyX6_ok nmX6 hK hP hD hS 0 rfl rfl 3 (by decide) wfX6_22 rfl rfl (by decide +kernel) (by decide +kernel) (by decide +kernel) (Nat.le_of_ble_eq_true rfl) dX6_init_25 rfl (fun H locs hP hD hS => ?_)
  refine lv_aload_n C.1.1 C.1.2.1 dX6_init_28 rfl (lv_at hl 0 rfl) ?_
  refine lv_iconst (v := 0) C.1.1 C.1.2.1 dX6_init_29 (by decide) ?_
  refine zPut (ty := .int) ([(h0, .inr (6, [.ref q1, .int (0 : Int32), .int (0 : Int32), .int (0 : Int32), .int (0 : Int32), .int 0, .int 0, .int 0, .int 0, .int 0])), (q1, .inl (cI, 600, .inl (fun _ => 0)))]) C.1 wuX6 tyX6 tyX6_ok nmX6 hK hP hD hS 0 rfl rfl 4 (by decide) wfX6_25 rfl rfl (by decide +kernel) (by decide +kernel) (by decide +kernel) (Nat.le_of_ble_eq_true rfl) dX6_init_30 rfl (fun H locs hP hD hS => ?_)
  refine lv_aload_n C.1.1 C.1.2.1 dX6_init_33 rfl (lv_at hl 0 rfl) ?_
  refine lv_iconst (v := 0) C.1.1 C.1.2.1 dX6_init_34 (by decide) ?_
  refine zPut (ty := .int) ([(h0, .inr (6, [.ref q1, .int (0 : Int32), .int (0 : Int32), .int (0 : Int32), .int (0 : Int32), .int (0 : Int32), .int 0, .int 0, .int 0, .int 0])), (q1, .inl (cI, 600, .inl (fun _ => 0)))]) C.1 wuX6 tyX6 tyX6_ok nmX6 hK hP hD hS 0 rfl rfl 5 (by decide) wfX6_28 rfl rfl (by decide +kernel) (by decide +kernel) (by decide +kernel) (Nat.le_of_ble_eq_true rfl) dX6_init_35 rfl (fun H locs hP hD hS => ?_)
  refine lv_aload_n C.1.1 C.1.2.1 dX6_init_38 rfl (lv_at hl 0 rfl) ?_
  refine lv_iconst (v := 0) C.1.1 C.1.2.1 dX6_init_39 (by decide) ?_
  refine zPut (ty := .int) ([(h0, .inr (6, [.ref q1, .int (0 : Int32), .int (0 : Int32), .int (0 : Int32), .int (0 : Int32), .int (0 : Int32), .int (0 : Int32), .int 0, .int 0, .int 0])), (q1, .inl (cI, 600, .inl (fun _ => 0)))]) C.1 wuX6 tyX6 tyX6_ok nmX6 hK hP hD hS 0 rfl rfl 6 (by decide) wfX6_31 rfl rfl (by decide +kernel) (by decide +kernel) (by decide +kernel) (Nat.le_of_ble_eq_true rfl) dX6_init_40 rfl (fun H locs hP hD hS => ?_)
  refine lv_aload_n C.1.1 C.1.2.1 dX6_init_43 rfl (lv_at hl 0 rfl) ?_
  refine lv_iconst (v := 0) C.1.1 C.1.2.1 dX6_init_44 (by decide) ?_
  refine zPut (ty := .int) ([(h0, .inr (6, [.ref q1, .int (0 : Int32), .int (0 : Int32), .int (0 : Int32), .int (0 : Int32), .int (0 : Int32), .int (0 : Int32), .int (0 : Int32), .int 0, .int 0])), (q1, .inl (cI, 600, .inl (fun _ => 0)))]) C.1 wuX6 tyX6 tyX6_ok nmX6 hK hP hD hS 0 rfl rfl 7 (by decide) wfX6_34 rfl rfl (by decide +kernel) (by decide +kernel) (by decide +kernel) (Nat.le_of_ble_eq_true rfl) dX6_init_45 rfl (fun H locs hP hD hS => ?_)
  refine lv_aload_n C.1.1 C.1.2.1 dX6_init_48 rfl (lv_at hl 0 rfl) ?_
  refine lv_iconst (v := (-1)) C.1.1 C.1.2.1 dX6_init_49 (by decide) ?_
  refine zPut (ty := .int) ([(h0, .inr (6, [.ref q1, .int (0 : Int32), .int (0 : Int32), .int (0 : Int32), .int (0 : Int32), .int (0 : Int32), .int (0 : Int32), .int (0 : Int32), .int (-1 : Int32), .int 0])), (q1, .inl (cI, 600, .inl (fun _ => 0)))]) C.1 wuX6 tyX6 tyX6_ok nmX6 hK hP hD hS 0 rfl rfl 8 (by decide) wfX6_37 rfl rfl (by decide +kernel) (by decide +kernel) (by decide +kernel) (Nat.le_of_ble_eq_true rfl) dX6_init_50 rfl (fun H locs hP hD hS => ?_)
  refine lv_aload_n C.1.1 C.1.2.1 dX6_init_53 rfl (lv_at hl 0 rfl) ?_
  refine lv_iconst (v := 0) C.1.1 C.1.2.1 dX6_init_54 (by decide) ?_
  refine zPut (ty := .boolean) ([(h0, .inr (6, [.ref q1, .int (0 : Int32), .int (0 : Int32), .int (0 : Int32), .int (0 : Int32), .int (0 : Int32), .int (0 : Int32), .int (0 : Int32), .int (-1 : Int32), .int (0 : Int32)])), (q1, .inl (cI, 600, .inl (fun _ => 0)))]) C.1 wuX6 tyX6 tyX6_ok nmX6 hK hP hD hS 0 rfl rfl 9 (by decide) wfX6_40 rfl rfl (by decide +kernel) (by decide +kernel) (by decide +kernel) (Nat.le_of_ble_eq_true rfl) dX6_init_55 rfl (fun H locs hP hD hS => ?_)
  rw [← hQ]
  exact zRc (ad := (zsel [zl [h0, q1]])) C rfl hK (hP.sub (ws' := (kX6 cI cB ((zsel [zl [h0, q1]]) 0) iX6)) [0, 1] rfl) (hD.sub (ws' := (kX6 cI cB ((zsel [zl [h0, q1]]) 0) iX6)) [0, 1] (by decide +kernel) rfl) hS dX6_init_58
def iX4 : Rc := fun k _ => 0
theorem zdX4 : ∀ j, j < 13 → defaultValue (tyX4 j) = vp_V [.int 0, .int 0, .int 0, .int 0, .null, .null, .null, .null, .null, .null, .null, .null, .null] j := by
  intro j hj
  match j, hj with
  | 0, _ => rfl
  | 1, _ => rfl
  | 2, _ => rfl
  | 3, _ => rfl
  | 4, _ => rfl
  | 5, _ => rfl
  | 6, _ => rfl
  | 7, _ => rfl
  | 8, _ => rfl
  | 9, _ => rfl
  | 10, _ => rfl
  | 11, _ => rfl
  | 12, _ => rfl
  | k + 13, h => exact absurd h (by omega)
abbrev rX4_init : Room := { frames := 1, cells := 9, slots := 1622, locals := 12 }
set_option maxHeartbeats 4000000 in
set_option maxRecDepth 100000 in
theorem mtX4_init (l : Launch) (dC : Nat → ClassId) (dI : Nat → Nat → Nat) (cI cB : ClassId) (h0 : Nat) (sz : Nat) : zMc l yX4_init (Cond.code yX4_init cX4_init 1 none :: lw_g) rX4_init (dC, dI) [(cI, .int), (cB, .byte)] h0 sz [(h0, .inr (4, [.int 0, .int 0, .int 0, .int 0, .null, .null, .null, .null, .null, .null, .null, .null, .null]))] (fun ad => (kX4 cI cB (ad 0) iX4)) 9 1622 := by
  refine zStC (cc := cX4_init) (maxL := 1) (ret := none) (own := RX4) (fun A => zCq (dC, dI) [(cI, .int), (cB, .byte)] A h0 (fun ad => (kX4 cI cB (ad 0) iX4))) (by decide) rfl rfl rfl (Nat.le_of_ble_eq_true rfl) ?_
  intro p e s m below meth c ls A H locs C hin hK hA hP hD hS hl
  generalize hQ : MQ below (zCq (dC, dI) [(cI, .int), (cB, .byte)] A h0 (fun ad => (kX4 cI cB (ad 0) iX4))) _ s 9 1622 A = QQ
  generalize ([.ref h0] : List Value).toArray = args at C hQ ⊢
  have hl : lv_has ls 1 [(0, .ref h0)] := hl
  refine lv_aload_n C.1.1 C.1.2.1 dX4_init_0 rfl (lv_at hl 0 rfl) ?_
  refine W.objInit C.1.1 C.1.2.1 C.1.2.2.2.1 (C.1.2.2.2.2 _ wlX4_3) (C.1.2.2.2.2 _ wOi) (C.1.2.2.2.2 _ wOc) rfl (by rw [C.1.2.2.1]; exact hl.1) rfl dX4_init_1 (Nat.le_of_ble_eq_true rfl) (Nat.le_of_ble_eq_true rfl) ?_
  refine W.eq (g2 := F0 m 4 ls []) rfl ?_
  refine lv_aload_n C.1.1 C.1.2.1 dX4_init_4 rfl (lv_at hl 0 rfl) ?_
  refine lv_iconst (v := 0) C.1.1 C.1.2.1 dX4_init_5 (by decide) ?_
  refine zPut (ty := .int) ([(h0, .inr (4, [.int (0 : Int32), .int 0, .int 0, .int 0, .null, .null, .null, .null, .null, .null, .null, .null, .null]))]) C.1 wuX4 tyX4 tyX4_ok nmX4 hK hP hD hS 0 rfl rfl 0 (by decide) wfX4_9 rfl rfl (by decide +kernel) (by decide +kernel) (by decide +kernel) (Nat.le_of_ble_eq_true rfl) dX4_init_6 rfl (fun H locs hP hD hS => ?_)
  refine lv_aload_n C.1.1 C.1.2.1 dX4_init_9 rfl (lv_at hl 0 rfl) ?_
  refine lv_iconst (v := 0) C.1.1 C.1.2.1 dX4_init_10 (by decide) ?_
  refine zPut (ty := .int) ([(h0, .inr (4, [.int (0 : Int32), .int (0 : Int32), .int 0, .int 0, .null, .null, .null, .null, .null, .null, .null, .null, .null]))]) C.1 wuX4 tyX4 tyX4_ok nmX4 hK hP hD hS 0 rfl rfl 1 (by decide) wfX4_15 rfl rfl (by decide +kernel) (by decide +kernel) (by decide +kernel) (Nat.le_of_ble_eq_true rfl) dX4_init_11 rfl (fun H locs hP hD hS => ?_)
  refine lv_aload_n C.1.1 C.1.2.1 dX4_init_14 rfl (lv_at hl 0 rfl) ?_
  refine lv_iconst (v := 0) C.1.1 C.1.2.1 dX4_init_15 (by decide) ?_
  refine zPut (ty := .int) ([(h0, .inr (4, [.int (0 : Int32), .int (0 : Int32), .int (0 : Int32), .int 0, .null, .null, .null, .null, .null, .null, .null, .null, .null]))]) C.1 wuX4 tyX4 tyX4_ok nmX4 hK hP hD hS 0 rfl rfl 2 (by decide) wfX4_18 rfl rfl (by decide +kernel) (by decide +kernel) (by decide +kernel) (Nat.le_of_ble_eq_true rfl) dX4_init_16 rfl (fun H locs hP hD hS => ?_)
  refine lv_aload_n C.1.1 C.1.2.1 dX4_init_19 rfl (lv_at hl 0 rfl) ?_
  refine lv_iconst (v := 0) C.1.1 C.1.2.1 dX4_init_20 (by decide) ?_
  refine zPut (ty := .int) ([(h0, .inr (4, [.int (0 : Int32), .int (0 : Int32), .int (0 : Int32), .int (0 : Int32), .null, .null, .null, .null, .null, .null, .null, .null, .null]))]) C.1 wuX4 tyX4 tyX4_ok nmX4 hK hP hD hS 0 rfl rfl 3 (by decide) wfX4_21 rfl rfl (by decide +kernel) (by decide +kernel) (by decide +kernel) (Nat.le_of_ble_eq_true rfl) dX4_init_21 rfl (fun H locs hP hD hS => ?_)
  refine lv_aload_n C.1.1 C.1.2.1 dX4_init_24 rfl (lv_at hl 0 rfl) ?_
  refine lv_bipush (v := 96) C.1.1 C.1.2.1 dX4_init_25 (by decide) ?_
  refine zNewI 96 C.1 hK hP hD hS hA 0 rfl (by decide) (by decide) (by decide) (Nat.le_of_ble_eq_true rfl) (Nat.le_of_ble_eq_true rfl) dX4_init_27 wAI (fun q1 H hP hD hS => ?_)
  have hP : va_P (dC, dI) vwCl ([(h0, .inr (4, [.int (0 : Int32), .int (0 : Int32), .int (0 : Int32), .int (0 : Int32), .null, .null, .null, .null, .null, .null, .null, .null, .null])), (q1, .inl (cI, 96, .inl (fun _ => 0)))]) H := hP
  have hD : va_D A ([(h0, .inr (4, [.int (0 : Int32), .int (0 : Int32), .int (0 : Int32), .int (0 : Int32), .null, .null, .null, .null, .null, .null, .null, .null, .null])), (q1, .inl (cI, 96, .inl (fun _ => 0)))]) := hD
  refine W.widen (k := 1) (n := 96) (Nat.le_refl _) (Nat.le_refl _) ?_
  refine zPutF (ty := (.array .int)) ([(h0, .inr (4, [.int (0 : Int32), .int (0 : Int32), .int (0 : Int32), .int (0 : Int32), .ref q1, .null, .null, .null, .null, .null, .null, .null, .null])), (q1, .inl (cI, 96, .inl (fun _ => 0)))]) C.1 hin wuX4 tyX4 tyX4_ok nmX4 hK hP hD hS 0 rfl rfl 4 (by decide) wfX4_24 rfl rfl rfl (by decide +kernel) rfl rfl (Nat.le_of_ble_eq_true rfl) dX4_init_29 rfl (fun H locs hP hD hS => ?_)
  refine lv_aload_n C.1.1 C.1.2.1 dX4_init_32 rfl (lv_at hl 0 rfl) ?_
  refine lv_bipush (v := 12) C.1.1 C.1.2.1 dX4_init_33 (by decide) ?_
  refine zNewI 12 C.1 hK hP hD hS hA 0 rfl (by decide) (by decide) (by decide) (Nat.le_of_ble_eq_true rfl) (Nat.le_of_ble_eq_true rfl) dX4_init_35 wAI (fun q2 H hP hD hS => ?_)
  have hP : va_P (dC, dI) vwCl ([(h0, .inr (4, [.int (0 : Int32), .int (0 : Int32), .int (0 : Int32), .int (0 : Int32), .ref q1, .null, .null, .null, .null, .null, .null, .null, .null])), (q1, .inl (cI, 96, .inl (fun _ => 0))), (q2, .inl (cI, 12, .inl (fun _ => 0)))]) H := hP
  have hD : va_D A ([(h0, .inr (4, [.int (0 : Int32), .int (0 : Int32), .int (0 : Int32), .int (0 : Int32), .ref q1, .null, .null, .null, .null, .null, .null, .null, .null])), (q1, .inl (cI, 96, .inl (fun _ => 0))), (q2, .inl (cI, 12, .inl (fun _ => 0)))]) := hD
  refine W.widen (k := 2) (n := 108) (Nat.le_refl _) (Nat.le_refl _) ?_
  refine zPutF (ty := (.array .int)) ([(h0, .inr (4, [.int (0 : Int32), .int (0 : Int32), .int (0 : Int32), .int (0 : Int32), .ref q1, .ref q2, .null, .null, .null, .null, .null, .null, .null])), (q1, .inl (cI, 96, .inl (fun _ => 0))), (q2, .inl (cI, 12, .inl (fun _ => 0)))]) C.1 hin wuX4 tyX4 tyX4_ok nmX4 hK hP hD hS 0 rfl rfl 5 (by decide) wfX4_28 rfl rfl rfl (by decide +kernel) rfl rfl (Nat.le_of_ble_eq_true rfl) dX4_init_37 rfl (fun H locs hP hD hS => ?_)
  refine lv_aload_n C.1.1 C.1.2.1 dX4_init_40 rfl (lv_at hl 0 rfl) ?_
  refine lv_bipush (v := 12) C.1.1 C.1.2.1 dX4_init_41 (by decide) ?_
  refine zNewI 12 C.1 hK hP hD hS hA 0 rfl (by decide) (by decide) (by decide) (Nat.le_of_ble_eq_true rfl) (Nat.le_of_ble_eq_true rfl) dX4_init_43 wAI (fun q3 H hP hD hS => ?_)
  have hP : va_P (dC, dI) vwCl ([(h0, .inr (4, [.int (0 : Int32), .int (0 : Int32), .int (0 : Int32), .int (0 : Int32), .ref q1, .ref q2, .null, .null, .null, .null, .null, .null, .null])), (q1, .inl (cI, 96, .inl (fun _ => 0))), (q2, .inl (cI, 12, .inl (fun _ => 0))), (q3, .inl (cI, 12, .inl (fun _ => 0)))]) H := hP
  have hD : va_D A ([(h0, .inr (4, [.int (0 : Int32), .int (0 : Int32), .int (0 : Int32), .int (0 : Int32), .ref q1, .ref q2, .null, .null, .null, .null, .null, .null, .null])), (q1, .inl (cI, 96, .inl (fun _ => 0))), (q2, .inl (cI, 12, .inl (fun _ => 0))), (q3, .inl (cI, 12, .inl (fun _ => 0)))]) := hD
  refine W.widen (k := 3) (n := 120) (Nat.le_refl _) (Nat.le_refl _) ?_
  refine zPutF (ty := (.array .int)) ([(h0, .inr (4, [.int (0 : Int32), .int (0 : Int32), .int (0 : Int32), .int (0 : Int32), .ref q1, .ref q2, .ref q3, .null, .null, .null, .null, .null, .null])), (q1, .inl (cI, 96, .inl (fun _ => 0))), (q2, .inl (cI, 12, .inl (fun _ => 0))), (q3, .inl (cI, 12, .inl (fun _ => 0)))]) C.1 hin wuX4 tyX4 tyX4_ok nmX4 hK hP hD hS 0 rfl rfl 6 (by decide) wfX4_31 rfl rfl rfl (by decide +kernel) rfl rfl (Nat.le_of_ble_eq_true rfl) dX4_init_45 rfl (fun H locs hP hD hS => ?_)
  refine lv_aload_n C.1.1 C.1.2.1 dX4_init_48 rfl (lv_at hl 0 rfl) ?_
  refine lv_bipush (v := 13) C.1.1 C.1.2.1 dX4_init_49 (by decide) ?_
  refine zNewI 13 C.1 hK hP hD hS hA 0 rfl (by decide) (by decide) (by decide) (Nat.le_of_ble_eq_true rfl) (Nat.le_of_ble_eq_true rfl) dX4_init_51 wAI (fun q4 H hP hD hS => ?_)
  have hP : va_P (dC, dI) vwCl ([(h0, .inr (4, [.int (0 : Int32), .int (0 : Int32), .int (0 : Int32), .int (0 : Int32), .ref q1, .ref q2, .ref q3, .null, .null, .null, .null, .null, .null])), (q1, .inl (cI, 96, .inl (fun _ => 0))), (q2, .inl (cI, 12, .inl (fun _ => 0))), (q3, .inl (cI, 12, .inl (fun _ => 0))), (q4, .inl (cI, 13, .inl (fun _ => 0)))]) H := hP
  have hD : va_D A ([(h0, .inr (4, [.int (0 : Int32), .int (0 : Int32), .int (0 : Int32), .int (0 : Int32), .ref q1, .ref q2, .ref q3, .null, .null, .null, .null, .null, .null])), (q1, .inl (cI, 96, .inl (fun _ => 0))), (q2, .inl (cI, 12, .inl (fun _ => 0))), (q3, .inl (cI, 12, .inl (fun _ => 0))), (q4, .inl (cI, 13, .inl (fun _ => 0)))]) := hD
  refine W.widen (k := 4) (n := 133) (Nat.le_refl _) (Nat.le_refl _) ?_
  refine zPutF (ty := (.array .int)) ([(h0, .inr (4, [.int (0 : Int32), .int (0 : Int32), .int (0 : Int32), .int (0 : Int32), .ref q1, .ref q2, .ref q3, .ref q4, .null, .null, .null, .null, .null])), (q1, .inl (cI, 96, .inl (fun _ => 0))), (q2, .inl (cI, 12, .inl (fun _ => 0))), (q3, .inl (cI, 12, .inl (fun _ => 0))), (q4, .inl (cI, 13, .inl (fun _ => 0)))]) C.1 hin wuX4 tyX4 tyX4_ok nmX4 hK hP hD hS 0 rfl rfl 7 (by decide) wfX4_34 rfl rfl rfl (by decide +kernel) rfl rfl (Nat.le_of_ble_eq_true rfl) dX4_init_53 rfl (fun H locs hP hD hS => ?_)
  refine lv_aload_n C.1.1 C.1.2.1 dX4_init_56 rfl (lv_at hl 0 rfl) ?_
  refine lv_bipush (v := 96) C.1.1 C.1.2.1 dX4_init_57 (by decide) ?_
  refine zNewI 96 C.1 hK hP hD hS hA 0 rfl (by decide) (by decide) (by decide) (Nat.le_of_ble_eq_true rfl) (Nat.le_of_ble_eq_true rfl) dX4_init_59 wAI (fun q5 H hP hD hS => ?_)
  have hP : va_P (dC, dI) vwCl ([(h0, .inr (4, [.int (0 : Int32), .int (0 : Int32), .int (0 : Int32), .int (0 : Int32), .ref q1, .ref q2, .ref q3, .ref q4, .null, .null, .null, .null, .null])), (q1, .inl (cI, 96, .inl (fun _ => 0))), (q2, .inl (cI, 12, .inl (fun _ => 0))), (q3, .inl (cI, 12, .inl (fun _ => 0))), (q4, .inl (cI, 13, .inl (fun _ => 0))), (q5, .inl (cI, 96, .inl (fun _ => 0)))]) H := hP
  have hD : va_D A ([(h0, .inr (4, [.int (0 : Int32), .int (0 : Int32), .int (0 : Int32), .int (0 : Int32), .ref q1, .ref q2, .ref q3, .ref q4, .null, .null, .null, .null, .null])), (q1, .inl (cI, 96, .inl (fun _ => 0))), (q2, .inl (cI, 12, .inl (fun _ => 0))), (q3, .inl (cI, 12, .inl (fun _ => 0))), (q4, .inl (cI, 13, .inl (fun _ => 0))), (q5, .inl (cI, 96, .inl (fun _ => 0)))]) := hD
  refine W.widen (k := 5) (n := 229) (Nat.le_refl _) (Nat.le_refl _) ?_
  refine zPutF (ty := (.array .int)) ([(h0, .inr (4, [.int (0 : Int32), .int (0 : Int32), .int (0 : Int32), .int (0 : Int32), .ref q1, .ref q2, .ref q3, .ref q4, .ref q5, .null, .null, .null, .null])), (q1, .inl (cI, 96, .inl (fun _ => 0))), (q2, .inl (cI, 12, .inl (fun _ => 0))), (q3, .inl (cI, 12, .inl (fun _ => 0))), (q4, .inl (cI, 13, .inl (fun _ => 0))), (q5, .inl (cI, 96, .inl (fun _ => 0)))]) C.1 hin wuX4 tyX4 tyX4_ok nmX4 hK hP hD hS 0 rfl rfl 8 (by decide) wfX4_37 rfl rfl rfl (by decide +kernel) rfl rfl (Nat.le_of_ble_eq_true rfl) dX4_init_61 rfl (fun H locs hP hD hS => ?_)
  refine lv_aload_n C.1.1 C.1.2.1 dX4_init_64 rfl (lv_at hl 0 rfl) ?_
  refine lv_bipush (v := 96) C.1.1 C.1.2.1 dX4_init_65 (by decide) ?_
  refine zNewI 96 C.1 hK hP hD hS hA 0 rfl (by decide) (by decide) (by decide) (Nat.le_of_ble_eq_true rfl) (Nat.le_of_ble_eq_true rfl) dX4_init_67 wAI (fun q6 H hP hD hS => ?_)
  have hP : va_P (dC, dI) vwCl ([(h0, .inr (4, [.int (0 : Int32), .int (0 : Int32), .int (0 : Int32), .int (0 : Int32), .ref q1, .ref q2, .ref q3, .ref q4, .ref q5, .null, .null, .null, .null])), (q1, .inl (cI, 96, .inl (fun _ => 0))), (q2, .inl (cI, 12, .inl (fun _ => 0))), (q3, .inl (cI, 12, .inl (fun _ => 0))), (q4, .inl (cI, 13, .inl (fun _ => 0))), (q5, .inl (cI, 96, .inl (fun _ => 0))), (q6, .inl (cI, 96, .inl (fun _ => 0)))]) H := hP
  have hD : va_D A ([(h0, .inr (4, [.int (0 : Int32), .int (0 : Int32), .int (0 : Int32), .int (0 : Int32), .ref q1, .ref q2, .ref q3, .ref q4, .ref q5, .null, .null, .null, .null])), (q1, .inl (cI, 96, .inl (fun _ => 0))), (q2, .inl (cI, 12, .inl (fun _ => 0))), (q3, .inl (cI, 12, .inl (fun _ => 0))), (q4, .inl (cI, 13, .inl (fun _ => 0))), (q5, .inl (cI, 96, .inl (fun _ => 0))), (q6, .inl (cI, 96, .inl (fun _ => 0)))]) := hD
  refine W.widen (k := 6) (n := 325) (Nat.le_refl _) (Nat.le_refl _) ?_
  refine zPutF (ty := (.array .int)) ([(h0, .inr (4, [.int (0 : Int32), .int (0 : Int32), .int (0 : Int32), .int (0 : Int32), .ref q1, .ref q2, .ref q3, .ref q4, .ref q5, .ref q6, .null, .null, .null])), (q1, .inl (cI, 96, .inl (fun _ => 0))), (q2, .inl (cI, 12, .inl (fun _ => 0))), (q3, .inl (cI, 12, .inl (fun _ => 0))), (q4, .inl (cI, 13, .inl (fun _ => 0))), (q5, .inl (cI, 96, .inl (fun _ => 0))), (q6, .inl (cI, 96, .inl (fun _ => 0)))]) C.1 hin wuX4 tyX4 tyX4_ok nmX4 hK hP hD hS 0 rfl rfl 9 (by decide) wfX4_40 rfl rfl rfl (by decide +kernel) rfl rfl (Nat.le_of_ble_eq_true rfl) dX4_init_69 rfl (fun H locs hP hD hS => ?_)
  refine lv_aload_n C.1.1 C.1.2.1 dX4_init_72 rfl (lv_at hl 0 rfl) ?_
  refine lv_bipush (v := 97) C.1.1 C.1.2.1 dX4_init_73 (by decide) ?_
  refine zNewI 97 C.1 hK hP hD hS hA 0 rfl (by decide) (by decide) (by decide) (Nat.le_of_ble_eq_true rfl) (Nat.le_of_ble_eq_true rfl) dX4_init_75 wAI (fun q7 H hP hD hS => ?_)
  have hP : va_P (dC, dI) vwCl ([(h0, .inr (4, [.int (0 : Int32), .int (0 : Int32), .int (0 : Int32), .int (0 : Int32), .ref q1, .ref q2, .ref q3, .ref q4, .ref q5, .ref q6, .null, .null, .null])), (q1, .inl (cI, 96, .inl (fun _ => 0))), (q2, .inl (cI, 12, .inl (fun _ => 0))), (q3, .inl (cI, 12, .inl (fun _ => 0))), (q4, .inl (cI, 13, .inl (fun _ => 0))), (q5, .inl (cI, 96, .inl (fun _ => 0))), (q6, .inl (cI, 96, .inl (fun _ => 0))), (q7, .inl (cI, 97, .inl (fun _ => 0)))]) H := hP
  have hD : va_D A ([(h0, .inr (4, [.int (0 : Int32), .int (0 : Int32), .int (0 : Int32), .int (0 : Int32), .ref q1, .ref q2, .ref q3, .ref q4, .ref q5, .ref q6, .null, .null, .null])), (q1, .inl (cI, 96, .inl (fun _ => 0))), (q2, .inl (cI, 12, .inl (fun _ => 0))), (q3, .inl (cI, 12, .inl (fun _ => 0))), (q4, .inl (cI, 13, .inl (fun _ => 0))), (q5, .inl (cI, 96, .inl (fun _ => 0))), (q6, .inl (cI, 96, .inl (fun _ => 0))), (q7, .inl (cI, 97, .inl (fun _ => 0)))]) := hD
  refine W.widen (k := 7) (n := 422) (Nat.le_refl _) (Nat.le_refl _) ?_
  refine zPutF (ty := (.array .int)) ([(h0, .inr (4, [.int (0 : Int32), .int (0 : Int32), .int (0 : Int32), .int (0 : Int32), .ref q1, .ref q2, .ref q3, .ref q4, .ref q5, .ref q6, .ref q7, .null, .null])), (q1, .inl (cI, 96, .inl (fun _ => 0))), (q2, .inl (cI, 12, .inl (fun _ => 0))), (q3, .inl (cI, 12, .inl (fun _ => 0))), (q4, .inl (cI, 13, .inl (fun _ => 0))), (q5, .inl (cI, 96, .inl (fun _ => 0))), (q6, .inl (cI, 96, .inl (fun _ => 0))), (q7, .inl (cI, 97, .inl (fun _ => 0)))]) C.1 hin wuX4 tyX4 tyX4_ok nmX4 hK hP hD hS 0 rfl rfl 10 (by decide) wfX4_43 rfl rfl rfl (by decide +kernel) rfl rfl (Nat.le_of_ble_eq_true rfl) dX4_init_77 rfl (fun H locs hP hD hS => ?_)
  refine lv_aload_n C.1.1 C.1.2.1 dX4_init_80 rfl (lv_at hl 0 rfl) ?_
  refine lv_sipush (v := 600) C.1.1 C.1.2.1 dX4_init_81 (by decide) ?_
  refine zNewI 600 C.1 hK hP hD hS hA 0 rfl (by decide) (by decide) (by decide) (Nat.le_of_ble_eq_true rfl) (Nat.le_of_ble_eq_true rfl) dX4_init_84 wAI (fun q8 H hP hD hS => ?_)
  have hP : va_P (dC, dI) vwCl ([(h0, .inr (4, [.int (0 : Int32), .int (0 : Int32), .int (0 : Int32), .int (0 : Int32), .ref q1, .ref q2, .ref q3, .ref q4, .ref q5, .ref q6, .ref q7, .null, .null])), (q1, .inl (cI, 96, .inl (fun _ => 0))), (q2, .inl (cI, 12, .inl (fun _ => 0))), (q3, .inl (cI, 12, .inl (fun _ => 0))), (q4, .inl (cI, 13, .inl (fun _ => 0))), (q5, .inl (cI, 96, .inl (fun _ => 0))), (q6, .inl (cI, 96, .inl (fun _ => 0))), (q7, .inl (cI, 97, .inl (fun _ => 0))), (q8, .inl (cI, 600, .inl (fun _ => 0)))]) H := hP
  have hD : va_D A ([(h0, .inr (4, [.int (0 : Int32), .int (0 : Int32), .int (0 : Int32), .int (0 : Int32), .ref q1, .ref q2, .ref q3, .ref q4, .ref q5, .ref q6, .ref q7, .null, .null])), (q1, .inl (cI, 96, .inl (fun _ => 0))), (q2, .inl (cI, 12, .inl (fun _ => 0))), (q3, .inl (cI, 12, .inl (fun _ => 0))), (q4, .inl (cI, 13, .inl (fun _ => 0))), (q5, .inl (cI, 96, .inl (fun _ => 0))), (q6, .inl (cI, 96, .inl (fun _ => 0))), (q7, .inl (cI, 97, .inl (fun _ => 0))), (q8, .inl (cI, 600, .inl (fun _ => 0)))]) := hD
  refine W.widen (k := 8) (n := 1022) (Nat.le_refl _) (Nat.le_refl _) ?_
  refine zPutF (ty := (.array .int)) ([(h0, .inr (4, [.int (0 : Int32), .int (0 : Int32), .int (0 : Int32), .int (0 : Int32), .ref q1, .ref q2, .ref q3, .ref q4, .ref q5, .ref q6, .ref q7, .ref q8, .null])), (q1, .inl (cI, 96, .inl (fun _ => 0))), (q2, .inl (cI, 12, .inl (fun _ => 0))), (q3, .inl (cI, 12, .inl (fun _ => 0))), (q4, .inl (cI, 13, .inl (fun _ => 0))), (q5, .inl (cI, 96, .inl (fun _ => 0))), (q6, .inl (cI, 96, .inl (fun _ => 0))), (q7, .inl (cI, 97, .inl (fun _ => 0))), (q8, .inl (cI, 600, .inl (fun _ => 0)))]) C.1 hin wuX4 tyX4 tyX4_ok nmX4 hK hP hD hS 0 rfl rfl 11 (by decide) wfX4_46 rfl rfl rfl (by decide +kernel) rfl rfl (Nat.le_of_ble_eq_true rfl) dX4_init_86 rfl (fun H locs hP hD hS => ?_)
  refine lv_aload_n C.1.1 C.1.2.1 dX4_init_89 rfl (lv_at hl 0 rfl) ?_
  refine lv_sipush (v := 600) C.1.1 C.1.2.1 dX4_init_90 (by decide) ?_
  refine zNewI 600 C.1 hK hP hD hS hA 0 rfl (by decide) (by decide) (by decide) (Nat.le_of_ble_eq_true rfl) (Nat.le_of_ble_eq_true rfl) dX4_init_93 wAI (fun q9 H hP hD hS => ?_)
  have hP : va_P (dC, dI) vwCl ([(h0, .inr (4, [.int (0 : Int32), .int (0 : Int32), .int (0 : Int32), .int (0 : Int32), .ref q1, .ref q2, .ref q3, .ref q4, .ref q5, .ref q6, .ref q7, .ref q8, .null])), (q1, .inl (cI, 96, .inl (fun _ => 0))), (q2, .inl (cI, 12, .inl (fun _ => 0))), (q3, .inl (cI, 12, .inl (fun _ => 0))), (q4, .inl (cI, 13, .inl (fun _ => 0))), (q5, .inl (cI, 96, .inl (fun _ => 0))), (q6, .inl (cI, 96, .inl (fun _ => 0))), (q7, .inl (cI, 97, .inl (fun _ => 0))), (q8, .inl (cI, 600, .inl (fun _ => 0))), (q9, .inl (cI, 600, .inl (fun _ => 0)))]) H := hP
  have hD : va_D A ([(h0, .inr (4, [.int (0 : Int32), .int (0 : Int32), .int (0 : Int32), .int (0 : Int32), .ref q1, .ref q2, .ref q3, .ref q4, .ref q5, .ref q6, .ref q7, .ref q8, .null])), (q1, .inl (cI, 96, .inl (fun _ => 0))), (q2, .inl (cI, 12, .inl (fun _ => 0))), (q3, .inl (cI, 12, .inl (fun _ => 0))), (q4, .inl (cI, 13, .inl (fun _ => 0))), (q5, .inl (cI, 96, .inl (fun _ => 0))), (q6, .inl (cI, 96, .inl (fun _ => 0))), (q7, .inl (cI, 97, .inl (fun _ => 0))), (q8, .inl (cI, 600, .inl (fun _ => 0))), (q9, .inl (cI, 600, .inl (fun _ => 0)))]) := hD
  refine W.widen (k := 9) (n := 1622) (Nat.le_refl _) (Nat.le_refl _) ?_
  refine zPutF (ty := (.array .int)) ([(h0, .inr (4, [.int (0 : Int32), .int (0 : Int32), .int (0 : Int32), .int (0 : Int32), .ref q1, .ref q2, .ref q3, .ref q4, .ref q5, .ref q6, .ref q7, .ref q8, .ref q9])), (q1, .inl (cI, 96, .inl (fun _ => 0))), (q2, .inl (cI, 12, .inl (fun _ => 0))), (q3, .inl (cI, 12, .inl (fun _ => 0))), (q4, .inl (cI, 13, .inl (fun _ => 0))), (q5, .inl (cI, 96, .inl (fun _ => 0))), (q6, .inl (cI, 96, .inl (fun _ => 0))), (q7, .inl (cI, 97, .inl (fun _ => 0))), (q8, .inl (cI, 600, .inl (fun _ => 0))), (q9, .inl (cI, 600, .inl (fun _ => 0)))]) C.1 hin wuX4 tyX4 tyX4_ok nmX4 hK hP hD hS 0 rfl rfl 12 (by decide) wfX4_49 rfl rfl rfl (by decide +kernel) rfl rfl (Nat.le_of_ble_eq_true rfl) dX4_init_95 rfl (fun H locs hP hD hS => ?_)
  rw [← hQ]
  exact zRc (ad := (zsel [zl [h0, q1, q2, q3, q4, q5, q6, q7, q8, q9]])) C rfl hK (hP.sub (ws' := (kX4 cI cB ((zsel [zl [h0, q1, q2, q3, q4, q5, q6, q7, q8, q9]]) 0) iX4)) [0, 1, 2, 3, 4, 5, 6, 7, 8, 9] rfl) (hD.sub (ws' := (kX4 cI cB ((zsel [zl [h0, q1, q2, q3, q4, q5, q6, q7, q8, q9]]) 0) iX4)) [0, 1, 2, 3, 4, 5, 6, 7, 8, 9] (by decide +kernel) rfl) hS dX4_init_98
def iX0 : Rc := fun k _ => 0
theorem zdX0 : ∀ j, j < 11 → defaultValue (tyX0 j) = vp_V [.null, .int 0, .int 0, .int 0, .int 0, .int 0, .null, .int 0, .null, .null, .null] j := by
  intro j hj
  match j, hj with
  | 0, _ => rfl
  | 1, _ => rfl
  | 2, _ => rfl
  | 3, _ => rfl
  | 4, _ => rfl
  | 5, _ => rfl
  | 6, _ => rfl
  | 7, _ => rfl
  | 8, _ => rfl
  | 9, _ => rfl
  | 10, _ => rfl
  | k + 11, h => exact absurd h (by omega)
abbrev rX0_init : Room := { frames := 1, cells := 5, slots := 16397, locals := 12 }
set_option maxHeartbeats 4000000 in
set_option maxRecDepth 100000 in
theorem mtX0_init (l : Launch) (dC : Nat → ClassId) (dI : Nat → Nat → Nat) (cI cB : ClassId) (h0 : Nat) (sz : Nat) : zMc l yX0_init (Cond.code yX0_init cX0_init 1 none :: lw_g) rX0_init (dC, dI) [(cI, .int), (cB, .byte)] h0 sz [(h0, .inr (0, [.null, .int 0, .int 0, .int 0, .int 0, .int 0, .null, .int 0, .null, .null, .null]))] (fun ad => (kX0 cI cB (ad 0) iX0)) 5 16397 := by
  refine zStC (cc := cX0_init) (maxL := 1) (ret := none) (own := RX0) (fun A => zCq (dC, dI) [(cI, .int), (cB, .byte)] A h0 (fun ad => (kX0 cI cB (ad 0) iX0))) (by decide) rfl rfl rfl (Nat.le_of_ble_eq_true rfl) ?_
  intro p e s m below meth c ls A H locs C hin hK hA hP hD hS hl
  generalize hQ : MQ below (zCq (dC, dI) [(cI, .int), (cB, .byte)] A h0 (fun ad => (kX0 cI cB (ad 0) iX0))) _ s 5 16397 A = QQ
  generalize ([.ref h0] : List Value).toArray = args at C hQ ⊢
  have hl : lv_has ls 1 [(0, .ref h0)] := hl
  refine lv_aload_n C.1.1 C.1.2.1 dX0_init_0 rfl (lv_at hl 0 rfl) ?_
  refine W.objInit C.1.1 C.1.2.1 C.1.2.2.2.1 (C.1.2.2.2.2 _ wlX0_5) (C.1.2.2.2.2 _ wOi) (C.1.2.2.2.2 _ wOc) rfl (by rw [C.1.2.2.1]; exact hl.1) rfl dX0_init_1 (Nat.le_of_ble_eq_true rfl) (Nat.le_of_ble_eq_true rfl) ?_
  refine W.eq (g2 := F0 m 4 ls []) rfl ?_
  refine lv_aload_n C.1.1 C.1.2.1 dX0_init_4 rfl (lv_at hl 0 rfl) ?_
  refine lv_bipush (v := 13) C.1.1 C.1.2.1 dX0_init_5 (by decide) ?_
  refine zNewI 13 C.1 hK hP hD hS hA 0 rfl (by decide) (by decide) (by decide) (Nat.le_of_ble_eq_true rfl) (Nat.le_of_ble_eq_true rfl) dX0_init_7 wAI (fun q1 H hP hD hS => ?_)
  have hP : va_P (dC, dI) vwCl ([(h0, .inr (0, [.null, .int 0, .int 0, .int 0, .int 0, .int 0, .null, .int 0, .null, .null, .null])), (q1, .inl (cI, 13, .inl (fun _ => 0)))]) H := hP
  have hD : va_D A ([(h0, .inr (0, [.null, .int 0, .int 0, .int 0, .int 0, .int 0, .null, .int 0, .null, .null, .null])), (q1, .inl (cI, 13, .inl (fun _ => 0)))]) := hD
  refine W.widen (k := 1) (n := 13) (Nat.le_refl _) (Nat.le_refl _) ?_
  refine zPutF (ty := (.array .int)) ([(h0, .inr (0, [.ref q1, .int 0, .int 0, .int 0, .int 0, .int 0, .null, .int 0, .null, .null, .null])), (q1, .inl (cI, 13, .inl (fun _ => 0)))]) C.1 hin wuX0 tyX0 tyX0_ok nmX0 hK hP hD hS 0 rfl rfl 0 (by decide) wfX0_11 rfl rfl rfl (by decide +kernel) rfl rfl (Nat.le_of_ble_eq_true rfl) dX0_init_9 rfl (fun H locs hP hD hS => ?_)
  refine lv_aload_n C.1.1 C.1.2.1 dX0_init_12 rfl (lv_at hl 0 rfl) ?_
  refine lv_iconst (v := 0) C.1.1 C.1.2.1 dX0_init_13 (by decide) ?_
  refine zPut (ty := .int) ([(h0, .inr (0, [.ref q1, .int (0 : Int32), .int 0, .int 0, .int 0, .int 0, .null, .int 0, .null, .null, .null])), (q1, .inl (cI, 13, .inl (fun _ => 0)))]) C.1 wuX0 tyX0 tyX0_ok nmX0 hK hP hD hS 0 rfl rfl 1 (by decide) wfX0_15 rfl rfl (by decide +kernel) (by decide +kernel) (by decide +kernel) (Nat.le_of_ble_eq_true rfl) dX0_init_14 rfl (fun H locs hP hD hS => ?_)
  refine lv_aload_n C.1.1 C.1.2.1 dX0_init_17 rfl (lv_at hl 0 rfl) ?_
  refine lv_iconst (v := 0) C.1.1 C.1.2.1 dX0_init_18 (by decide) ?_
  refine zPut (ty := .int) ([(h0, .inr (0, [.ref q1, .int (0 : Int32), .int (0 : Int32), .int 0, .int 0, .int 0, .null, .int 0, .null, .null, .null])), (q1, .inl (cI, 13, .inl (fun _ => 0)))]) C.1 wuX0 tyX0 tyX0_ok nmX0 hK hP hD hS 0 rfl rfl 2 (by decide) wfX0_19 rfl rfl (by decide +kernel) (by decide +kernel) (by decide +kernel) (Nat.le_of_ble_eq_true rfl) dX0_init_19 rfl (fun H locs hP hD hS => ?_)
  refine lv_aload_n C.1.1 C.1.2.1 dX0_init_22 rfl (lv_at hl 0 rfl) ?_
  refine lv_iconst (v := 0) C.1.1 C.1.2.1 dX0_init_23 (by decide) ?_
  refine zPut (ty := .int) ([(h0, .inr (0, [.ref q1, .int (0 : Int32), .int (0 : Int32), .int (0 : Int32), .int 0, .int 0, .null, .int 0, .null, .null, .null])), (q1, .inl (cI, 13, .inl (fun _ => 0)))]) C.1 wuX0 tyX0 tyX0_ok nmX0 hK hP hD hS 0 rfl rfl 3 (by decide) wfX0_22 rfl rfl (by decide +kernel) (by decide +kernel) (by decide +kernel) (Nat.le_of_ble_eq_true rfl) dX0_init_24 rfl (fun H locs hP hD hS => ?_)
  refine lv_aload_n C.1.1 C.1.2.1 dX0_init_27 rfl (lv_at hl 0 rfl) ?_
  refine lv_iconst (v := 0) C.1.1 C.1.2.1 dX0_init_28 (by decide) ?_
  refine zPut (ty := .int) ([(h0, .inr (0, [.ref q1, .int (0 : Int32), .int (0 : Int32), .int (0 : Int32), .int (0 : Int32), .int 0, .null, .int 0, .null, .null, .null])), (q1, .inl (cI, 13, .inl (fun _ => 0)))]) C.1 wuX0 tyX0 tyX0_ok nmX0 hK hP hD hS 0 rfl rfl 4 (by decide) wfX0_25 rfl rfl (by decide +kernel) (by decide +kernel) (by decide +kernel) (Nat.le_of_ble_eq_true rfl) dX0_init_29 rfl (fun H locs hP hD hS => ?_)
  refine lv_aload_n C.1.1 C.1.2.1 dX0_init_32 rfl (lv_at hl 0 rfl) ?_
  refine lv_iconst (v := 0) C.1.1 C.1.2.1 dX0_init_33 (by decide) ?_
  refine zPut (ty := .boolean) ([(h0, .inr (0, [.ref q1, .int (0 : Int32), .int (0 : Int32), .int (0 : Int32), .int (0 : Int32), .int (0 : Int32), .null, .int 0, .null, .null, .null])), (q1, .inl (cI, 13, .inl (fun _ => 0)))]) C.1 wuX0 tyX0 tyX0_ok nmX0 hK hP hD hS 0 rfl rfl 5 (by decide) wfX0_28 rfl rfl (by decide +kernel) (by decide +kernel) (by decide +kernel) (Nat.le_of_ble_eq_true rfl) dX0_init_34 rfl (fun H locs hP hD hS => ?_)
  refine lv_aload_n C.1.1 C.1.2.1 dX0_init_37 rfl (lv_at hl 0 rfl) ?_
  refine lv_sipush (v := 4096) C.1.1 C.1.2.1 dX0_init_38 (by decide) ?_
  refine zNewI 4096 C.1 hK hP hD hS hA 0 rfl (by decide) (by decide) (by decide) (Nat.le_of_ble_eq_true rfl) (Nat.le_of_ble_eq_true rfl) dX0_init_41 wAI (fun q2 H hP hD hS => ?_)
  have hP : va_P (dC, dI) vwCl ([(h0, .inr (0, [.ref q1, .int (0 : Int32), .int (0 : Int32), .int (0 : Int32), .int (0 : Int32), .int (0 : Int32), .null, .int 0, .null, .null, .null])), (q1, .inl (cI, 13, .inl (fun _ => 0))), (q2, .inl (cI, 4096, .inl (fun _ => 0)))]) H := hP
  have hD : va_D A ([(h0, .inr (0, [.ref q1, .int (0 : Int32), .int (0 : Int32), .int (0 : Int32), .int (0 : Int32), .int (0 : Int32), .null, .int 0, .null, .null, .null])), (q1, .inl (cI, 13, .inl (fun _ => 0))), (q2, .inl (cI, 4096, .inl (fun _ => 0)))]) := hD
  refine W.widen (k := 2) (n := 4109) (Nat.le_refl _) (Nat.le_refl _) ?_
  refine zPutF (ty := (.array .int)) ([(h0, .inr (0, [.ref q1, .int (0 : Int32), .int (0 : Int32), .int (0 : Int32), .int (0 : Int32), .int (0 : Int32), .ref q2, .int 0, .null, .null, .null])), (q1, .inl (cI, 13, .inl (fun _ => 0))), (q2, .inl (cI, 4096, .inl (fun _ => 0)))]) C.1 hin wuX0 tyX0 tyX0_ok nmX0 hK hP hD hS 0 rfl rfl 6 (by decide) wfX0_32 rfl rfl rfl (by decide +kernel) rfl rfl (Nat.le_of_ble_eq_true rfl) dX0_init_43 rfl (fun H locs hP hD hS => ?_)
  refine lv_aload_n C.1.1 C.1.2.1 dX0_init_46 rfl (lv_at hl 0 rfl) ?_
  refine lv_iconst (v := 0) C.1.1 C.1.2.1 dX0_init_47 (by decide) ?_
  refine zPut (ty := .int) ([(h0, .inr (0, [.ref q1, .int (0 : Int32), .int (0 : Int32), .int (0 : Int32), .int (0 : Int32), .int (0 : Int32), .ref q2, .int (0 : Int32), .null, .null, .null])), (q1, .inl (cI, 13, .inl (fun _ => 0))), (q2, .inl (cI, 4096, .inl (fun _ => 0)))]) C.1 wuX0 tyX0 tyX0_ok nmX0 hK hP hD hS 0 rfl rfl 7 (by decide) wfX0_35 rfl rfl (by decide +kernel) (by decide +kernel) (by decide +kernel) (Nat.le_of_ble_eq_true rfl) dX0_init_48 rfl (fun H locs hP hD hS => ?_)
  refine lv_aload_n C.1.1 C.1.2.1 dX0_init_51 rfl (lv_at hl 0 rfl) ?_
  refine lv_sipush (v := 4096) C.1.1 C.1.2.1 dX0_init_52 (by decide) ?_
  refine zNewI 4096 C.1 hK hP hD hS hA 0 rfl (by decide) (by decide) (by decide) (Nat.le_of_ble_eq_true rfl) (Nat.le_of_ble_eq_true rfl) dX0_init_55 wAI (fun q3 H hP hD hS => ?_)
  have hP : va_P (dC, dI) vwCl ([(h0, .inr (0, [.ref q1, .int (0 : Int32), .int (0 : Int32), .int (0 : Int32), .int (0 : Int32), .int (0 : Int32), .ref q2, .int (0 : Int32), .null, .null, .null])), (q1, .inl (cI, 13, .inl (fun _ => 0))), (q2, .inl (cI, 4096, .inl (fun _ => 0))), (q3, .inl (cI, 4096, .inl (fun _ => 0)))]) H := hP
  have hD : va_D A ([(h0, .inr (0, [.ref q1, .int (0 : Int32), .int (0 : Int32), .int (0 : Int32), .int (0 : Int32), .int (0 : Int32), .ref q2, .int (0 : Int32), .null, .null, .null])), (q1, .inl (cI, 13, .inl (fun _ => 0))), (q2, .inl (cI, 4096, .inl (fun _ => 0))), (q3, .inl (cI, 4096, .inl (fun _ => 0)))]) := hD
  refine W.widen (k := 3) (n := 8205) (Nat.le_refl _) (Nat.le_refl _) ?_
  refine zPutF (ty := (.array .int)) ([(h0, .inr (0, [.ref q1, .int (0 : Int32), .int (0 : Int32), .int (0 : Int32), .int (0 : Int32), .int (0 : Int32), .ref q2, .int (0 : Int32), .ref q3, .null, .null])), (q1, .inl (cI, 13, .inl (fun _ => 0))), (q2, .inl (cI, 4096, .inl (fun _ => 0))), (q3, .inl (cI, 4096, .inl (fun _ => 0)))]) C.1 hin wuX0 tyX0 tyX0_ok nmX0 hK hP hD hS 0 rfl rfl 8 (by decide) wfX0_38 rfl rfl rfl (by decide +kernel) rfl rfl (Nat.le_of_ble_eq_true rfl) dX0_init_57 rfl (fun H locs hP hD hS => ?_)
  refine lv_aload_n C.1.1 C.1.2.1 dX0_init_60 rfl (lv_at hl 0 rfl) ?_
  refine lv_sipush (v := 4096) C.1.1 C.1.2.1 dX0_init_61 (by decide) ?_
  refine zNewI 4096 C.1 hK hP hD hS hA 0 rfl (by decide) (by decide) (by decide) (Nat.le_of_ble_eq_true rfl) (Nat.le_of_ble_eq_true rfl) dX0_init_64 wAI (fun q4 H hP hD hS => ?_)
  have hP : va_P (dC, dI) vwCl ([(h0, .inr (0, [.ref q1, .int (0 : Int32), .int (0 : Int32), .int (0 : Int32), .int (0 : Int32), .int (0 : Int32), .ref q2, .int (0 : Int32), .ref q3, .null, .null])), (q1, .inl (cI, 13, .inl (fun _ => 0))), (q2, .inl (cI, 4096, .inl (fun _ => 0))), (q3, .inl (cI, 4096, .inl (fun _ => 0))), (q4, .inl (cI, 4096, .inl (fun _ => 0)))]) H := hP
  have hD : va_D A ([(h0, .inr (0, [.ref q1, .int (0 : Int32), .int (0 : Int32), .int (0 : Int32), .int (0 : Int32), .int (0 : Int32), .ref q2, .int (0 : Int32), .ref q3, .null, .null])), (q1, .inl (cI, 13, .inl (fun _ => 0))), (q2, .inl (cI, 4096, .inl (fun _ => 0))), (q3, .inl (cI, 4096, .inl (fun _ => 0))), (q4, .inl (cI, 4096, .inl (fun _ => 0)))]) := hD
  refine W.widen (k := 4) (n := 12301) (Nat.le_refl _) (Nat.le_refl _) ?_
  refine zPutF (ty := (.array .int)) ([(h0, .inr (0, [.ref q1, .int (0 : Int32), .int (0 : Int32), .int (0 : Int32), .int (0 : Int32), .int (0 : Int32), .ref q2, .int (0 : Int32), .ref q3, .ref q4, .null])), (q1, .inl (cI, 13, .inl (fun _ => 0))), (q2, .inl (cI, 4096, .inl (fun _ => 0))), (q3, .inl (cI, 4096, .inl (fun _ => 0))), (q4, .inl (cI, 4096, .inl (fun _ => 0)))]) C.1 hin wuX0 tyX0 tyX0_ok nmX0 hK hP hD hS 0 rfl rfl 9 (by decide) wfX0_41 rfl rfl rfl (by decide +kernel) rfl rfl (Nat.le_of_ble_eq_true rfl) dX0_init_66 rfl (fun H locs hP hD hS => ?_)
  refine lv_aload_n C.1.1 C.1.2.1 dX0_init_69 rfl (lv_at hl 0 rfl) ?_
  refine lv_sipush (v := 4096) C.1.1 C.1.2.1 dX0_init_70 (by decide) ?_
  refine zNewI 4096 C.1 hK hP hD hS hA 0 rfl (by decide) (by decide) (by decide) (Nat.le_of_ble_eq_true rfl) (Nat.le_of_ble_eq_true rfl) dX0_init_73 wAI (fun q5 H hP hD hS => ?_)
  have hP : va_P (dC, dI) vwCl ([(h0, .inr (0, [.ref q1, .int (0 : Int32), .int (0 : Int32), .int (0 : Int32), .int (0 : Int32), .int (0 : Int32), .ref q2, .int (0 : Int32), .ref q3, .ref q4, .null])), (q1, .inl (cI, 13, .inl (fun _ => 0))), (q2, .inl (cI, 4096, .inl (fun _ => 0))), (q3, .inl (cI, 4096, .inl (fun _ => 0))), (q4, .inl (cI, 4096, .inl (fun _ => 0))), (q5, .inl (cI, 4096, .inl (fun _ => 0)))]) H := hP
  have hD : va_D A ([(h0, .inr (0, [.ref q1, .int (0 : Int32), .int (0 : Int32), .int (0 : Int32), .int (0 : Int32), .int (0 : Int32), .ref q2, .int (0 : Int32), .ref q3, .ref q4, .null])), (q1, .inl (cI, 13, .inl (fun _ => 0))), (q2, .inl (cI, 4096, .inl (fun _ => 0))), (q3, .inl (cI, 4096, .inl (fun _ => 0))), (q4, .inl (cI, 4096, .inl (fun _ => 0))), (q5, .inl (cI, 4096, .inl (fun _ => 0)))]) := hD
  refine W.widen (k := 5) (n := 16397) (Nat.le_refl _) (Nat.le_refl _) ?_
  refine zPutF (ty := (.array .int)) ([(h0, .inr (0, [.ref q1, .int (0 : Int32), .int (0 : Int32), .int (0 : Int32), .int (0 : Int32), .int (0 : Int32), .ref q2, .int (0 : Int32), .ref q3, .ref q4, .ref q5])), (q1, .inl (cI, 13, .inl (fun _ => 0))), (q2, .inl (cI, 4096, .inl (fun _ => 0))), (q3, .inl (cI, 4096, .inl (fun _ => 0))), (q4, .inl (cI, 4096, .inl (fun _ => 0))), (q5, .inl (cI, 4096, .inl (fun _ => 0)))]) C.1 hin wuX0 tyX0 tyX0_ok nmX0 hK hP hD hS 0 rfl rfl 10 (by decide) wfX0_44 rfl rfl rfl (by decide +kernel) rfl rfl (Nat.le_of_ble_eq_true rfl) dX0_init_75 rfl (fun H locs hP hD hS => ?_)
  rw [← hQ]
  exact zRc (ad := (zsel [zl [h0, q1, q2, q3, q4, q5]])) C rfl hK (hP.sub (ws' := (kX0 cI cB ((zsel [zl [h0, q1, q2, q3, q4, q5]]) 0) iX0)) [0, 1, 2, 3, 4, 5] rfl) (hD.sub (ws' := (kX0 cI cB ((zsel [zl [h0, q1, q2, q3, q4, q5]]) 0) iX0)) [0, 1, 2, 3, 4, 5] (by decide +kernel) rfl) hS dX0_init_78
def iX8 : Rc := fun k _ => 0
theorem zdX8 : ∀ j, j < 13 → defaultValue (tyX8 j) = vp_V [.int 0, .int 0, .int 0, .null, .null, .null, .null, .null, .null, .null, .null, .null, .null] j := by
  intro j hj
  match j, hj with
  | 0, _ => rfl
  | 1, _ => rfl
  | 2, _ => rfl
  | 3, _ => rfl
  | 4, _ => rfl
  | 5, _ => rfl
  | 6, _ => rfl
  | 7, _ => rfl
  | 8, _ => rfl
  | 9, _ => rfl
  | 10, _ => rfl
  | 11, _ => rfl
  | 12, _ => rfl
  | k + 13, h => exact absurd h (by omega)
abbrev rX8_init : Room := { frames := 1, cells := 10, slots := 1916, locals := 12 }
set_option maxHeartbeats 4000000 in
set_option maxRecDepth 100000 in
theorem mtX8_init (l : Launch) (dC : Nat → ClassId) (dI : Nat → Nat → Nat) (cI cB : ClassId) (h0 : Nat) (sz : Nat) : zMc l yX8_init (Cond.code yX8_init cX8_init 1 none :: lw_g) rX8_init (dC, dI) [(cI, .int), (cB, .byte)] h0 sz [(h0, .inr (8, [.int 0, .int 0, .int 0, .null, .null, .null, .null, .null, .null, .null, .null, .null, .null]))] (fun ad => (kX8 cI cB (ad 0) iX8)) 10 1916 := by
  refine zStC (cc := cX8_init) (maxL := 1) (ret := none) (own := RX8) (fun A => zCq (dC, dI) [(cI, .int), (cB, .byte)] A h0 (fun ad => (kX8 cI cB (ad 0) iX8))) (by decide) rfl rfl rfl (Nat.le_of_ble_eq_true rfl) ?_
  intro p e s m below meth c ls A H locs C hin hK hA hP hD hS hl
  generalize hQ : MQ below (zCq (dC, dI) [(cI, .int), (cB, .byte)] A h0 (fun ad => (kX8 cI cB (ad 0) iX8))) _ s 10 1916 A = QQ
  generalize ([.ref h0] : List Value).toArray = args at C hQ ⊢
  have hl : lv_has ls 1 [(0, .ref h0)] := hl
  refine lv_aload_n C.1.1 C.1.2.1 dX8_init_0 rfl (lv_at hl 0 rfl) ?_
  refine W.objInit C.1.1 C.1.2.1 C.1.2.2.2.1 (C.1.2.2.2.2 _ wlX8_3) (C.1.2.2.2.2 _ wOi) (C.1.2.2.2.2 _ wOc) rfl (by rw [C.1.2.2.1]; exact hl.1) rfl dX8_init_1 (Nat.le_of_ble_eq_true rfl) (Nat.le_of_ble_eq_true rfl) ?_
  refine W.eq (g2 := F0 m 4 ls []) rfl ?_
  refine lv_aload_n C.1.1 C.1.2.1 dX8_init_4 rfl (lv_at hl 0 rfl) ?_
  refine lv_bipush (v := 12) C.1.1 C.1.2.1 dX8_init_5 (by decide) ?_
  refine zNewI 12 C.1 hK hP hD hS hA 0 rfl (by decide) (by decide) (by decide) (Nat.le_of_ble_eq_true rfl) (Nat.le_of_ble_eq_true rfl) dX8_init_7 wAI (fun q1 H hP hD hS => ?_)
  have hP : va_P (dC, dI) vwCl ([(h0, .inr (8, [.int 0, .int 0, .int 0, .null, .null, .null, .null, .null, .null, .null, .null, .null, .null])), (q1, .inl (cI, 12, .inl (fun _ => 0)))]) H := hP
  have hD : va_D A ([(h0, .inr (8, [.int 0, .int 0, .int 0, .null, .null, .null, .null, .null, .null, .null, .null, .null, .null])), (q1, .inl (cI, 12, .inl (fun _ => 0)))]) := hD
  refine W.widen (k := 1) (n := 12) (Nat.le_refl _) (Nat.le_refl _) ?_
  refine zPutF (ty := (.array .int)) ([(h0, .inr (8, [.int 0, .int 0, .int 0, .ref q1, .null, .null, .null, .null, .null, .null, .null, .null, .null])), (q1, .inl (cI, 12, .inl (fun _ => 0)))]) C.1 hin wuX8 tyX8 tyX8_ok nmX8 hK hP hD hS 0 rfl rfl 3 (by decide) wfX8_9 rfl rfl rfl (by decide +kernel) rfl rfl (Nat.le_of_ble_eq_true rfl) dX8_init_9 rfl (fun H locs hP hD hS => ?_)
  refine lv_aload_n C.1.1 C.1.2.1 dX8_init_12 rfl (lv_at hl 0 rfl) ?_
  refine lv_bipush (v := 12) C.1.1 C.1.2.1 dX8_init_13 (by decide) ?_
  refine zNewI 12 C.1 hK hP hD hS hA 0 rfl (by decide) (by decide) (by decide) (Nat.le_of_ble_eq_true rfl) (Nat.le_of_ble_eq_true rfl) dX8_init_15 wAI (fun q2 H hP hD hS => ?_)
  have hP : va_P (dC, dI) vwCl ([(h0, .inr (8, [.int 0, .int 0, .int 0, .ref q1, .null, .null, .null, .null, .null, .null, .null, .null, .null])), (q1, .inl (cI, 12, .inl (fun _ => 0))), (q2, .inl (cI, 12, .inl (fun _ => 0)))]) H := hP
  have hD : va_D A ([(h0, .inr (8, [.int 0, .int 0, .int 0, .ref q1, .null, .null, .null, .null, .null, .null, .null, .null, .null])), (q1, .inl (cI, 12, .inl (fun _ => 0))), (q2, .inl (cI, 12, .inl (fun _ => 0)))]) := hD
  refine W.widen (k := 2) (n := 24) (Nat.le_refl _) (Nat.le_refl _) ?_
  refine zPutF (ty := (.array .int)) ([(h0, .inr (8, [.int 0, .int 0, .int 0, .ref q1, .ref q2, .null, .null, .null, .null, .null, .null, .null, .null])), (q1, .inl (cI, 12, .inl (fun _ => 0))), (q2, .inl (cI, 12, .inl (fun _ => 0)))]) C.1 hin wuX8 tyX8 tyX8_ok nmX8 hK hP hD hS 0 rfl rfl 4 (by decide) wfX8_15 rfl rfl rfl (by decide +kernel) rfl rfl (Nat.le_of_ble_eq_true rfl) dX8_init_17 rfl (fun H locs hP hD hS => ?_)
  refine lv_aload_n C.1.1 C.1.2.1 dX8_init_20 rfl (lv_at hl 0 rfl) ?_
  refine lv_bipush (v := 12) C.1.1 C.1.2.1 dX8_init_21 (by decide) ?_
  refine zNewI 12 C.1 hK hP hD hS hA 0 rfl (by decide) (by decide) (by decide) (Nat.le_of_ble_eq_true rfl) (Nat.le_of_ble_eq_true rfl) dX8_init_23 wAI (fun q3 H hP hD hS => ?_)
  have hP : va_P (dC, dI) vwCl ([(h0, .inr (8, [.int 0, .int 0, .int 0, .ref q1, .ref q2, .null, .null, .null, .null, .null, .null, .null, .null])), (q1, .inl (cI, 12, .inl (fun _ => 0))), (q2, .inl (cI, 12, .inl (fun _ => 0))), (q3, .inl (cI, 12, .inl (fun _ => 0)))]) H := hP
  have hD : va_D A ([(h0, .inr (8, [.int 0, .int 0, .int 0, .ref q1, .ref q2, .null, .null, .null, .null, .null, .null, .null, .null])), (q1, .inl (cI, 12, .inl (fun _ => 0))), (q2, .inl (cI, 12, .inl (fun _ => 0))), (q3, .inl (cI, 12, .inl (fun _ => 0)))]) := hD
  refine W.widen (k := 3) (n := 36) (Nat.le_refl _) (Nat.le_refl _) ?_
  refine zPutF (ty := (.array .int)) ([(h0, .inr (8, [.int 0, .int 0, .int 0, .ref q1, .ref q2, .ref q3, .null, .null, .null, .null, .null, .null, .null])), (q1, .inl (cI, 12, .inl (fun _ => 0))), (q2, .inl (cI, 12, .inl (fun _ => 0))), (q3, .inl (cI, 12, .inl (fun _ => 0)))]) C.1 hin wuX8 tyX8 tyX8_ok nmX8 hK hP hD hS 0 rfl rfl 5 (by decide) wfX8_18 rfl rfl rfl (by decide +kernel) rfl rfl (Nat.le_of_ble_eq_true rfl) dX8_init_25 rfl (fun H locs hP hD hS => ?_)
  refine lv_aload_n C.1.1 C.1.2.1 dX8_init_28 rfl (lv_at hl 0 rfl) ?_
  refine lv_bipush (v := 96) C.1.1 C.1.2.1 dX8_init_29 (by decide) ?_
  refine zNewB 96 C.1 hK hP hD hS hA 1 rfl (by decide) (by decide) (by decide) (Nat.le_of_ble_eq_true rfl) (Nat.le_of_ble_eq_true rfl) dX8_init_31 wAB (fun q4 H hP hD hS => ?_)
  have hP : va_P (dC, dI) vwCl ([(h0, .inr (8, [.int 0, .int 0, .int 0, .ref q1, .ref q2, .ref q3, .null, .null, .null, .null, .null, .null, .null])), (q1, .inl (cI, 12, .inl (fun _ => 0))), (q2, .inl (cI, 12, .inl (fun _ => 0))), (q3, .inl (cI, 12, .inl (fun _ => 0))), (q4, .inl (cB, 96, .inl (fun _ => 0)))]) H := hP
  have hD : va_D A ([(h0, .inr (8, [.int 0, .int 0, .int 0, .ref q1, .ref q2, .ref q3, .null, .null, .null, .null, .null, .null, .null])), (q1, .inl (cI, 12, .inl (fun _ => 0))), (q2, .inl (cI, 12, .inl (fun _ => 0))), (q3, .inl (cI, 12, .inl (fun _ => 0))), (q4, .inl (cB, 96, .inl (fun _ => 0)))]) := hD
  refine W.widen (k := 4) (n := 132) (Nat.le_refl _) (Nat.le_refl _) ?_
  refine zPutF (ty := (.array .byte)) ([(h0, .inr (8, [.int 0, .int 0, .int 0, .ref q1, .ref q2, .ref q3, .ref q4, .null, .null, .null, .null, .null, .null])), (q1, .inl (cI, 12, .inl (fun _ => 0))), (q2, .inl (cI, 12, .inl (fun _ => 0))), (q3, .inl (cI, 12, .inl (fun _ => 0))), (q4, .inl (cB, 96, .inl (fun _ => 0)))]) C.1 hin wuX8 tyX8 tyX8_ok nmX8 hK hP hD hS 0 rfl rfl 6 (by decide) wfX8_21 rfl rfl rfl (by decide +kernel) rfl rfl (Nat.le_of_ble_eq_true rfl) dX8_init_33 rfl (fun H locs hP hD hS => ?_)
  refine lv_aload_n C.1.1 C.1.2.1 dX8_init_36 rfl (lv_at hl 0 rfl) ?_
  refine lv_bipush (v := 96) C.1.1 C.1.2.1 dX8_init_37 (by decide) ?_
  refine zNewI 96 C.1 hK hP hD hS hA 0 rfl (by decide) (by decide) (by decide) (Nat.le_of_ble_eq_true rfl) (Nat.le_of_ble_eq_true rfl) dX8_init_39 wAI (fun q5 H hP hD hS => ?_)
  have hP : va_P (dC, dI) vwCl ([(h0, .inr (8, [.int 0, .int 0, .int 0, .ref q1, .ref q2, .ref q3, .ref q4, .null, .null, .null, .null, .null, .null])), (q1, .inl (cI, 12, .inl (fun _ => 0))), (q2, .inl (cI, 12, .inl (fun _ => 0))), (q3, .inl (cI, 12, .inl (fun _ => 0))), (q4, .inl (cB, 96, .inl (fun _ => 0))), (q5, .inl (cI, 96, .inl (fun _ => 0)))]) H := hP
  have hD : va_D A ([(h0, .inr (8, [.int 0, .int 0, .int 0, .ref q1, .ref q2, .ref q3, .ref q4, .null, .null, .null, .null, .null, .null])), (q1, .inl (cI, 12, .inl (fun _ => 0))), (q2, .inl (cI, 12, .inl (fun _ => 0))), (q3, .inl (cI, 12, .inl (fun _ => 0))), (q4, .inl (cB, 96, .inl (fun _ => 0))), (q5, .inl (cI, 96, .inl (fun _ => 0)))]) := hD
  refine W.widen (k := 5) (n := 228) (Nat.le_refl _) (Nat.le_refl _) ?_
  refine zPutF (ty := (.array .int)) ([(h0, .inr (8, [.int 0, .int 0, .int 0, .ref q1, .ref q2, .ref q3, .ref q4, .ref q5, .null, .null, .null, .null, .null])), (q1, .inl (cI, 12, .inl (fun _ => 0))), (q2, .inl (cI, 12, .inl (fun _ => 0))), (q3, .inl (cI, 12, .inl (fun _ => 0))), (q4, .inl (cB, 96, .inl (fun _ => 0))), (q5, .inl (cI, 96, .inl (fun _ => 0)))]) C.1 hin wuX8 tyX8 tyX8_ok nmX8 hK hP hD hS 0 rfl rfl 7 (by decide) wfX8_25 rfl rfl rfl (by decide +kernel) rfl rfl (Nat.le_of_ble_eq_true rfl) dX8_init_41 rfl (fun H locs hP hD hS => ?_)
  refine lv_aload_n C.1.1 C.1.2.1 dX8_init_44 rfl (lv_at hl 0 rfl) ?_
  refine lv_bipush (v := 96) C.1.1 C.1.2.1 dX8_init_45 (by decide) ?_
  refine zNewI 96 C.1 hK hP hD hS hA 0 rfl (by decide) (by decide) (by decide) (Nat.le_of_ble_eq_true rfl) (Nat.le_of_ble_eq_true rfl) dX8_init_47 wAI (fun q6 H hP hD hS => ?_)
  have hP : va_P (dC, dI) vwCl ([(h0, .inr (8, [.int 0, .int 0, .int 0, .ref q1, .ref q2, .ref q3, .ref q4, .ref q5, .null, .null, .null, .null, .null])), (q1, .inl (cI, 12, .inl (fun _ => 0))), (q2, .inl (cI, 12, .inl (fun _ => 0))), (q3, .inl (cI, 12, .inl (fun _ => 0))), (q4, .inl (cB, 96, .inl (fun _ => 0))), (q5, .inl (cI, 96, .inl (fun _ => 0))), (q6, .inl (cI, 96, .inl (fun _ => 0)))]) H := hP
  have hD : va_D A ([(h0, .inr (8, [.int 0, .int 0, .int 0, .ref q1, .ref q2, .ref q3, .ref q4, .ref q5, .null, .null, .null, .null, .null])), (q1, .inl (cI, 12, .inl (fun _ => 0))), (q2, .inl (cI, 12, .inl (fun _ => 0))), (q3, .inl (cI, 12, .inl (fun _ => 0))), (q4, .inl (cB, 96, .inl (fun _ => 0))), (q5, .inl (cI, 96, .inl (fun _ => 0))), (q6, .inl (cI, 96, .inl (fun _ => 0)))]) := hD
  refine W.widen (k := 6) (n := 324) (Nat.le_refl _) (Nat.le_refl _) ?_
  refine zPutF (ty := (.array .int)) ([(h0, .inr (8, [.int 0, .int 0, .int 0, .ref q1, .ref q2, .ref q3, .ref q4, .ref q5, .ref q6, .null, .null, .null, .null])), (q1, .inl (cI, 12, .inl (fun _ => 0))), (q2, .inl (cI, 12, .inl (fun _ => 0))), (q3, .inl (cI, 12, .inl (fun _ => 0))), (q4, .inl (cB, 96, .inl (fun _ => 0))), (q5, .inl (cI, 96, .inl (fun _ => 0))), (q6, .inl (cI, 96, .inl (fun _ => 0)))]) C.1 hin wuX8 tyX8 tyX8_ok nmX8 hK hP hD hS 0 rfl rfl 8 (by decide) wfX8_28 rfl rfl rfl (by decide +kernel) rfl rfl (Nat.le_of_ble_eq_true rfl) dX8_init_49 rfl (fun H locs hP hD hS => ?_)
  refine lv_aload_n C.1.1 C.1.2.1 dX8_init_52 rfl (lv_at hl 0 rfl) ?_
  refine lv_bipush (v := 96) C.1.1 C.1.2.1 dX8_init_53 (by decide) ?_
  refine zNewI 96 C.1 hK hP hD hS hA 0 rfl (by decide) (by decide) (by decide) (Nat.le_of_ble_eq_true rfl) (Nat.le_of_ble_eq_true rfl) dX8_init_55 wAI (fun q7 H hP hD hS => ?_)
  have hP : va_P (dC, dI) vwCl ([(h0, .inr (8, [.int 0, .int 0, .int 0, .ref q1, .ref q2, .ref q3, .ref q4, .ref q5, .ref q6, .null, .null, .null, .null])), (q1, .inl (cI, 12, .inl (fun _ => 0))), (q2, .inl (cI, 12, .inl (fun _ => 0))), (q3, .inl (cI, 12, .inl (fun _ => 0))), (q4, .inl (cB, 96, .inl (fun _ => 0))), (q5, .inl (cI, 96, .inl (fun _ => 0))), (q6, .inl (cI, 96, .inl (fun _ => 0))), (q7, .inl (cI, 96, .inl (fun _ => 0)))]) H := hP
  have hD : va_D A ([(h0, .inr (8, [.int 0, .int 0, .int 0, .ref q1, .ref q2, .ref q3, .ref q4, .ref q5, .ref q6, .null, .null, .null, .null])), (q1, .inl (cI, 12, .inl (fun _ => 0))), (q2, .inl (cI, 12, .inl (fun _ => 0))), (q3, .inl (cI, 12, .inl (fun _ => 0))), (q4, .inl (cB, 96, .inl (fun _ => 0))), (q5, .inl (cI, 96, .inl (fun _ => 0))), (q6, .inl (cI, 96, .inl (fun _ => 0))), (q7, .inl (cI, 96, .inl (fun _ => 0)))]) := hD
  refine W.widen (k := 7) (n := 420) (Nat.le_refl _) (Nat.le_refl _) ?_
  refine zPutF (ty := (.array .int)) ([(h0, .inr (8, [.int 0, .int 0, .int 0, .ref q1, .ref q2, .ref q3, .ref q4, .ref q5, .ref q6, .ref q7, .null, .null, .null])), (q1, .inl (cI, 12, .inl (fun _ => 0))), (q2, .inl (cI, 12, .inl (fun _ => 0))), (q3, .inl (cI, 12, .inl (fun _ => 0))), (q4, .inl (cB, 96, .inl (fun _ => 0))), (q5, .inl (cI, 96, .inl (fun _ => 0))), (q6, .inl (cI, 96, .inl (fun _ => 0))), (q7, .inl (cI, 96, .inl (fun _ => 0)))]) C.1 hin wuX8 tyX8 tyX8_ok nmX8 hK hP hD hS 0 rfl rfl 9 (by decide) wfX8_31 rfl rfl rfl (by decide +kernel) rfl rfl (Nat.le_of_ble_eq_true rfl) dX8_init_57 rfl (fun H locs hP hD hS => ?_)
  refine lv_aload_n C.1.1 C.1.2.1 dX8_init_60 rfl (lv_at hl 0 rfl) ?_
  refine lv_bipush (v := 96) C.1.1 C.1.2.1 dX8_init_61 (by decide) ?_
  refine zNewI 96 C.1 hK hP hD hS hA 0 rfl (by decide) (by decide) (by decide) (Nat.le_of_ble_eq_true rfl) (Nat.le_of_ble_eq_true rfl) dX8_init_63 wAI (fun q8 H hP hD hS => ?_)
  have hP : va_P (dC, dI) vwCl ([(h0, .inr (8, [.int 0, .int 0, .int 0, .ref q1, .ref q2, .ref q3, .ref q4, .ref q5, .ref q6, .ref q7, .null, .null, .null])), (q1, .inl (cI, 12, .inl (fun _ => 0))), (q2, .inl (cI, 12, .inl (fun _ => 0))), (q3, .inl (cI, 12, .inl (fun _ => 0))), (q4, .inl (cB, 96, .inl (fun _ => 0))), (q5, .inl (cI, 96, .inl (fun _ => 0))), (q6, .inl (cI, 96, .inl (fun _ => 0))), (q7, .inl (cI, 96, .inl (fun _ => 0))), (q8, .inl (cI, 96, .inl (fun _ => 0)))]) H := hP
  have hD : va_D A ([(h0, .inr (8, [.int 0, .int 0, .int 0, .ref q1, .ref q2, .ref q3, .ref q4, .ref q5, .ref q6, .ref q7, .null, .null, .null])), (q1, .inl (cI, 12, .inl (fun _ => 0))), (q2, .inl (cI, 12, .inl (fun _ => 0))), (q3, .inl (cI, 12, .inl (fun _ => 0))), (q4, .inl (cB, 96, .inl (fun _ => 0))), (q5, .inl (cI, 96, .inl (fun _ => 0))), (q6, .inl (cI, 96, .inl (fun _ => 0))), (q7, .inl (cI, 96, .inl (fun _ => 0))), (q8, .inl (cI, 96, .inl (fun _ => 0)))]) := hD
  refine W.widen (k := 8) (n := 516) (Nat.le_refl _) (Nat.le_refl _) ?_
  refine zPutF (ty := (.array .int)) ([(h0, .inr (8, [.int 0, .int 0, .int 0, .ref q1, .ref q2, .ref q3, .ref q4, .ref q5, .ref q6, .ref q7, .ref q8, .null, .null])), (q1, .inl (cI, 12, .inl (fun _ => 0))), (q2, .inl (cI, 12, .inl (fun _ => 0))), (q3, .inl (cI, 12, .inl (fun _ => 0))), (q4, .inl (cB, 96, .inl (fun _ => 0))), (q5, .inl (cI, 96, .inl (fun _ => 0))), (q6, .inl (cI, 96, .inl (fun _ => 0))), (q7, .inl (cI, 96, .inl (fun _ => 0))), (q8, .inl (cI, 96, .inl (fun _ => 0)))]) C.1 hin wuX8 tyX8 tyX8_ok nmX8 hK hP hD hS 0 rfl rfl 10 (by decide) wfX8_34 rfl rfl rfl (by decide +kernel) rfl rfl (Nat.le_of_ble_eq_true rfl) dX8_init_65 rfl (fun H locs hP hD hS => ?_)
  refine lv_aload_n C.1.1 C.1.2.1 dX8_init_68 rfl (lv_at hl 0 rfl) ?_
  refine lv_sipush (v := 700) C.1.1 C.1.2.1 dX8_init_69 (by decide) ?_
  refine zNewI 700 C.1 hK hP hD hS hA 0 rfl (by decide) (by decide) (by decide) (Nat.le_of_ble_eq_true rfl) (Nat.le_of_ble_eq_true rfl) dX8_init_72 wAI (fun q9 H hP hD hS => ?_)
  have hP : va_P (dC, dI) vwCl ([(h0, .inr (8, [.int 0, .int 0, .int 0, .ref q1, .ref q2, .ref q3, .ref q4, .ref q5, .ref q6, .ref q7, .ref q8, .null, .null])), (q1, .inl (cI, 12, .inl (fun _ => 0))), (q2, .inl (cI, 12, .inl (fun _ => 0))), (q3, .inl (cI, 12, .inl (fun _ => 0))), (q4, .inl (cB, 96, .inl (fun _ => 0))), (q5, .inl (cI, 96, .inl (fun _ => 0))), (q6, .inl (cI, 96, .inl (fun _ => 0))), (q7, .inl (cI, 96, .inl (fun _ => 0))), (q8, .inl (cI, 96, .inl (fun _ => 0))), (q9, .inl (cI, 700, .inl (fun _ => 0)))]) H := hP
  have hD : va_D A ([(h0, .inr (8, [.int 0, .int 0, .int 0, .ref q1, .ref q2, .ref q3, .ref q4, .ref q5, .ref q6, .ref q7, .ref q8, .null, .null])), (q1, .inl (cI, 12, .inl (fun _ => 0))), (q2, .inl (cI, 12, .inl (fun _ => 0))), (q3, .inl (cI, 12, .inl (fun _ => 0))), (q4, .inl (cB, 96, .inl (fun _ => 0))), (q5, .inl (cI, 96, .inl (fun _ => 0))), (q6, .inl (cI, 96, .inl (fun _ => 0))), (q7, .inl (cI, 96, .inl (fun _ => 0))), (q8, .inl (cI, 96, .inl (fun _ => 0))), (q9, .inl (cI, 700, .inl (fun _ => 0)))]) := hD
  refine W.widen (k := 9) (n := 1216) (Nat.le_refl _) (Nat.le_refl _) ?_
  refine zPutF (ty := (.array .int)) ([(h0, .inr (8, [.int 0, .int 0, .int 0, .ref q1, .ref q2, .ref q3, .ref q4, .ref q5, .ref q6, .ref q7, .ref q8, .ref q9, .null])), (q1, .inl (cI, 12, .inl (fun _ => 0))), (q2, .inl (cI, 12, .inl (fun _ => 0))), (q3, .inl (cI, 12, .inl (fun _ => 0))), (q4, .inl (cB, 96, .inl (fun _ => 0))), (q5, .inl (cI, 96, .inl (fun _ => 0))), (q6, .inl (cI, 96, .inl (fun _ => 0))), (q7, .inl (cI, 96, .inl (fun _ => 0))), (q8, .inl (cI, 96, .inl (fun _ => 0))), (q9, .inl (cI, 700, .inl (fun _ => 0)))]) C.1 hin wuX8 tyX8 tyX8_ok nmX8 hK hP hD hS 0 rfl rfl 11 (by decide) wfX8_37 rfl rfl rfl (by decide +kernel) rfl rfl (Nat.le_of_ble_eq_true rfl) dX8_init_74 rfl (fun H locs hP hD hS => ?_)
  refine lv_aload_n C.1.1 C.1.2.1 dX8_init_77 rfl (lv_at hl 0 rfl) ?_
  refine lv_sipush (v := 700) C.1.1 C.1.2.1 dX8_init_78 (by decide) ?_
  refine zNewI 700 C.1 hK hP hD hS hA 0 rfl (by decide) (by decide) (by decide) (Nat.le_of_ble_eq_true rfl) (Nat.le_of_ble_eq_true rfl) dX8_init_81 wAI (fun q10 H hP hD hS => ?_)
  have hP : va_P (dC, dI) vwCl ([(h0, .inr (8, [.int 0, .int 0, .int 0, .ref q1, .ref q2, .ref q3, .ref q4, .ref q5, .ref q6, .ref q7, .ref q8, .ref q9, .null])), (q1, .inl (cI, 12, .inl (fun _ => 0))), (q2, .inl (cI, 12, .inl (fun _ => 0))), (q3, .inl (cI, 12, .inl (fun _ => 0))), (q4, .inl (cB, 96, .inl (fun _ => 0))), (q5, .inl (cI, 96, .inl (fun _ => 0))), (q6, .inl (cI, 96, .inl (fun _ => 0))), (q7, .inl (cI, 96, .inl (fun _ => 0))), (q8, .inl (cI, 96, .inl (fun _ => 0))), (q9, .inl (cI, 700, .inl (fun _ => 0))), (q10, .inl (cI, 700, .inl (fun _ => 0)))]) H := hP
  have hD : va_D A ([(h0, .inr (8, [.int 0, .int 0, .int 0, .ref q1, .ref q2, .ref q3, .ref q4, .ref q5, .ref q6, .ref q7, .ref q8, .ref q9, .null])), (q1, .inl (cI, 12, .inl (fun _ => 0))), (q2, .inl (cI, 12, .inl (fun _ => 0))), (q3, .inl (cI, 12, .inl (fun _ => 0))), (q4, .inl (cB, 96, .inl (fun _ => 0))), (q5, .inl (cI, 96, .inl (fun _ => 0))), (q6, .inl (cI, 96, .inl (fun _ => 0))), (q7, .inl (cI, 96, .inl (fun _ => 0))), (q8, .inl (cI, 96, .inl (fun _ => 0))), (q9, .inl (cI, 700, .inl (fun _ => 0))), (q10, .inl (cI, 700, .inl (fun _ => 0)))]) := hD
  refine W.widen (k := 10) (n := 1916) (Nat.le_refl _) (Nat.le_refl _) ?_
  refine zPutF (ty := (.array .int)) ([(h0, .inr (8, [.int 0, .int 0, .int 0, .ref q1, .ref q2, .ref q3, .ref q4, .ref q5, .ref q6, .ref q7, .ref q8, .ref q9, .ref q10])), (q1, .inl (cI, 12, .inl (fun _ => 0))), (q2, .inl (cI, 12, .inl (fun _ => 0))), (q3, .inl (cI, 12, .inl (fun _ => 0))), (q4, .inl (cB, 96, .inl (fun _ => 0))), (q5, .inl (cI, 96, .inl (fun _ => 0))), (q6, .inl (cI, 96, .inl (fun _ => 0))), (q7, .inl (cI, 96, .inl (fun _ => 0))), (q8, .inl (cI, 96, .inl (fun _ => 0))), (q9, .inl (cI, 700, .inl (fun _ => 0))), (q10, .inl (cI, 700, .inl (fun _ => 0)))]) C.1 hin wuX8 tyX8 tyX8_ok nmX8 hK hP hD hS 0 rfl rfl 12 (by decide) wfX8_40 rfl rfl rfl (by decide +kernel) rfl rfl (Nat.le_of_ble_eq_true rfl) dX8_init_83 rfl (fun H locs hP hD hS => ?_)
  rw [← hQ]
  exact zRc (ad := (zsel [zl [h0, q1, q2, q3, q4, q5, q6, q7, q8, q9, q10]])) C rfl hK (hP.sub (ws' := (kX8 cI cB ((zsel [zl [h0, q1, q2, q3, q4, q5, q6, q7, q8, q9, q10]]) 0) iX8)) [0, 1, 2, 3, 4, 5, 6, 7, 8, 9, 10] rfl) (hD.sub (ws' := (kX8 cI cB ((zsel [zl [h0, q1, q2, q3, q4, q5, q6, q7, q8, q9, q10]]) 0) iX8)) [0, 1, 2, 3, 4, 5, 6, 7, 8, 9, 10] (by decide +kernel) rfl) hS dX8_init_86
def iX1 : Rc := fun k _ => 0
theorem zdX1 : ∀ j, j < 3 → defaultValue (tyX1 j) = vp_V [.null, .null, .null] j := by
  intro j hj
  match j, hj with
  | 0, _ => rfl
  | 1, _ => rfl
  | 2, _ => rfl
  | k + 3, h => exact absurd h (by omega)
abbrev rX1_init : Room := { frames := 2, cells := 4, slots := 30, locals := 32 }
set_option maxHeartbeats 4000000 in
set_option maxRecDepth 100000 in
theorem mtX1_init (l : Launch) (dC : Nat → ClassId) (dI : Nat → Nat → Nat) (cI cB : ClassId) (h0 : Nat) (sz : Nat) : zMc l yX1_init (Cond.code yX1_init cX1_init 1 none :: lw_g) rX1_init (dC, dI) [(cI, .int), (cB, .byte)] h0 sz [(h0, .inr (1, [.null, .null, .null]))] (fun ad => (kX1 cI cB (ad 0) ((ad 1) 0) ((ad 2) 0) ((ad 3) 0) ++ kA8 cI cB (ad 1) (fun _ => 0) ++ kA8 cI cB (ad 2) (fun _ => 0) ++ kX3 cI cB (ad 3) iX3)) 4 30 := by
  refine zStC (cc := cX1_init) (maxL := 1) (ret := none) (own := RX1) (fun A => zCq (dC, dI) [(cI, .int), (cB, .byte)] A h0 (fun ad => (kX1 cI cB (ad 0) ((ad 1) 0) ((ad 2) 0) ((ad 3) 0) ++ kA8 cI cB (ad 1) (fun _ => 0) ++ kA8 cI cB (ad 2) (fun _ => 0) ++ kX3 cI cB (ad 3) iX3))) (by decide) rfl rfl rfl (Nat.le_of_ble_eq_true rfl) ?_
  intro p e s m below meth c ls A H locs C hin hK hA hP hD hS hl
  generalize hQ : MQ below (zCq (dC, dI) [(cI, .int), (cB, .byte)] A h0 (fun ad => (kX1 cI cB (ad 0) ((ad 1) 0) ((ad 2) 0) ((ad 3) 0) ++ kA8 cI cB (ad 1) (fun _ => 0) ++ kA8 cI cB (ad 2) (fun _ => 0) ++ kX3 cI cB (ad 3) iX3))) _ s 4 30 A = QQ
  generalize ([.ref h0] : List Value).toArray = args at C hQ ⊢
  have hl : lv_has ls 1 [(0, .ref h0)] := hl
  refine lv_aload_n C.1.1 C.1.2.1 dX1_init_0 rfl (lv_at hl 0 rfl) ?_
  refine W.objInit C.1.1 C.1.2.1 C.1.2.2.2.1 (C.1.2.2.2.2 _ wlX1_3) (C.1.2.2.2.2 _ wOi) (C.1.2.2.2.2 _ wOc) rfl (by rw [C.1.2.2.1]; exact hl.1) rfl dX1_init_1 (Nat.le_of_ble_eq_true rfl) (Nat.le_of_ble_eq_true rfl) ?_
  refine W.eq (g2 := F0 m 4 ls []) rfl ?_
  refine lv_aload_n C.1.1 C.1.2.1 dX1_init_4 rfl (lv_at hl 0 rfl) ?_
  refine lv_bipush (v := 8) C.1.1 C.1.2.1 dX1_init_5 (by decide) ?_
  refine zNewI 8 C.1 hK hP hD hS hA 0 rfl (by decide) (by decide) (by decide) (Nat.le_of_ble_eq_true rfl) (Nat.le_of_ble_eq_true rfl) dX1_init_7 wAI (fun q1 H hP hD hS => ?_)
  have hP : va_P (dC, dI) vwCl ([(h0, .inr (1, [.null, .null, .null])), (q1, .inl (cI, 8, .inl (fun _ => 0)))]) H := hP
  have hD : va_D A ([(h0, .inr (1, [.null, .null, .null])), (q1, .inl (cI, 8, .inl (fun _ => 0)))]) := hD
  refine W.widen (k := 1) (n := 8) (Nat.le_refl _) (Nat.le_refl _) ?_
  refine zPutF (ty := (.array .int)) ([(h0, .inr (1, [.ref q1, .null, .null])), (q1, .inl (cI, 8, .inl (fun _ => 0)))]) C.1 hin wuX1 tyX1 tyX1_ok nmX1 hK hP hD hS 0 rfl rfl 0 (by decide) wfX1_9 rfl rfl rfl (by decide +kernel) rfl rfl (Nat.le_of_ble_eq_true rfl) dX1_init_9 rfl (fun H locs hP hD hS => ?_)
  refine lv_aload_n C.1.1 C.1.2.1 dX1_init_12 rfl (lv_at hl 0 rfl) ?_
  refine lv_bipush (v := 8) C.1.1 C.1.2.1 dX1_init_13 (by decide) ?_
  refine zNewI 8 C.1 hK hP hD hS hA 0 rfl (by decide) (by decide) (by decide) (Nat.le_of_ble_eq_true rfl) (Nat.le_of_ble_eq_true rfl) dX1_init_15 wAI (fun q2 H hP hD hS => ?_)
  have hP : va_P (dC, dI) vwCl ([(h0, .inr (1, [.ref q1, .null, .null])), (q1, .inl (cI, 8, .inl (fun _ => 0))), (q2, .inl (cI, 8, .inl (fun _ => 0)))]) H := hP
  have hD : va_D A ([(h0, .inr (1, [.ref q1, .null, .null])), (q1, .inl (cI, 8, .inl (fun _ => 0))), (q2, .inl (cI, 8, .inl (fun _ => 0)))]) := hD
  refine W.widen (k := 2) (n := 16) (Nat.le_refl _) (Nat.le_refl _) ?_
  refine zPutF (ty := (.array .int)) ([(h0, .inr (1, [.ref q1, .ref q2, .null])), (q1, .inl (cI, 8, .inl (fun _ => 0))), (q2, .inl (cI, 8, .inl (fun _ => 0)))]) C.1 hin wuX1 tyX1 tyX1_ok nmX1 hK hP hD hS 0 rfl rfl 1 (by decide) wfX1_15 rfl rfl rfl (by decide +kernel) rfl rfl (Nat.le_of_ble_eq_true rfl) dX1_init_17 rfl (fun H locs hP hD hS => ?_)
  refine lv_aload_n C.1.1 C.1.2.1 dX1_init_20 rfl (lv_at hl 0 rfl) ?_
  refine va_new (ci := 3) (fs := [.null, .int 0]) (C := RX3) (T := TX3) (N := 2) C.1.1 C.1.2.1 C.1.2.2.2.2 wuX3 tyX3 tyX3_ok C.1.2.2.2.1 (C.1.2.2.2.2 _ wxX1_18) (C.1.2.2.2.2 _ wqX3) (C.1.2.2.2.2 _ wnX3) hK.1 hP hD hS hA rfl zdX3 (Nat.le_of_ble_eq_true rfl) (Nat.le_of_ble_eq_true rfl) dX1_init_21 (fun q3 H hP hD hS => ?_)
  have hP : va_P (dC, dI) vwCl ([(h0, .inr (1, [.ref q1, .ref q2, .null])), (q1, .inl (cI, 8, .inl (fun _ => 0))), (q2, .inl (cI, 8, .inl (fun _ => 0))), (q3, .inr (3, [.null, .int 0]))]) H := hP
  have hD : va_D A ([(h0, .inr (1, [.ref q1, .ref q2, .null])), (q1, .inl (cI, 8, .inl (fun _ => 0))), (q2, .inl (cI, 8, .inl (fun _ => 0))), (q3, .inr (3, [.null, .int 0]))]) := hD
  refine W.widen (k := 3) (n := 18) (Nat.le_refl _) (Nat.le_refl _) ?_
  refine lv_dup C.1.1 C.1.2.1 dX1_init_24 rfl ?_
  refine zCIn (wr := ([(h0, .inr (1, [.ref q1, .ref q2, .null])), (q1, .inl (cI, 8, .inl (fun _ => 0))), (q2, .inl (cI, 8, .inl (fun _ => 0)))])) (wf := fun ad => (kX3 cI cB (ad 0) iX3)) (rest := [.ref q3, .ref h0]) C.1 hK hA hP hD hS [3] [0, 1, 2] (mtX3_init l dC dI cI cB q3 H.size) "HalfGates" nmX1_20 wiX3_init wnX3 wkX3_init rfl rfl rfl (by decide +kernel) ⟨Nat.le_of_ble_eq_true rfl, Nat.le_of_ble_eq_true rfl⟩ rfl rfl (by decide +kernel) hl.1 (Nat.le_of_ble_eq_true rfl) dX1_init_25 ⟨Nat.le_of_ble_eq_true rfl, Nat.le_of_ble_eq_true rfl⟩ rfl (fun ad3 H locs had hP2 hD2 hS2 => ?_)
  clear hP hD hS
  subst had
  have hP := hP2
  have hD := hD2
  have hS := hS2
  have hP : va_P (dC, dI) vwCl ([(h0, .inr (1, [.ref q1, .ref q2, .null])), (q1, .inl (cI, 8, .inl (fun _ => 0))), (q2, .inl (cI, 8, .inl (fun _ => 0)))] ++ (kX3 cI cB (ad3 0) iX3)) H := hP
  have hD : va_D A ([(h0, .inr (1, [.ref q1, .ref q2, .null])), (q1, .inl (cI, 8, .inl (fun _ => 0))), (q2, .inl (cI, 8, .inl (fun _ => 0)))] ++ (kX3 cI cB (ad3 0) iX3)) := hD
  refine W.widen (k := 4) (n := 30) (Nat.le_refl _) (Nat.le_refl _) ?_
  refine zPutF (ty := (.object "HalfGates$Pile")) ([(h0, .inr (1, [.ref q1, .ref q2, .ref (ad3 0 0)])), (q1, .inl (cI, 8, .inl (fun _ => 0))), (q2, .inl (cI, 8, .inl (fun _ => 0)))] ++ (kX3 cI cB (ad3 0) iX3)) C.1 hin wuX1 tyX1 tyX1_ok nmX1 hK hP hD hS 0 rfl rfl 2 (by decide) wfX1_21 rfl rfl rfl (by decide +kernel) rfl rfl (Nat.le_of_ble_eq_true rfl) dX1_init_28 rfl (fun H locs hP hD hS => ?_)
  rw [← hQ]
  exact zRc (ad := (zsel [zl [h0], zl [q1], zl [q2], ad3 0])) C rfl hK (hP.sub (ws' := (kX1 cI cB ((zsel [zl [h0], zl [q1], zl [q2], ad3 0]) 0) (((zsel [zl [h0], zl [q1], zl [q2], ad3 0]) 1) 0) (((zsel [zl [h0], zl [q1], zl [q2], ad3 0]) 2) 0) (((zsel [zl [h0], zl [q1], zl [q2], ad3 0]) 3) 0) ++ kA8 cI cB ((zsel [zl [h0], zl [q1], zl [q2], ad3 0]) 1) (fun _ => 0) ++ kA8 cI cB ((zsel [zl [h0], zl [q1], zl [q2], ad3 0]) 2) (fun _ => 0) ++ kX3 cI cB ((zsel [zl [h0], zl [q1], zl [q2], ad3 0]) 3) iX3)) [0, 1, 2, 3, 4] rfl) (hD.sub (ws' := (kX1 cI cB ((zsel [zl [h0], zl [q1], zl [q2], ad3 0]) 0) (((zsel [zl [h0], zl [q1], zl [q2], ad3 0]) 1) 0) (((zsel [zl [h0], zl [q1], zl [q2], ad3 0]) 2) 0) (((zsel [zl [h0], zl [q1], zl [q2], ad3 0]) 3) 0) ++ kA8 cI cB ((zsel [zl [h0], zl [q1], zl [q2], ad3 0]) 1) (fun _ => 0) ++ kA8 cI cB ((zsel [zl [h0], zl [q1], zl [q2], ad3 0]) 2) (fun _ => 0) ++ kX3 cI cB ((zsel [zl [h0], zl [q1], zl [q2], ad3 0]) 3) iX3)) [0, 1, 2, 3, 4] (by decide +kernel) rfl) hS dX1_init_31
def iX2 : Rc := fun k _ => if k = 9 then 8 else 0
theorem zdX2 : ∀ j, j < 11 → defaultValue (tyX2 j) = vp_V [.null, .null, .null, .null, .null, .null, .null, .null, .null, .int 0, .int 0] j := by
  intro j hj
  match j, hj with
  | 0, _ => rfl
  | 1, _ => rfl
  | 2, _ => rfl
  | 3, _ => rfl
  | 4, _ => rfl
  | 5, _ => rfl
  | 6, _ => rfl
  | 7, _ => rfl
  | 8, _ => rfl
  | 9, _ => rfl
  | 10, _ => rfl
  | k + 11, h => exact absurd h (by omega)
abbrev rX2_init : Room := { frames := 2, cells := 10, slots := 106, locals := 32 }
set_option maxHeartbeats 4000000 in
set_option maxRecDepth 100000 in
theorem mtX2_init (l : Launch) (dC : Nat → ClassId) (dI : Nat → Nat → Nat) (cI cB : ClassId) (h0 : Nat) (sz : Nat) : zMc l yX2_init (Cond.code yX2_init cX2_init 1 none :: lw_g) rX2_init (dC, dI) [(cI, .int), (cB, .byte)] h0 sz [(h0, .inr (2, [.null, .null, .null, .null, .null, .null, .null, .null, .null, .int 0, .int 0]))] (fun ad => (kX2 cI cB (ad 0) ((ad 1) 0) iX2 ++ kX3 cI cB (ad 1) iX3)) 10 106 := by
  refine zStC (cc := cX2_init) (maxL := 1) (ret := none) (own := RX2) (fun A => zCq (dC, dI) [(cI, .int), (cB, .byte)] A h0 (fun ad => (kX2 cI cB (ad 0) ((ad 1) 0) iX2 ++ kX3 cI cB (ad 1) iX3))) (by decide) rfl rfl rfl (Nat.le_of_ble_eq_true rfl) ?_
  intro p e s m below meth c ls A H locs C hin hK hA hP hD hS hl
  generalize hQ : MQ below (zCq (dC, dI) [(cI, .int), (cB, .byte)] A h0 (fun ad => (kX2 cI cB (ad 0) ((ad 1) 0) iX2 ++ kX3 cI cB (ad 1) iX3))) _ s 10 106 A = QQ
  generalize ([.ref h0] : List Value).toArray = args at C hQ ⊢
  have hl : lv_has ls 1 [(0, .ref h0)] := hl
  refine lv_aload_n C.1.1 C.1.2.1 dX2_init_0 rfl (lv_at hl 0 rfl) ?_
  refine W.objInit C.1.1 C.1.2.1 C.1.2.2.2.1 (C.1.2.2.2.2 _ wlX2_3) (C.1.2.2.2.2 _ wOi) (C.1.2.2.2.2 _ wOc) rfl (by rw [C.1.2.2.1]; exact hl.1) rfl dX2_init_1 (Nat.le_of_ble_eq_true rfl) (Nat.le_of_ble_eq_true rfl) ?_
  refine W.eq (g2 := F0 m 4 ls []) rfl ?_
  refine lv_aload_n C.1.1 C.1.2.1 dX2_init_4 rfl (lv_at hl 0 rfl) ?_
  refine lv_bipush (v := 12) C.1.1 C.1.2.1 dX2_init_5 (by decide) ?_
  refine zNewI 12 C.1 hK hP hD hS hA 0 rfl (by decide) (by decide) (by decide) (Nat.le_of_ble_eq_true rfl) (Nat.le_of_ble_eq_true rfl) dX2_init_7 wAI (fun q1 H hP hD hS => ?_)
  have hP : va_P (dC, dI) vwCl ([(h0, .inr (2, [.null, .null, .null, .null, .null, .null, .null, .null, .null, .int 0, .int 0])), (q1, .inl (cI, 12, .inl (fun _ => 0)))]) H := hP
  have hD : va_D A ([(h0, .inr (2, [.null, .null, .null, .null, .null, .null, .null, .null, .null, .int 0, .int 0])), (q1, .inl (cI, 12, .inl (fun _ => 0)))]) := hD
  refine W.widen (k := 1) (n := 12) (Nat.le_refl _) (Nat.le_refl _) ?_
  refine zPutF (ty := (.array .int)) ([(h0, .inr (2, [.ref q1, .null, .null, .null, .null, .null, .null, .null, .null, .int 0, .int 0])), (q1, .inl (cI, 12, .inl (fun _ => 0)))]) C.1 hin wuX2 tyX2 tyX2_ok nmX2 hK hP hD hS 0 rfl rfl 0 (by decide) wfX2_9 rfl rfl rfl (by decide +kernel) rfl rfl (Nat.le_of_ble_eq_true rfl) dX2_init_9 rfl (fun H locs hP hD hS => ?_)
  refine lv_aload_n C.1.1 C.1.2.1 dX2_init_12 rfl (lv_at hl 0 rfl) ?_
  refine lv_bipush (v := 12) C.1.1 C.1.2.1 dX2_init_13 (by decide) ?_
  refine zNewI 12 C.1 hK hP hD hS hA 0 rfl (by decide) (by decide) (by decide) (Nat.le_of_ble_eq_true rfl) (Nat.le_of_ble_eq_true rfl) dX2_init_15 wAI (fun q2 H hP hD hS => ?_)
  have hP : va_P (dC, dI) vwCl ([(h0, .inr (2, [.ref q1, .null, .null, .null, .null, .null, .null, .null, .null, .int 0, .int 0])), (q1, .inl (cI, 12, .inl (fun _ => 0))), (q2, .inl (cI, 12, .inl (fun _ => 0)))]) H := hP
  have hD : va_D A ([(h0, .inr (2, [.ref q1, .null, .null, .null, .null, .null, .null, .null, .null, .int 0, .int 0])), (q1, .inl (cI, 12, .inl (fun _ => 0))), (q2, .inl (cI, 12, .inl (fun _ => 0)))]) := hD
  refine W.widen (k := 2) (n := 24) (Nat.le_refl _) (Nat.le_refl _) ?_
  refine zPutF (ty := (.array .int)) ([(h0, .inr (2, [.ref q1, .ref q2, .null, .null, .null, .null, .null, .null, .null, .int 0, .int 0])), (q1, .inl (cI, 12, .inl (fun _ => 0))), (q2, .inl (cI, 12, .inl (fun _ => 0)))]) C.1 hin wuX2 tyX2 tyX2_ok nmX2 hK hP hD hS 0 rfl rfl 1 (by decide) wfX2_15 rfl rfl rfl (by decide +kernel) rfl rfl (Nat.le_of_ble_eq_true rfl) dX2_init_17 rfl (fun H locs hP hD hS => ?_)
  refine lv_aload_n C.1.1 C.1.2.1 dX2_init_20 rfl (lv_at hl 0 rfl) ?_
  refine lv_bipush (v := 12) C.1.1 C.1.2.1 dX2_init_21 (by decide) ?_
  refine zNewI 12 C.1 hK hP hD hS hA 0 rfl (by decide) (by decide) (by decide) (Nat.le_of_ble_eq_true rfl) (Nat.le_of_ble_eq_true rfl) dX2_init_23 wAI (fun q3 H hP hD hS => ?_)
  have hP : va_P (dC, dI) vwCl ([(h0, .inr (2, [.ref q1, .ref q2, .null, .null, .null, .null, .null, .null, .null, .int 0, .int 0])), (q1, .inl (cI, 12, .inl (fun _ => 0))), (q2, .inl (cI, 12, .inl (fun _ => 0))), (q3, .inl (cI, 12, .inl (fun _ => 0)))]) H := hP
  have hD : va_D A ([(h0, .inr (2, [.ref q1, .ref q2, .null, .null, .null, .null, .null, .null, .null, .int 0, .int 0])), (q1, .inl (cI, 12, .inl (fun _ => 0))), (q2, .inl (cI, 12, .inl (fun _ => 0))), (q3, .inl (cI, 12, .inl (fun _ => 0)))]) := hD
  refine W.widen (k := 3) (n := 36) (Nat.le_refl _) (Nat.le_refl _) ?_
  refine zPutF (ty := (.array .int)) ([(h0, .inr (2, [.ref q1, .ref q2, .ref q3, .null, .null, .null, .null, .null, .null, .int 0, .int 0])), (q1, .inl (cI, 12, .inl (fun _ => 0))), (q2, .inl (cI, 12, .inl (fun _ => 0))), (q3, .inl (cI, 12, .inl (fun _ => 0)))]) C.1 hin wuX2 tyX2 tyX2_ok nmX2 hK hP hD hS 0 rfl rfl 2 (by decide) wfX2_18 rfl rfl rfl (by decide +kernel) rfl rfl (Nat.le_of_ble_eq_true rfl) dX2_init_25 rfl (fun H locs hP hD hS => ?_)
  refine lv_aload_n C.1.1 C.1.2.1 dX2_init_28 rfl (lv_at hl 0 rfl) ?_
  refine lv_bipush (v := 12) C.1.1 C.1.2.1 dX2_init_29 (by decide) ?_
  refine zNewI 12 C.1 hK hP hD hS hA 0 rfl (by decide) (by decide) (by decide) (Nat.le_of_ble_eq_true rfl) (Nat.le_of_ble_eq_true rfl) dX2_init_31 wAI (fun q4 H hP hD hS => ?_)
  have hP : va_P (dC, dI) vwCl ([(h0, .inr (2, [.ref q1, .ref q2, .ref q3, .null, .null, .null, .null, .null, .null, .int 0, .int 0])), (q1, .inl (cI, 12, .inl (fun _ => 0))), (q2, .inl (cI, 12, .inl (fun _ => 0))), (q3, .inl (cI, 12, .inl (fun _ => 0))), (q4, .inl (cI, 12, .inl (fun _ => 0)))]) H := hP
  have hD : va_D A ([(h0, .inr (2, [.ref q1, .ref q2, .ref q3, .null, .null, .null, .null, .null, .null, .int 0, .int 0])), (q1, .inl (cI, 12, .inl (fun _ => 0))), (q2, .inl (cI, 12, .inl (fun _ => 0))), (q3, .inl (cI, 12, .inl (fun _ => 0))), (q4, .inl (cI, 12, .inl (fun _ => 0)))]) := hD
  refine W.widen (k := 4) (n := 48) (Nat.le_refl _) (Nat.le_refl _) ?_
  refine zPutF (ty := (.array .int)) ([(h0, .inr (2, [.ref q1, .ref q2, .ref q3, .ref q4, .null, .null, .null, .null, .null, .int 0, .int 0])), (q1, .inl (cI, 12, .inl (fun _ => 0))), (q2, .inl (cI, 12, .inl (fun _ => 0))), (q3, .inl (cI, 12, .inl (fun _ => 0))), (q4, .inl (cI, 12, .inl (fun _ => 0)))]) C.1 hin wuX2 tyX2 tyX2_ok nmX2 hK hP hD hS 0 rfl rfl 3 (by decide) wfX2_21 rfl rfl rfl (by decide +kernel) rfl rfl (Nat.le_of_ble_eq_true rfl) dX2_init_33 rfl (fun H locs hP hD hS => ?_)
  refine lv_aload_n C.1.1 C.1.2.1 dX2_init_36 rfl (lv_at hl 0 rfl) ?_
  refine lv_bipush (v := 12) C.1.1 C.1.2.1 dX2_init_37 (by decide) ?_
  refine zNewI 12 C.1 hK hP hD hS hA 0 rfl (by decide) (by decide) (by decide) (Nat.le_of_ble_eq_true rfl) (Nat.le_of_ble_eq_true rfl) dX2_init_39 wAI (fun q5 H hP hD hS => ?_)
  have hP : va_P (dC, dI) vwCl ([(h0, .inr (2, [.ref q1, .ref q2, .ref q3, .ref q4, .null, .null, .null, .null, .null, .int 0, .int 0])), (q1, .inl (cI, 12, .inl (fun _ => 0))), (q2, .inl (cI, 12, .inl (fun _ => 0))), (q3, .inl (cI, 12, .inl (fun _ => 0))), (q4, .inl (cI, 12, .inl (fun _ => 0))), (q5, .inl (cI, 12, .inl (fun _ => 0)))]) H := hP
  have hD : va_D A ([(h0, .inr (2, [.ref q1, .ref q2, .ref q3, .ref q4, .null, .null, .null, .null, .null, .int 0, .int 0])), (q1, .inl (cI, 12, .inl (fun _ => 0))), (q2, .inl (cI, 12, .inl (fun _ => 0))), (q3, .inl (cI, 12, .inl (fun _ => 0))), (q4, .inl (cI, 12, .inl (fun _ => 0))), (q5, .inl (cI, 12, .inl (fun _ => 0)))]) := hD
  refine W.widen (k := 5) (n := 60) (Nat.le_refl _) (Nat.le_refl _) ?_
  refine zPutF (ty := (.array .int)) ([(h0, .inr (2, [.ref q1, .ref q2, .ref q3, .ref q4, .ref q5, .null, .null, .null, .null, .int 0, .int 0])), (q1, .inl (cI, 12, .inl (fun _ => 0))), (q2, .inl (cI, 12, .inl (fun _ => 0))), (q3, .inl (cI, 12, .inl (fun _ => 0))), (q4, .inl (cI, 12, .inl (fun _ => 0))), (q5, .inl (cI, 12, .inl (fun _ => 0)))]) C.1 hin wuX2 tyX2 tyX2_ok nmX2 hK hP hD hS 0 rfl rfl 4 (by decide) wfX2_24 rfl rfl rfl (by decide +kernel) rfl rfl (Nat.le_of_ble_eq_true rfl) dX2_init_41 rfl (fun H locs hP hD hS => ?_)
  refine lv_aload_n C.1.1 C.1.2.1 dX2_init_44 rfl (lv_at hl 0 rfl) ?_
  refine lv_bipush (v := 12) C.1.1 C.1.2.1 dX2_init_45 (by decide) ?_
  refine zNewI 12 C.1 hK hP hD hS hA 0 rfl (by decide) (by decide) (by decide) (Nat.le_of_ble_eq_true rfl) (Nat.le_of_ble_eq_true rfl) dX2_init_47 wAI (fun q6 H hP hD hS => ?_)
  have hP : va_P (dC, dI) vwCl ([(h0, .inr (2, [.ref q1, .ref q2, .ref q3, .ref q4, .ref q5, .null, .null, .null, .null, .int 0, .int 0])), (q1, .inl (cI, 12, .inl (fun _ => 0))), (q2, .inl (cI, 12, .inl (fun _ => 0))), (q3, .inl (cI, 12, .inl (fun _ => 0))), (q4, .inl (cI, 12, .inl (fun _ => 0))), (q5, .inl (cI, 12, .inl (fun _ => 0))), (q6, .inl (cI, 12, .inl (fun _ => 0)))]) H := hP
  have hD : va_D A ([(h0, .inr (2, [.ref q1, .ref q2, .ref q3, .ref q4, .ref q5, .null, .null, .null, .null, .int 0, .int 0])), (q1, .inl (cI, 12, .inl (fun _ => 0))), (q2, .inl (cI, 12, .inl (fun _ => 0))), (q3, .inl (cI, 12, .inl (fun _ => 0))), (q4, .inl (cI, 12, .inl (fun _ => 0))), (q5, .inl (cI, 12, .inl (fun _ => 0))), (q6, .inl (cI, 12, .inl (fun _ => 0)))]) := hD
  refine W.widen (k := 6) (n := 72) (Nat.le_refl _) (Nat.le_refl _) ?_
  refine zPutF (ty := (.array .int)) ([(h0, .inr (2, [.ref q1, .ref q2, .ref q3, .ref q4, .ref q5, .ref q6, .null, .null, .null, .int 0, .int 0])), (q1, .inl (cI, 12, .inl (fun _ => 0))), (q2, .inl (cI, 12, .inl (fun _ => 0))), (q3, .inl (cI, 12, .inl (fun _ => 0))), (q4, .inl (cI, 12, .inl (fun _ => 0))), (q5, .inl (cI, 12, .inl (fun _ => 0))), (q6, .inl (cI, 12, .inl (fun _ => 0)))]) C.1 hin wuX2 tyX2 tyX2_ok nmX2 hK hP hD hS 0 rfl rfl 5 (by decide) wfX2_27 rfl rfl rfl (by decide +kernel) rfl rfl (Nat.le_of_ble_eq_true rfl) dX2_init_49 rfl (fun H locs hP hD hS => ?_)
  refine lv_aload_n C.1.1 C.1.2.1 dX2_init_52 rfl (lv_at hl 0 rfl) ?_
  refine lv_bipush (v := 12) C.1.1 C.1.2.1 dX2_init_53 (by decide) ?_
  refine zNewI 12 C.1 hK hP hD hS hA 0 rfl (by decide) (by decide) (by decide) (Nat.le_of_ble_eq_true rfl) (Nat.le_of_ble_eq_true rfl) dX2_init_55 wAI (fun q7 H hP hD hS => ?_)
  have hP : va_P (dC, dI) vwCl ([(h0, .inr (2, [.ref q1, .ref q2, .ref q3, .ref q4, .ref q5, .ref q6, .null, .null, .null, .int 0, .int 0])), (q1, .inl (cI, 12, .inl (fun _ => 0))), (q2, .inl (cI, 12, .inl (fun _ => 0))), (q3, .inl (cI, 12, .inl (fun _ => 0))), (q4, .inl (cI, 12, .inl (fun _ => 0))), (q5, .inl (cI, 12, .inl (fun _ => 0))), (q6, .inl (cI, 12, .inl (fun _ => 0))), (q7, .inl (cI, 12, .inl (fun _ => 0)))]) H := hP
  have hD : va_D A ([(h0, .inr (2, [.ref q1, .ref q2, .ref q3, .ref q4, .ref q5, .ref q6, .null, .null, .null, .int 0, .int 0])), (q1, .inl (cI, 12, .inl (fun _ => 0))), (q2, .inl (cI, 12, .inl (fun _ => 0))), (q3, .inl (cI, 12, .inl (fun _ => 0))), (q4, .inl (cI, 12, .inl (fun _ => 0))), (q5, .inl (cI, 12, .inl (fun _ => 0))), (q6, .inl (cI, 12, .inl (fun _ => 0))), (q7, .inl (cI, 12, .inl (fun _ => 0)))]) := hD
  refine W.widen (k := 7) (n := 84) (Nat.le_refl _) (Nat.le_refl _) ?_
  refine zPutF (ty := (.array .int)) ([(h0, .inr (2, [.ref q1, .ref q2, .ref q3, .ref q4, .ref q5, .ref q6, .ref q7, .null, .null, .int 0, .int 0])), (q1, .inl (cI, 12, .inl (fun _ => 0))), (q2, .inl (cI, 12, .inl (fun _ => 0))), (q3, .inl (cI, 12, .inl (fun _ => 0))), (q4, .inl (cI, 12, .inl (fun _ => 0))), (q5, .inl (cI, 12, .inl (fun _ => 0))), (q6, .inl (cI, 12, .inl (fun _ => 0))), (q7, .inl (cI, 12, .inl (fun _ => 0)))]) C.1 hin wuX2 tyX2 tyX2_ok nmX2 hK hP hD hS 0 rfl rfl 6 (by decide) wfX2_30 rfl rfl rfl (by decide +kernel) rfl rfl (Nat.le_of_ble_eq_true rfl) dX2_init_57 rfl (fun H locs hP hD hS => ?_)
  refine lv_aload_n C.1.1 C.1.2.1 dX2_init_60 rfl (lv_at hl 0 rfl) ?_
  refine lv_bipush (v := 8) C.1.1 C.1.2.1 dX2_init_61 (by decide) ?_
  refine zNewI 8 C.1 hK hP hD hS hA 0 rfl (by decide) (by decide) (by decide) (Nat.le_of_ble_eq_true rfl) (Nat.le_of_ble_eq_true rfl) dX2_init_63 wAI (fun q8 H hP hD hS => ?_)
  have hP : va_P (dC, dI) vwCl ([(h0, .inr (2, [.ref q1, .ref q2, .ref q3, .ref q4, .ref q5, .ref q6, .ref q7, .null, .null, .int 0, .int 0])), (q1, .inl (cI, 12, .inl (fun _ => 0))), (q2, .inl (cI, 12, .inl (fun _ => 0))), (q3, .inl (cI, 12, .inl (fun _ => 0))), (q4, .inl (cI, 12, .inl (fun _ => 0))), (q5, .inl (cI, 12, .inl (fun _ => 0))), (q6, .inl (cI, 12, .inl (fun _ => 0))), (q7, .inl (cI, 12, .inl (fun _ => 0))), (q8, .inl (cI, 8, .inl (fun _ => 0)))]) H := hP
  have hD : va_D A ([(h0, .inr (2, [.ref q1, .ref q2, .ref q3, .ref q4, .ref q5, .ref q6, .ref q7, .null, .null, .int 0, .int 0])), (q1, .inl (cI, 12, .inl (fun _ => 0))), (q2, .inl (cI, 12, .inl (fun _ => 0))), (q3, .inl (cI, 12, .inl (fun _ => 0))), (q4, .inl (cI, 12, .inl (fun _ => 0))), (q5, .inl (cI, 12, .inl (fun _ => 0))), (q6, .inl (cI, 12, .inl (fun _ => 0))), (q7, .inl (cI, 12, .inl (fun _ => 0))), (q8, .inl (cI, 8, .inl (fun _ => 0)))]) := hD
  refine W.widen (k := 8) (n := 92) (Nat.le_refl _) (Nat.le_refl _) ?_
  refine zPutF (ty := (.array .int)) ([(h0, .inr (2, [.ref q1, .ref q2, .ref q3, .ref q4, .ref q5, .ref q6, .ref q7, .ref q8, .null, .int 0, .int 0])), (q1, .inl (cI, 12, .inl (fun _ => 0))), (q2, .inl (cI, 12, .inl (fun _ => 0))), (q3, .inl (cI, 12, .inl (fun _ => 0))), (q4, .inl (cI, 12, .inl (fun _ => 0))), (q5, .inl (cI, 12, .inl (fun _ => 0))), (q6, .inl (cI, 12, .inl (fun _ => 0))), (q7, .inl (cI, 12, .inl (fun _ => 0))), (q8, .inl (cI, 8, .inl (fun _ => 0)))]) C.1 hin wuX2 tyX2 tyX2_ok nmX2 hK hP hD hS 0 rfl rfl 7 (by decide) wfX2_33 rfl rfl rfl (by decide +kernel) rfl rfl (Nat.le_of_ble_eq_true rfl) dX2_init_65 rfl (fun H locs hP hD hS => ?_)
  refine lv_aload_n C.1.1 C.1.2.1 dX2_init_68 rfl (lv_at hl 0 rfl) ?_
  refine va_new (ci := 3) (fs := [.null, .int 0]) (C := RX3) (T := TX3) (N := 2) C.1.1 C.1.2.1 C.1.2.2.2.2 wuX3 tyX3 tyX3_ok C.1.2.2.2.1 (C.1.2.2.2.2 _ wxX2_36) (C.1.2.2.2.2 _ wqX3) (C.1.2.2.2.2 _ wnX3) hK.1 hP hD hS hA rfl zdX3 (Nat.le_of_ble_eq_true rfl) (Nat.le_of_ble_eq_true rfl) dX2_init_69 (fun q9 H hP hD hS => ?_)
  have hP : va_P (dC, dI) vwCl ([(h0, .inr (2, [.ref q1, .ref q2, .ref q3, .ref q4, .ref q5, .ref q6, .ref q7, .ref q8, .null, .int 0, .int 0])), (q1, .inl (cI, 12, .inl (fun _ => 0))), (q2, .inl (cI, 12, .inl (fun _ => 0))), (q3, .inl (cI, 12, .inl (fun _ => 0))), (q4, .inl (cI, 12, .inl (fun _ => 0))), (q5, .inl (cI, 12, .inl (fun _ => 0))), (q6, .inl (cI, 12, .inl (fun _ => 0))), (q7, .inl (cI, 12, .inl (fun _ => 0))), (q8, .inl (cI, 8, .inl (fun _ => 0))), (q9, .inr (3, [.null, .int 0]))]) H := hP
  have hD : va_D A ([(h0, .inr (2, [.ref q1, .ref q2, .ref q3, .ref q4, .ref q5, .ref q6, .ref q7, .ref q8, .null, .int 0, .int 0])), (q1, .inl (cI, 12, .inl (fun _ => 0))), (q2, .inl (cI, 12, .inl (fun _ => 0))), (q3, .inl (cI, 12, .inl (fun _ => 0))), (q4, .inl (cI, 12, .inl (fun _ => 0))), (q5, .inl (cI, 12, .inl (fun _ => 0))), (q6, .inl (cI, 12, .inl (fun _ => 0))), (q7, .inl (cI, 12, .inl (fun _ => 0))), (q8, .inl (cI, 8, .inl (fun _ => 0))), (q9, .inr (3, [.null, .int 0]))]) := hD
  refine W.widen (k := 9) (n := 94) (Nat.le_refl _) (Nat.le_refl _) ?_
  refine lv_dup C.1.1 C.1.2.1 dX2_init_72 rfl ?_
  refine zCIn (wr := ([(h0, .inr (2, [.ref q1, .ref q2, .ref q3, .ref q4, .ref q5, .ref q6, .ref q7, .ref q8, .null, .int 0, .int 0])), (q1, .inl (cI, 12, .inl (fun _ => 0))), (q2, .inl (cI, 12, .inl (fun _ => 0))), (q3, .inl (cI, 12, .inl (fun _ => 0))), (q4, .inl (cI, 12, .inl (fun _ => 0))), (q5, .inl (cI, 12, .inl (fun _ => 0))), (q6, .inl (cI, 12, .inl (fun _ => 0))), (q7, .inl (cI, 12, .inl (fun _ => 0))), (q8, .inl (cI, 8, .inl (fun _ => 0)))])) (wf := fun ad => (kX3 cI cB (ad 0) iX3)) (rest := [.ref q9, .ref h0]) C.1 hK hA hP hD hS [9] [0, 1, 2, 3, 4, 5, 6, 7, 8] (mtX3_init l dC dI cI cB q9 H.size) "HalfGates" nmX2_38 wiX3_init wnX3 wkX3_init rfl rfl rfl (by decide +kernel) ⟨Nat.le_of_ble_eq_true rfl, Nat.le_of_ble_eq_true rfl⟩ rfl rfl (by decide +kernel) hl.1 (Nat.le_of_ble_eq_true rfl) dX2_init_73 ⟨Nat.le_of_ble_eq_true rfl, Nat.le_of_ble_eq_true rfl⟩ rfl (fun ad9 H locs had hP2 hD2 hS2 => ?_)
  clear hP hD hS
  subst had
  have hP := hP2
  have hD := hD2
  have hS := hS2
  have hP : va_P (dC, dI) vwCl ([(h0, .inr (2, [.ref q1, .ref q2, .ref q3, .ref q4, .ref q5, .ref q6, .ref q7, .ref q8, .null, .int 0, .int 0])), (q1, .inl (cI, 12, .inl (fun _ => 0))), (q2, .inl (cI, 12, .inl (fun _ => 0))), (q3, .inl (cI, 12, .inl (fun _ => 0))), (q4, .inl (cI, 12, .inl (fun _ => 0))), (q5, .inl (cI, 12, .inl (fun _ => 0))), (q6, .inl (cI, 12, .inl (fun _ => 0))), (q7, .inl (cI, 12, .inl (fun _ => 0))), (q8, .inl (cI, 8, .inl (fun _ => 0)))] ++ (kX3 cI cB (ad9 0) iX3)) H := hP
  have hD : va_D A ([(h0, .inr (2, [.ref q1, .ref q2, .ref q3, .ref q4, .ref q5, .ref q6, .ref q7, .ref q8, .null, .int 0, .int 0])), (q1, .inl (cI, 12, .inl (fun _ => 0))), (q2, .inl (cI, 12, .inl (fun _ => 0))), (q3, .inl (cI, 12, .inl (fun _ => 0))), (q4, .inl (cI, 12, .inl (fun _ => 0))), (q5, .inl (cI, 12, .inl (fun _ => 0))), (q6, .inl (cI, 12, .inl (fun _ => 0))), (q7, .inl (cI, 12, .inl (fun _ => 0))), (q8, .inl (cI, 8, .inl (fun _ => 0)))] ++ (kX3 cI cB (ad9 0) iX3)) := hD
  refine W.widen (k := 10) (n := 106) (Nat.le_refl _) (Nat.le_refl _) ?_
  refine zPutF (ty := (.object "HalfGates$Pile")) ([(h0, .inr (2, [.ref q1, .ref q2, .ref q3, .ref q4, .ref q5, .ref q6, .ref q7, .ref q8, .ref (ad9 0 0), .int 0, .int 0])), (q1, .inl (cI, 12, .inl (fun _ => 0))), (q2, .inl (cI, 12, .inl (fun _ => 0))), (q3, .inl (cI, 12, .inl (fun _ => 0))), (q4, .inl (cI, 12, .inl (fun _ => 0))), (q5, .inl (cI, 12, .inl (fun _ => 0))), (q6, .inl (cI, 12, .inl (fun _ => 0))), (q7, .inl (cI, 12, .inl (fun _ => 0))), (q8, .inl (cI, 8, .inl (fun _ => 0)))] ++ (kX3 cI cB (ad9 0) iX3)) C.1 hin wuX2 tyX2 tyX2_ok nmX2 hK hP hD hS 0 rfl rfl 8 (by decide) wfX2_39 rfl rfl rfl (by decide +kernel) rfl rfl (Nat.le_of_ble_eq_true rfl) dX2_init_76 rfl (fun H locs hP hD hS => ?_)
  refine lv_aload_n C.1.1 C.1.2.1 dX2_init_79 rfl (lv_at hl 0 rfl) ?_
  refine lv_bipush (v := 8) C.1.1 C.1.2.1 dX2_init_80 (by decide) ?_
  refine zPut (ty := .int) ([(h0, .inr (2, [.ref q1, .ref q2, .ref q3, .ref q4, .ref q5, .ref q6, .ref q7, .ref q8, .ref (ad9 0 0), .int (8 : Int32), .int 0])), (q1, .inl (cI, 12, .inl (fun _ => 0))), (q2, .inl (cI, 12, .inl (fun _ => 0))), (q3, .inl (cI, 12, .inl (fun _ => 0))), (q4, .inl (cI, 12, .inl (fun _ => 0))), (q5, .inl (cI, 12, .inl (fun _ => 0))), (q6, .inl (cI, 12, .inl (fun _ => 0))), (q7, .inl (cI, 12, .inl (fun _ => 0))), (q8, .inl (cI, 8, .inl (fun _ => 0)))] ++ (kX3 cI cB (ad9 0) iX3)) C.1 wuX2 tyX2 tyX2_ok nmX2 hK hP hD hS 0 rfl rfl 9 (by decide) wfX2_43 rfl rfl (by decide +kernel) (by decide +kernel) (by decide +kernel) (Nat.le_of_ble_eq_true rfl) dX2_init_82 rfl (fun H locs hP hD hS => ?_)
  refine lv_aload_n C.1.1 C.1.2.1 dX2_init_85 rfl (lv_at hl 0 rfl) ?_
  refine lv_iconst (v := 0) C.1.1 C.1.2.1 dX2_init_86 (by decide) ?_
  refine zPut (ty := .int) ([(h0, .inr (2, [.ref q1, .ref q2, .ref q3, .ref q4, .ref q5, .ref q6, .ref q7, .ref q8, .ref (ad9 0 0), .int (8 : Int32), .int (0 : Int32)])), (q1, .inl (cI, 12, .inl (fun _ => 0))), (q2, .inl (cI, 12, .inl (fun _ => 0))), (q3, .inl (cI, 12, .inl (fun _ => 0))), (q4, .inl (cI, 12, .inl (fun _ => 0))), (q5, .inl (cI, 12, .inl (fun _ => 0))), (q6, .inl (cI, 12, .inl (fun _ => 0))), (q7, .inl (cI, 12, .inl (fun _ => 0))), (q8, .inl (cI, 8, .inl (fun _ => 0)))] ++ (kX3 cI cB (ad9 0) iX3)) C.1 wuX2 tyX2 tyX2_ok nmX2 hK hP hD hS 0 rfl rfl 10 (by decide) wfX2_47 rfl rfl (by decide +kernel) (by decide +kernel) (by decide +kernel) (Nat.le_of_ble_eq_true rfl) dX2_init_87 rfl (fun H locs hP hD hS => ?_)
  rw [← hQ]
  exact zRc (ad := (zsel [zl [h0, q1, q2, q3, q4, q5, q6, q7, q8], ad9 0])) C rfl hK (hP.sub (ws' := (kX2 cI cB ((zsel [zl [h0, q1, q2, q3, q4, q5, q6, q7, q8], ad9 0]) 0) (((zsel [zl [h0, q1, q2, q3, q4, q5, q6, q7, q8], ad9 0]) 1) 0) iX2 ++ kX3 cI cB ((zsel [zl [h0, q1, q2, q3, q4, q5, q6, q7, q8], ad9 0]) 1) iX3)) [0, 1, 2, 3, 4, 5, 6, 7, 8, 9, 10] rfl) (hD.sub (ws' := (kX2 cI cB ((zsel [zl [h0, q1, q2, q3, q4, q5, q6, q7, q8], ad9 0]) 0) (((zsel [zl [h0, q1, q2, q3, q4, q5, q6, q7, q8], ad9 0]) 1) 0) iX2 ++ kX3 cI cB ((zsel [zl [h0, q1, q2, q3, q4, q5, q6, q7, q8], ad9 0]) 1) iX3)) [0, 1, 2, 3, 4, 5, 6, 7, 8, 9, 10] (by decide +kernel) rfl) hS dX2_init_90
def iX5 : Rc := fun k _ => if k = 5 then (-1) else 0
theorem zdX5 : ∀ j, j < 10 → defaultValue (tyX5 j) = vp_V [.null, .null, .int 0, .int 0, .int 0, .int 0, .int 0, .int 0, .null, .null] j := by
  intro j hj
  match j, hj with
  | 0, _ => rfl
  | 1, _ => rfl
  | 2, _ => rfl
  | 3, _ => rfl
  | 4, _ => rfl
  | 5, _ => rfl
  | 6, _ => rfl
  | 7, _ => rfl
  | 8, _ => rfl
  | 9, _ => rfl
  | k + 10, h => exact absurd h (by omega)
abbrev rX5_init : Room := { frames := 2, cells := 14, slots := 2263, locals := 32 }
set_option maxHeartbeats 4000000 in
set_option maxRecDepth 100000 in
theorem mtX5_init (l : Launch) (dC : Nat → ClassId) (dI : Nat → Nat → Nat) (cI cB : ClassId) (h0 : Nat) (sz : Nat) : zMc l yX5_init (Cond.code yX5_init cX5_init 1 none :: lw_g) rX5_init (dC, dI) [(cI, .int), (cB, .byte)] h0 sz [(h0, .inr (5, [.null, .null, .int 0, .int 0, .int 0, .int 0, .int 0, .int 0, .null, .null]))] (fun ad => (kX5 cI cB (ad 0) ((ad 1) 0) ((ad 2) 0) iX5 ++ kX6 cI cB (ad 1) iX6 ++ kX4 cI cB (ad 2) iX4)) 14 2263 := by
  refine zStC (cc := cX5_init) (maxL := 1) (ret := none) (own := RX5) (fun A => zCq (dC, dI) [(cI, .int), (cB, .byte)] A h0 (fun ad => (kX5 cI cB (ad 0) ((ad 1) 0) ((ad 2) 0) iX5 ++ kX6 cI cB (ad 1) iX6 ++ kX4 cI cB (ad 2) iX4))) (by decide) rfl rfl rfl (Nat.le_of_ble_eq_true rfl) ?_
  intro p e s m below meth c ls A H locs C hin hK hA hP hD hS hl
  generalize hQ : MQ below (zCq (dC, dI) [(cI, .int), (cB, .byte)] A h0 (fun ad => (kX5 cI cB (ad 0) ((ad 1) 0) ((ad 2) 0) iX5 ++ kX6 cI cB (ad 1) iX6 ++ kX4 cI cB (ad 2) iX4))) _ s 14 2263 A = QQ
  generalize ([.ref h0] : List Value).toArray = args at C hQ ⊢
  have hl : lv_has ls 1 [(0, .ref h0)] := hl
  refine lv_aload_n C.1.1 C.1.2.1 dX5_init_0 rfl (lv_at hl 0 rfl) ?_
  refine W.objInit C.1.1 C.1.2.1 C.1.2.2.2.1 (C.1.2.2.2.2 _ wlX5_3) (C.1.2.2.2.2 _ wOi) (C.1.2.2.2.2 _ wOc) rfl (by rw [C.1.2.2.1]; exact hl.1) rfl dX5_init_1 (Nat.le_of_ble_eq_true rfl) (Nat.le_of_ble_eq_true rfl) ?_
  refine W.eq (g2 := F0 m 4 ls []) rfl ?_
  refine lv_aload_n C.1.1 C.1.2.1 dX5_init_4 rfl (lv_at hl 0 rfl) ?_
  refine va_new (ci := 6) (fs := [.null, .int 0, .int 0, .int 0, .int 0, .int 0, .int 0, .int 0, .int 0, .int 0]) (C := RX6) (T := TX6) (N := 10) C.1.1 C.1.2.1 C.1.2.2.2.2 wuX6 tyX6 tyX6_ok C.1.2.2.2.1 (C.1.2.2.2.2 _ wxX5_9) (C.1.2.2.2.2 _ wqX6) (C.1.2.2.2.2 _ wnX6) hK.1 hP hD hS hA rfl zdX6 (Nat.le_of_ble_eq_true rfl) (Nat.le_of_ble_eq_true rfl) dX5_init_5 (fun q1 H hP hD hS => ?_)
  have hP : va_P (dC, dI) vwCl ([(h0, .inr (5, [.null, .null, .int 0, .int 0, .int 0, .int 0, .int 0, .int 0, .null, .null])), (q1, .inr (6, [.null, .int 0, .int 0, .int 0, .int 0, .int 0, .int 0, .int 0, .int 0, .int 0]))]) H := hP
  have hD : va_D A ([(h0, .inr (5, [.null, .null, .int 0, .int 0, .int 0, .int 0, .int 0, .int 0, .null, .null])), (q1, .inr (6, [.null, .int 0, .int 0, .int 0, .int 0, .int 0, .int 0, .int 0, .int 0, .int 0]))]) := hD
  refine W.widen (k := 1) (n := 10) (Nat.le_refl _) (Nat.le_refl _) ?_
  refine lv_dup C.1.1 C.1.2.1 dX5_init_8 rfl ?_
  refine zCIn (wr := ([(h0, .inr (5, [.null, .null, .int 0, .int 0, .int 0, .int 0, .int 0, .int 0, .null, .null]))])) (wf := fun ad => (kX6 cI cB (ad 0) iX6)) (rest := [.ref q1, .ref h0]) C.1 hK hA hP hD hS [1] [0] (mtX6_init l dC dI cI cB q1 H.size) "HalfGates" nmX5_11 wiX6_init wnX6 wkX6_init rfl rfl rfl (by decide +kernel) ⟨Nat.le_of_ble_eq_true rfl, Nat.le_of_ble_eq_true rfl⟩ rfl rfl (by decide +kernel) hl.1 (Nat.le_of_ble_eq_true rfl) dX5_init_9 ⟨Nat.le_of_ble_eq_true rfl, Nat.le_of_ble_eq_true rfl⟩ rfl (fun ad1 H locs had hP2 hD2 hS2 => ?_)
  clear hP hD hS
  subst had
  have hP := hP2
  have hD := hD2
  have hS := hS2
  have hP : va_P (dC, dI) vwCl ([(h0, .inr (5, [.null, .null, .int 0, .int 0, .int 0, .int 0, .int 0, .int 0, .null, .null]))] ++ (kX6 cI cB (ad1 0) iX6)) H := hP
  have hD : va_D A ([(h0, .inr (5, [.null, .null, .int 0, .int 0, .int 0, .int 0, .int 0, .int 0, .null, .null]))] ++ (kX6 cI cB (ad1 0) iX6)) := hD
  refine W.widen (k := 2) (n := 610) (Nat.le_refl _) (Nat.le_refl _) ?_
  refine zPutF (ty := (.object "HalfGates$Tape")) ([(h0, .inr (5, [.ref (ad1 0 0), .null, .int 0, .int 0, .int 0, .int 0, .int 0, .int 0, .null, .null]))] ++ (kX6 cI cB (ad1 0) iX6)) C.1 hin wuX5 tyX5 tyX5_ok nmX5 hK hP hD hS 0 rfl rfl 0 (by decide) wfX5_12 rfl rfl rfl (by decide +kernel) rfl rfl (Nat.le_of_ble_eq_true rfl) dX5_init_12 rfl (fun H locs hP hD hS => ?_)
  refine lv_aload_n C.1.1 C.1.2.1 dX5_init_15 rfl (lv_at hl 0 rfl) ?_
  refine va_new (ci := 4) (fs := [.int 0, .int 0, .int 0, .int 0, .null, .null, .null, .null, .null, .null, .null, .null, .null]) (C := RX4) (T := TX4) (N := 13) C.1.1 C.1.2.1 C.1.2.2.2.2 wuX4 tyX4 tyX4_ok C.1.2.2.2.1 (C.1.2.2.2.2 _ wxX5_18) (C.1.2.2.2.2 _ wqX4) (C.1.2.2.2.2 _ wnX4) hK.1 hP hD hS hA rfl zdX4 (Nat.le_of_ble_eq_true rfl) (Nat.le_of_ble_eq_true rfl) dX5_init_16 (fun q2 H hP hD hS => ?_)
  have hP : va_P (dC, dI) vwCl ([(h0, .inr (5, [.ref (ad1 0 0), .null, .int 0, .int 0, .int 0, .int 0, .int 0, .int 0, .null, .null]))] ++ (kX6 cI cB (ad1 0) iX6) ++ [(q2, .inr (4, [.int 0, .int 0, .int 0, .int 0, .null, .null, .null, .null, .null, .null, .null, .null, .null]))]) H := hP
  have hD : va_D A ([(h0, .inr (5, [.ref (ad1 0 0), .null, .int 0, .int 0, .int 0, .int 0, .int 0, .int 0, .null, .null]))] ++ (kX6 cI cB (ad1 0) iX6) ++ [(q2, .inr (4, [.int 0, .int 0, .int 0, .int 0, .null, .null, .null, .null, .null, .null, .null, .null, .null]))]) := hD
  refine W.widen (k := 3) (n := 623) (Nat.le_refl _) (Nat.le_refl _) ?_
  refine lv_dup C.1.1 C.1.2.1 dX5_init_19 rfl ?_
  refine zCIn (wr := ([(h0, .inr (5, [.ref (ad1 0 0), .null, .int 0, .int 0, .int 0, .int 0, .int 0, .int 0, .null, .null]))] ++ (kX6 cI cB (ad1 0) iX6))) (wf := fun ad => (kX4 cI cB (ad 0) iX4)) (rest := [.ref q2, .ref h0]) C.1 hK hA hP hD hS [3] [0, 1, 2] (mtX4_init l dC dI cI cB q2 H.size) "HalfGates" nmX5_20 wiX4_init wnX4 wkX4_init rfl rfl rfl (by decide +kernel) ⟨Nat.le_of_ble_eq_true rfl, Nat.le_of_ble_eq_true rfl⟩ rfl rfl (by decide +kernel) hl.1 (Nat.le_of_ble_eq_true rfl) dX5_init_20 ⟨Nat.le_of_ble_eq_true rfl, Nat.le_of_ble_eq_true rfl⟩ rfl (fun ad2 H locs had hP2 hD2 hS2 => ?_)
  clear hP hD hS
  subst had
  have hP := hP2
  have hD := hD2
  have hS := hS2
  have hP : va_P (dC, dI) vwCl ([(h0, .inr (5, [.ref (ad1 0 0), .null, .int 0, .int 0, .int 0, .int 0, .int 0, .int 0, .null, .null]))] ++ (kX6 cI cB (ad1 0) iX6) ++ (kX4 cI cB (ad2 0) iX4)) H := hP
  have hD : va_D A ([(h0, .inr (5, [.ref (ad1 0 0), .null, .int 0, .int 0, .int 0, .int 0, .int 0, .int 0, .null, .null]))] ++ (kX6 cI cB (ad1 0) iX6) ++ (kX4 cI cB (ad2 0) iX4)) := hD
  refine W.widen (k := 12) (n := 2245) (Nat.le_refl _) (Nat.le_refl _) ?_
  refine zPut (ty := (.object "HalfGates$Program")) ([(h0, .inr (5, [.ref (ad1 0 0), .ref (ad2 0 0), .int 0, .int 0, .int 0, .int 0, .int 0, .int 0, .null, .null]))] ++ (kX6 cI cB (ad1 0) iX6) ++ (kX4 cI cB (ad2 0) iX4)) C.1 wuX5 tyX5 tyX5_ok nmX5 hK hP hD hS 0 rfl rfl 1 (by decide) wfX5_21 rfl rfl (by decide +kernel) rfl rfl (Nat.le_of_ble_eq_true rfl) dX5_init_23 rfl (fun H locs hP hD hS => ?_)
  refine lv_aload_n C.1.1 C.1.2.1 dX5_init_26 rfl (lv_at hl 0 rfl) ?_
  refine lv_iconst (v := 0) C.1.1 C.1.2.1 dX5_init_27 (by decide) ?_
  refine zPut (ty := .int) ([(h0, .inr (5, [.ref (ad1 0 0), .ref (ad2 0 0), .int (0 : Int32), .int 0, .int 0, .int 0, .int 0, .int 0, .null, .null]))] ++ (kX6 cI cB (ad1 0) iX6) ++ (kX4 cI cB (ad2 0) iX4)) C.1 wuX5 tyX5 tyX5_ok nmX5 hK hP hD hS 0 rfl rfl 2 (by decide) wfX5_25 rfl rfl (by decide +kernel) (by decide +kernel) (by decide +kernel) (Nat.le_of_ble_eq_true rfl) dX5_init_28 rfl (fun H locs hP hD hS => ?_)
  refine lv_aload_n C.1.1 C.1.2.1 dX5_init_31 rfl (lv_at hl 0 rfl) ?_
  refine lv_iconst (v := 0) C.1.1 C.1.2.1 dX5_init_32 (by decide) ?_
  refine zPut (ty := .int) ([(h0, .inr (5, [.ref (ad1 0 0), .ref (ad2 0 0), .int (0 : Int32), .int (0 : Int32), .int 0, .int 0, .int 0, .int 0, .null, .null]))] ++ (kX6 cI cB (ad1 0) iX6) ++ (kX4 cI cB (ad2 0) iX4)) C.1 wuX5 tyX5 tyX5_ok nmX5 hK hP hD hS 0 rfl rfl 3 (by decide) wfX5_29 rfl rfl (by decide +kernel) (by decide +kernel) (by decide +kernel) (Nat.le_of_ble_eq_true rfl) dX5_init_33 rfl (fun H locs hP hD hS => ?_)
  refine lv_aload_n C.1.1 C.1.2.1 dX5_init_36 rfl (lv_at hl 0 rfl) ?_
  refine lv_iconst (v := 0) C.1.1 C.1.2.1 dX5_init_37 (by decide) ?_
  refine zPut (ty := .int) ([(h0, .inr (5, [.ref (ad1 0 0), .ref (ad2 0 0), .int (0 : Int32), .int (0 : Int32), .int (0 : Int32), .int 0, .int 0, .int 0, .null, .null]))] ++ (kX6 cI cB (ad1 0) iX6) ++ (kX4 cI cB (ad2 0) iX4)) C.1 wuX5 tyX5 tyX5_ok nmX5 hK hP hD hS 0 rfl rfl 4 (by decide) wfX5_32 rfl rfl (by decide +kernel) (by decide +kernel) (by decide +kernel) (Nat.le_of_ble_eq_true rfl) dX5_init_38 rfl (fun H locs hP hD hS => ?_)
  refine lv_aload_n C.1.1 C.1.2.1 dX5_init_41 rfl (lv_at hl 0 rfl) ?_
  refine lv_iconst (v := (-1)) C.1.1 C.1.2.1 dX5_init_42 (by decide) ?_
  refine zPut (ty := .int) ([(h0, .inr (5, [.ref (ad1 0 0), .ref (ad2 0 0), .int (0 : Int32), .int (0 : Int32), .int (0 : Int32), .int (-1 : Int32), .int 0, .int 0, .null, .null]))] ++ (kX6 cI cB (ad1 0) iX6) ++ (kX4 cI cB (ad2 0) iX4)) C.1 wuX5 tyX5 tyX5_ok nmX5 hK hP hD hS 0 rfl rfl 5 (by decide) wfX5_35 rfl rfl (by decide +kernel) (by decide +kernel) (by decide +kernel) (Nat.le_of_ble_eq_true rfl) dX5_init_43 rfl (fun H locs hP hD hS => ?_)
  refine lv_aload_n C.1.1 C.1.2.1 dX5_init_46 rfl (lv_at hl 0 rfl) ?_
  refine lv_iconst (v := 0) C.1.1 C.1.2.1 dX5_init_47 (by decide) ?_
  refine zPut (ty := .int) ([(h0, .inr (5, [.ref (ad1 0 0), .ref (ad2 0 0), .int (0 : Int32), .int (0 : Int32), .int (0 : Int32), .int (-1 : Int32), .int (0 : Int32), .int 0, .null, .null]))] ++ (kX6 cI cB (ad1 0) iX6) ++ (kX4 cI cB (ad2 0) iX4)) C.1 wuX5 tyX5 tyX5_ok nmX5 hK hP hD hS 0 rfl rfl 6 (by decide) wfX5_38 rfl rfl (by decide +kernel) (by decide +kernel) (by decide +kernel) (Nat.le_of_ble_eq_true rfl) dX5_init_48 rfl (fun H locs hP hD hS => ?_)
  refine lv_aload_n C.1.1 C.1.2.1 dX5_init_51 rfl (lv_at hl 0 rfl) ?_
  refine lv_iconst (v := 0) C.1.1 C.1.2.1 dX5_init_52 (by decide) ?_
  refine zPut (ty := .int) ([(h0, .inr (5, [.ref (ad1 0 0), .ref (ad2 0 0), .int (0 : Int32), .int (0 : Int32), .int (0 : Int32), .int (-1 : Int32), .int (0 : Int32), .int (0 : Int32), .null, .null]))] ++ (kX6 cI cB (ad1 0) iX6) ++ (kX4 cI cB (ad2 0) iX4)) C.1 wuX5 tyX5 tyX5_ok nmX5 hK hP hD hS 0 rfl rfl 7 (by decide) wfX5_41 rfl rfl (by decide +kernel) (by decide +kernel) (by decide +kernel) (Nat.le_of_ble_eq_true rfl) dX5_init_53 rfl (fun H locs hP hD hS => ?_)
  refine lv_aload_n C.1.1 C.1.2.1 dX5_init_56 rfl (lv_at hl 0 rfl) ?_
  refine lv_bipush (v := 9) C.1.1 C.1.2.1 dX5_init_57 (by decide) ?_
  refine zNewI 9 C.1 hK hP hD hS hA 0 rfl (by decide) (by decide) (by decide) (Nat.le_of_ble_eq_true rfl) (Nat.le_of_ble_eq_true rfl) dX5_init_59 wAI (fun q3 H hP hD hS => ?_)
  have hP : va_P (dC, dI) vwCl ([(h0, .inr (5, [.ref (ad1 0 0), .ref (ad2 0 0), .int (0 : Int32), .int (0 : Int32), .int (0 : Int32), .int (-1 : Int32), .int (0 : Int32), .int (0 : Int32), .null, .null]))] ++ (kX6 cI cB (ad1 0) iX6) ++ (kX4 cI cB (ad2 0) iX4) ++ [(q3, .inl (cI, 9, .inl (fun _ => 0)))]) H := hP
  have hD : va_D A ([(h0, .inr (5, [.ref (ad1 0 0), .ref (ad2 0 0), .int (0 : Int32), .int (0 : Int32), .int (0 : Int32), .int (-1 : Int32), .int (0 : Int32), .int (0 : Int32), .null, .null]))] ++ (kX6 cI cB (ad1 0) iX6) ++ (kX4 cI cB (ad2 0) iX4) ++ [(q3, .inl (cI, 9, .inl (fun _ => 0)))]) := hD
  refine W.widen (k := 13) (n := 2254) (Nat.le_refl _) (Nat.le_refl _) ?_
  refine zPutF (ty := (.array .int)) ([(h0, .inr (5, [.ref (ad1 0 0), .ref (ad2 0 0), .int (0 : Int32), .int (0 : Int32), .int (0 : Int32), .int (-1 : Int32), .int (0 : Int32), .int (0 : Int32), .ref q3, .null]))] ++ (kX6 cI cB (ad1 0) iX6) ++ (kX4 cI cB (ad2 0) iX4) ++ [(q3, .inl (cI, 9, .inl (fun _ => 0)))]) C.1 hin wuX5 tyX5 tyX5_ok nmX5 hK hP hD hS 0 rfl rfl 8 (by decide) wfX5_44 rfl rfl rfl (by decide +kernel) rfl rfl (Nat.le_of_ble_eq_true rfl) dX5_init_61 rfl (fun H locs hP hD hS => ?_)
  refine lv_aload_n C.1.1 C.1.2.1 dX5_init_64 rfl (lv_at hl 0 rfl) ?_
  refine lv_bipush (v := 9) C.1.1 C.1.2.1 dX5_init_65 (by decide) ?_
  refine zNewI 9 C.1 hK hP hD hS hA 0 rfl (by decide) (by decide) (by decide) (Nat.le_of_ble_eq_true rfl) (Nat.le_of_ble_eq_true rfl) dX5_init_67 wAI (fun q4 H hP hD hS => ?_)
  have hP : va_P (dC, dI) vwCl ([(h0, .inr (5, [.ref (ad1 0 0), .ref (ad2 0 0), .int (0 : Int32), .int (0 : Int32), .int (0 : Int32), .int (-1 : Int32), .int (0 : Int32), .int (0 : Int32), .ref q3, .null]))] ++ (kX6 cI cB (ad1 0) iX6) ++ (kX4 cI cB (ad2 0) iX4) ++ [(q3, .inl (cI, 9, .inl (fun _ => 0))), (q4, .inl (cI, 9, .inl (fun _ => 0)))]) H := hP
  have hD : va_D A ([(h0, .inr (5, [.ref (ad1 0 0), .ref (ad2 0 0), .int (0 : Int32), .int (0 : Int32), .int (0 : Int32), .int (-1 : Int32), .int (0 : Int32), .int (0 : Int32), .ref q3, .null]))] ++ (kX6 cI cB (ad1 0) iX6) ++ (kX4 cI cB (ad2 0) iX4) ++ [(q3, .inl (cI, 9, .inl (fun _ => 0))), (q4, .inl (cI, 9, .inl (fun _ => 0)))]) := hD
  refine W.widen (k := 14) (n := 2263) (Nat.le_refl _) (Nat.le_refl _) ?_
  refine zPutF (ty := (.array .int)) ([(h0, .inr (5, [.ref (ad1 0 0), .ref (ad2 0 0), .int (0 : Int32), .int (0 : Int32), .int (0 : Int32), .int (-1 : Int32), .int (0 : Int32), .int (0 : Int32), .ref q3, .ref q4]))] ++ (kX6 cI cB (ad1 0) iX6) ++ (kX4 cI cB (ad2 0) iX4) ++ [(q3, .inl (cI, 9, .inl (fun _ => 0))), (q4, .inl (cI, 9, .inl (fun _ => 0)))]) C.1 hin wuX5 tyX5 tyX5_ok nmX5 hK hP hD hS 0 rfl rfl 9 (by decide) wfX5_48 rfl rfl rfl (by decide +kernel) rfl rfl (Nat.le_of_ble_eq_true rfl) dX5_init_69 rfl (fun H locs hP hD hS => ?_)
  rw [← hQ]
  exact zRc (ad := (zsel [zl [h0, q3, q4], ad1 0, ad2 0])) C rfl hK (hP.sub (ws' := (kX5 cI cB ((zsel [zl [h0, q3, q4], ad1 0, ad2 0]) 0) (((zsel [zl [h0, q3, q4], ad1 0, ad2 0]) 1) 0) (((zsel [zl [h0, q3, q4], ad1 0, ad2 0]) 2) 0) iX5 ++ kX6 cI cB ((zsel [zl [h0, q3, q4], ad1 0, ad2 0]) 1) iX6 ++ kX4 cI cB ((zsel [zl [h0, q3, q4], ad1 0, ad2 0]) 2) iX4)) [0, 13, 14, 1, 2, 3, 4, 5, 6, 7, 8, 9, 10, 11, 12] rfl) (hD.sub (ws' := (kX5 cI cB ((zsel [zl [h0, q3, q4], ad1 0, ad2 0]) 0) (((zsel [zl [h0, q3, q4], ad1 0, ad2 0]) 1) 0) (((zsel [zl [h0, q3, q4], ad1 0, ad2 0]) 2) 0) iX5 ++ kX6 cI cB ((zsel [zl [h0, q3, q4], ad1 0, ad2 0]) 1) iX6 ++ kX4 cI cB ((zsel [zl [h0, q3, q4], ad1 0, ad2 0]) 2) iX4)) [0, 13, 14, 1, 2, 3, 4, 5, 6, 7, 8, 9, 10, 11, 12] (by decide +kernel) rfl) hS dX5_init_72
def iX7 : Rc := fun k _ => if k = 7 then 8 else if k = 8 then 40 else if k = 9 then 3 else 0
theorem zdX7 : ∀ j, j < 11 → defaultValue (tyX7 j) = vp_V [.null, .null, .null, .null, .null, .int 0, .null, .int 0, .int 0, .int 0, .int 0] j := by
  intro j hj
  match j, hj with
  | 0, _ => rfl
  | 1, _ => rfl
  | 2, _ => rfl
  | 3, _ => rfl
  | 4, _ => rfl
  | 5, _ => rfl
  | 6, _ => rfl
  | 7, _ => rfl
  | 8, _ => rfl
  | 9, _ => rfl
  | 10, _ => rfl
  | k + 11, h => exact absurd h (by omega)
abbrev rX7_init : Room := { frames := 3, cells := 48, slots := 24562, locals := 52 }
set_option maxHeartbeats 4000000 in
set_option maxRecDepth 100000 in
theorem mtX7_init (l : Launch) (dC : Nat → ClassId) (dI : Nat → Nat → Nat) (cI cB : ClassId) (h0 : Nat) (sz : Nat) : zMc l yX7_init (Cond.code yX7_init cX7_init 1 none :: lw_g) rX7_init (dC, dI) [(cI, .int), (cB, .byte)] h0 sz [(h0, .inr (7, [.null, .null, .null, .null, .null, .int 0, .null, .int 0, .int 0, .int 0, .int 0]))] (fun ad => (kX7 cI cB (ad 0) ((ad 1) 0) ((ad 5) 0) ((ad 9) 0) ((ad 11) 0) ((ad 4) 0) iX7 ++ kX5 cI cB (ad 1) ((ad 2) 0) ((ad 3) 0) iX5 ++ kX6 cI cB (ad 2) iX6 ++ kX4 cI cB (ad 3) iX4 ++ kX4 cI cB (ad 4) iX4 ++ kX1 cI cB (ad 5) ((ad 6) 0) ((ad 7) 0) ((ad 8) 0) ++ kA8 cI cB (ad 6) (fun _ => 0) ++ kA8 cI cB (ad 7) (fun _ => 0) ++ kX3 cI cB (ad 8) iX3 ++ kX2 cI cB (ad 9) ((ad 10) 0) iX2 ++ kX3 cI cB (ad 10) iX3 ++ kX0 cI cB (ad 11) iX0)) 48 24562 := by
  refine zStC (cc := cX7_init) (maxL := 1) (ret := none) (own := RX7) (fun A => zCq (dC, dI) [(cI, .int), (cB, .byte)] A h0 (fun ad => (kX7 cI cB (ad 0) ((ad 1) 0) ((ad 5) 0) ((ad 9) 0) ((ad 11) 0) ((ad 4) 0) iX7 ++ kX5 cI cB (ad 1) ((ad 2) 0) ((ad 3) 0) iX5 ++ kX6 cI cB (ad 2) iX6 ++ kX4 cI cB (ad 3) iX4 ++ kX4 cI cB (ad 4) iX4 ++ kX1 cI cB (ad 5) ((ad 6) 0) ((ad 7) 0) ((ad 8) 0) ++ kA8 cI cB (ad 6) (fun _ => 0) ++ kA8 cI cB (ad 7) (fun _ => 0) ++ kX3 cI cB (ad 8) iX3 ++ kX2 cI cB (ad 9) ((ad 10) 0) iX2 ++ kX3 cI cB (ad 10) iX3 ++ kX0 cI cB (ad 11) iX0))) (by decide) rfl rfl rfl (Nat.le_of_ble_eq_true rfl) ?_
  intro p e s m below meth c ls A H locs C hin hK hA hP hD hS hl
  generalize hQ : MQ below (zCq (dC, dI) [(cI, .int), (cB, .byte)] A h0 (fun ad => (kX7 cI cB (ad 0) ((ad 1) 0) ((ad 5) 0) ((ad 9) 0) ((ad 11) 0) ((ad 4) 0) iX7 ++ kX5 cI cB (ad 1) ((ad 2) 0) ((ad 3) 0) iX5 ++ kX6 cI cB (ad 2) iX6 ++ kX4 cI cB (ad 3) iX4 ++ kX4 cI cB (ad 4) iX4 ++ kX1 cI cB (ad 5) ((ad 6) 0) ((ad 7) 0) ((ad 8) 0) ++ kA8 cI cB (ad 6) (fun _ => 0) ++ kA8 cI cB (ad 7) (fun _ => 0) ++ kX3 cI cB (ad 8) iX3 ++ kX2 cI cB (ad 9) ((ad 10) 0) iX2 ++ kX3 cI cB (ad 10) iX3 ++ kX0 cI cB (ad 11) iX0))) _ s 48 24562 A = QQ
  generalize ([.ref h0] : List Value).toArray = args at C hQ ⊢
  have hl : lv_has ls 1 [(0, .ref h0)] := hl
  refine lv_aload_n C.1.1 C.1.2.1 dX7_init_0 rfl (lv_at hl 0 rfl) ?_
  refine W.objInit C.1.1 C.1.2.1 C.1.2.2.2.1 (C.1.2.2.2.2 _ wlX7_3) (C.1.2.2.2.2 _ wOi) (C.1.2.2.2.2 _ wOc) rfl (by rw [C.1.2.2.1]; exact hl.1) rfl dX7_init_1 (Nat.le_of_ble_eq_true rfl) (Nat.le_of_ble_eq_true rfl) ?_
  refine W.eq (g2 := F0 m 4 ls []) rfl ?_
  refine lv_aload_n C.1.1 C.1.2.1 dX7_init_4 rfl (lv_at hl 0 rfl) ?_
  refine va_new (ci := 5) (fs := [.null, .null, .int 0, .int 0, .int 0, .int 0, .int 0, .int 0, .null, .null]) (C := RX5) (T := TX5) (N := 10) C.1.1 C.1.2.1 C.1.2.2.2.2 wuX5 tyX5 tyX5_ok C.1.2.2.2.1 (C.1.2.2.2.2 _ wxX7_9) (C.1.2.2.2.2 _ wqX5) (C.1.2.2.2.2 _ wnX5) hK.1 hP hD hS hA rfl zdX5 (Nat.le_of_ble_eq_true rfl) (Nat.le_of_ble_eq_true rfl) dX7_init_5 (fun q1 H hP hD hS => ?_)
  have hP : va_P (dC, dI) vwCl ([(h0, .inr (7, [.null, .null, .null, .null, .null, .int 0, .null, .int 0, .int 0, .int 0, .int 0])), (q1, .inr (5, [.null, .null, .int 0, .int 0, .int 0, .int 0, .int 0, .int 0, .null, .null]))]) H := hP
  have hD : va_D A ([(h0, .inr (7, [.null, .null, .null, .null, .null, .int 0, .null, .int 0, .int 0, .int 0, .int 0])), (q1, .inr (5, [.null, .null, .int 0, .int 0, .int 0, .int 0, .int 0, .int 0, .null, .null]))]) := hD
  refine W.widen (k := 1) (n := 10) (Nat.le_refl _) (Nat.le_refl _) ?_
  refine lv_dup C.1.1 C.1.2.1 dX7_init_8 rfl ?_
  refine zCIn (wr := ([(h0, .inr (7, [.null, .null, .null, .null, .null, .int 0, .null, .int 0, .int 0, .int 0, .int 0]))])) (wf := fun ad => (kX5 cI cB (ad 0) ((ad 1) 0) ((ad 2) 0) iX5 ++ kX6 cI cB (ad 1) iX6 ++ kX4 cI cB (ad 2) iX4)) (rest := [.ref q1, .ref h0]) C.1 hK hA hP hD hS [1] [0] (mtX5_init l dC dI cI cB q1 H.size) "HalfGates" nmX7_11 wiX5_init wnX5 wkX5_init rfl rfl rfl (by decide +kernel) ⟨Nat.le_of_ble_eq_true rfl, Nat.le_of_ble_eq_true rfl⟩ rfl rfl (by decide +kernel) hl.1 (Nat.le_of_ble_eq_true rfl) dX7_init_9 ⟨Nat.le_of_ble_eq_true rfl, Nat.le_of_ble_eq_true rfl⟩ rfl (fun ad1 H locs had hP2 hD2 hS2 => ?_)
  clear hP hD hS
  subst had
  have hP := hP2
  have hD := hD2
  have hS := hS2
  have hP : va_P (dC, dI) vwCl ([(h0, .inr (7, [.null, .null, .null, .null, .null, .int 0, .null, .int 0, .int 0, .int 0, .int 0]))] ++ (kX5 cI cB (ad1 0) ((ad1 1) 0) ((ad1 2) 0) iX5 ++ kX6 cI cB (ad1 1) iX6 ++ kX4 cI cB (ad1 2) iX4)) H := hP
  have hD : va_D A ([(h0, .inr (7, [.null, .null, .null, .null, .null, .int 0, .null, .int 0, .int 0, .int 0, .int 0]))] ++ (kX5 cI cB (ad1 0) ((ad1 1) 0) ((ad1 2) 0) iX5 ++ kX6 cI cB (ad1 1) iX6 ++ kX4 cI cB (ad1 2) iX4)) := hD
  refine W.widen (k := 15) (n := 2273) (Nat.le_refl _) (Nat.le_refl _) ?_
  refine zPutF (ty := (.object "HalfGates$Reader")) ([(h0, .inr (7, [.ref (ad1 0 0), .null, .null, .null, .null, .int 0, .null, .int 0, .int 0, .int 0, .int 0]))] ++ (kX5 cI cB (ad1 0) ((ad1 1) 0) ((ad1 2) 0) iX5 ++ kX6 cI cB (ad1 1) iX6 ++ kX4 cI cB (ad1 2) iX4)) C.1 hin wuX7 tyX7 tyX7_ok nmX7 hK hP hD hS 0 rfl rfl 0 (by decide) wfX7_12 rfl rfl rfl (by decide +kernel) rfl rfl (Nat.le_of_ble_eq_true rfl) dX7_init_12 rfl (fun H locs hP hD hS => ?_)
  refine lv_aload_n C.1.1 C.1.2.1 dX7_init_15 rfl (lv_at hl 0 rfl) ?_
  refine va_new (ci := 1) (fs := [.null, .null, .null]) (C := RX1) (T := TX1) (N := 3) C.1.1 C.1.2.1 C.1.2.2.2.2 wuX1 tyX1 tyX1_ok C.1.2.2.2.1 (C.1.2.2.2.2 _ wxX7_16) (C.1.2.2.2.2 _ wqX1) (C.1.2.2.2.2 _ wnX1) hK.1 hP hD hS hA rfl zdX1 (Nat.le_of_ble_eq_true rfl) (Nat.le_of_ble_eq_true rfl) dX7_init_16 (fun q2 H hP hD hS => ?_)
  have hP : va_P (dC, dI) vwCl ([(h0, .inr (7, [.ref (ad1 0 0), .null, .null, .null, .null, .int 0, .null, .int 0, .int 0, .int 0, .int 0]))] ++ (kX5 cI cB (ad1 0) ((ad1 1) 0) ((ad1 2) 0) iX5 ++ kX6 cI cB (ad1 1) iX6 ++ kX4 cI cB (ad1 2) iX4) ++ [(q2, .inr (1, [.null, .null, .null]))]) H := hP
  have hD : va_D A ([(h0, .inr (7, [.ref (ad1 0 0), .null, .null, .null, .null, .int 0, .null, .int 0, .int 0, .int 0, .int 0]))] ++ (kX5 cI cB (ad1 0) ((ad1 1) 0) ((ad1 2) 0) iX5 ++ kX6 cI cB (ad1 1) iX6 ++ kX4 cI cB (ad1 2) iX4) ++ [(q2, .inr (1, [.null, .null, .null]))]) := hD
  refine W.widen (k := 16) (n := 2276) (Nat.le_refl _) (Nat.le_refl _) ?_
  refine lv_dup C.1.1 C.1.2.1 dX7_init_19 rfl ?_
  refine zCIn (wr := ([(h0, .inr (7, [.ref (ad1 0 0), .null, .null, .null, .null, .int 0, .null, .int 0, .int 0, .int 0, .int 0]))] ++ (kX5 cI cB (ad1 0) ((ad1 1) 0) ((ad1 2) 0) iX5 ++ kX6 cI cB (ad1 1) iX6 ++ kX4 cI cB (ad1 2) iX4))) (wf := fun ad => (kX1 cI cB (ad 0) ((ad 1) 0) ((ad 2) 0) ((ad 3) 0) ++ kA8 cI cB (ad 1) (fun _ => 0) ++ kA8 cI cB (ad 2) (fun _ => 0) ++ kX3 cI cB (ad 3) iX3)) (rest := [.ref q2, .ref h0]) C.1 hK hA hP hD hS [16] [0, 1, 2, 3, 4, 5, 6, 7, 8, 9, 10, 11, 12, 13, 14, 15] (mtX1_init l dC dI cI cB q2 H.size) "HalfGates" nmX7_18 wiX1_init wnX1 wkX1_init rfl rfl rfl (by decide +kernel) ⟨Nat.le_of_ble_eq_true rfl, Nat.le_of_ble_eq_true rfl⟩ rfl rfl (by decide +kernel) hl.1 (Nat.le_of_ble_eq_true rfl) dX7_init_20 ⟨Nat.le_of_ble_eq_true rfl, Nat.le_of_ble_eq_true rfl⟩ rfl (fun ad2 H locs had hP2 hD2 hS2 => ?_)
  clear hP hD hS
  subst had
  have hP := hP2
  have hD := hD2
  have hS := hS2
  have hP : va_P (dC, dI) vwCl ([(h0, .inr (7, [.ref (ad1 0 0), .null, .null, .null, .null, .int 0, .null, .int 0, .int 0, .int 0, .int 0]))] ++ (kX5 cI cB (ad1 0) ((ad1 1) 0) ((ad1 2) 0) iX5 ++ kX6 cI cB (ad1 1) iX6 ++ kX4 cI cB (ad1 2) iX4) ++ (kX1 cI cB (ad2 0) ((ad2 1) 0) ((ad2 2) 0) ((ad2 3) 0) ++ kA8 cI cB (ad2 1) (fun _ => 0) ++ kA8 cI cB (ad2 2) (fun _ => 0) ++ kX3 cI cB (ad2 3) iX3)) H := hP
  have hD : va_D A ([(h0, .inr (7, [.ref (ad1 0 0), .null, .null, .null, .null, .int 0, .null, .int 0, .int 0, .int 0, .int 0]))] ++ (kX5 cI cB (ad1 0) ((ad1 1) 0) ((ad1 2) 0) iX5 ++ kX6 cI cB (ad1 1) iX6 ++ kX4 cI cB (ad1 2) iX4) ++ (kX1 cI cB (ad2 0) ((ad2 1) 0) ((ad2 2) 0) ((ad2 3) 0) ++ kA8 cI cB (ad2 1) (fun _ => 0) ++ kA8 cI cB (ad2 2) (fun _ => 0) ++ kX3 cI cB (ad2 3) iX3)) := hD
  refine W.widen (k := 20) (n := 2306) (Nat.le_refl _) (Nat.le_refl _) ?_
  refine zPutF (ty := (.object "HalfGates$Machine")) ([(h0, .inr (7, [.ref (ad1 0 0), .ref (ad2 0 0), .null, .null, .null, .int 0, .null, .int 0, .int 0, .int 0, .int 0]))] ++ (kX5 cI cB (ad1 0) ((ad1 1) 0) ((ad1 2) 0) iX5 ++ kX6 cI cB (ad1 1) iX6 ++ kX4 cI cB (ad1 2) iX4) ++ (kX1 cI cB (ad2 0) ((ad2 1) 0) ((ad2 2) 0) ((ad2 3) 0) ++ kA8 cI cB (ad2 1) (fun _ => 0) ++ kA8 cI cB (ad2 2) (fun _ => 0) ++ kX3 cI cB (ad2 3) iX3)) C.1 hin wuX7 tyX7 tyX7_ok nmX7 hK hP hD hS 0 rfl rfl 1 (by decide) wfX7_19 rfl rfl rfl (by decide +kernel) rfl rfl (Nat.le_of_ble_eq_true rfl) dX7_init_23 rfl (fun H locs hP hD hS => ?_)
  refine lv_aload_n C.1.1 C.1.2.1 dX7_init_26 rfl (lv_at hl 0 rfl) ?_
  refine va_new (ci := 2) (fs := [.null, .null, .null, .null, .null, .null, .null, .null, .null, .int 0, .int 0]) (C := RX2) (T := TX2) (N := 11) C.1.1 C.1.2.1 C.1.2.2.2.2 wuX2 tyX2 tyX2_ok C.1.2.2.2.1 (C.1.2.2.2.2 _ wxX7_23) (C.1.2.2.2.2 _ wqX2) (C.1.2.2.2.2 _ wnX2) hK.1 hP hD hS hA rfl zdX2 (Nat.le_of_ble_eq_true rfl) (Nat.le_of_ble_eq_true rfl) dX7_init_27 (fun q3 H hP hD hS => ?_)
  have hP : va_P (dC, dI) vwCl ([(h0, .inr (7, [.ref (ad1 0 0), .ref (ad2 0 0), .null, .null, .null, .int 0, .null, .int 0, .int 0, .int 0, .int 0]))] ++ (kX5 cI cB (ad1 0) ((ad1 1) 0) ((ad1 2) 0) iX5 ++ kX6 cI cB (ad1 1) iX6 ++ kX4 cI cB (ad1 2) iX4) ++ (kX1 cI cB (ad2 0) ((ad2 1) 0) ((ad2 2) 0) ((ad2 3) 0) ++ kA8 cI cB (ad2 1) (fun _ => 0) ++ kA8 cI cB (ad2 2) (fun _ => 0) ++ kX3 cI cB (ad2 3) iX3) ++ [(q3, .inr (2, [.null, .null, .null, .null, .null, .null, .null, .null, .null, .int 0, .int 0]))]) H := hP
  have hD : va_D A ([(h0, .inr (7, [.ref (ad1 0 0), .ref (ad2 0 0), .null, .null, .null, .int 0, .null, .int 0, .int 0, .int 0, .int 0]))] ++ (kX5 cI cB (ad1 0) ((ad1 1) 0) ((ad1 2) 0) iX5 ++ kX6 cI cB (ad1 1) iX6 ++ kX4 cI cB (ad1 2) iX4) ++ (kX1 cI cB (ad2 0) ((ad2 1) 0) ((ad2 2) 0) ((ad2 3) 0) ++ kA8 cI cB (ad2 1) (fun _ => 0) ++ kA8 cI cB (ad2 2) (fun _ => 0) ++ kX3 cI cB (ad2 3) iX3) ++ [(q3, .inr (2, [.null, .null, .null, .null, .null, .null, .null, .null, .null, .int 0, .int 0]))]) := hD
  refine W.widen (k := 21) (n := 2317) (Nat.le_refl _) (Nat.le_refl _) ?_
  refine lv_dup C.1.1 C.1.2.1 dX7_init_30 rfl ?_
  refine zCIn (wr := ([(h0, .inr (7, [.ref (ad1 0 0), .ref (ad2 0 0), .null, .null, .null, .int 0, .null, .int 0, .int 0, .int 0, .int 0]))] ++ (kX5 cI cB (ad1 0) ((ad1 1) 0) ((ad1 2) 0) iX5 ++ kX6 cI cB (ad1 1) iX6 ++ kX4 cI cB (ad1 2) iX4) ++ (kX1 cI cB (ad2 0) ((ad2 1) 0) ((ad2 2) 0) ((ad2 3) 0) ++ kA8 cI cB (ad2 1) (fun _ => 0) ++ kA8 cI cB (ad2 2) (fun _ => 0) ++ kX3 cI cB (ad2 3) iX3))) (wf := fun ad => (kX2 cI cB (ad 0) ((ad 1) 0) iX2 ++ kX3 cI cB (ad 1) iX3)) (rest := [.ref q3, .ref h0]) C.1 hK hA hP hD hS [21] [0, 1, 2, 3, 4, 5, 6, 7, 8, 9, 10, 11, 12, 13, 14, 15, 16, 17, 18, 19, 20] (mtX2_init l dC dI cI cB q3 H.size) "HalfGates" nmX7_25 wiX2_init wnX2 wkX2_init rfl rfl rfl (by decide +kernel) ⟨Nat.le_of_ble_eq_true rfl, Nat.le_of_ble_eq_true rfl⟩ rfl rfl (by decide +kernel) hl.1 (Nat.le_of_ble_eq_true rfl) dX7_init_31 ⟨Nat.le_of_ble_eq_true rfl, Nat.le_of_ble_eq_true rfl⟩ rfl (fun ad3 H locs had hP2 hD2 hS2 => ?_)
  clear hP hD hS
  subst had
  have hP := hP2
  have hD := hD2
  have hS := hS2
  have hP : va_P (dC, dI) vwCl ([(h0, .inr (7, [.ref (ad1 0 0), .ref (ad2 0 0), .null, .null, .null, .int 0, .null, .int 0, .int 0, .int 0, .int 0]))] ++ (kX5 cI cB (ad1 0) ((ad1 1) 0) ((ad1 2) 0) iX5 ++ kX6 cI cB (ad1 1) iX6 ++ kX4 cI cB (ad1 2) iX4) ++ (kX1 cI cB (ad2 0) ((ad2 1) 0) ((ad2 2) 0) ((ad2 3) 0) ++ kA8 cI cB (ad2 1) (fun _ => 0) ++ kA8 cI cB (ad2 2) (fun _ => 0) ++ kX3 cI cB (ad2 3) iX3) ++ (kX2 cI cB (ad3 0) ((ad3 1) 0) iX2 ++ kX3 cI cB (ad3 1) iX3)) H := hP
  have hD : va_D A ([(h0, .inr (7, [.ref (ad1 0 0), .ref (ad2 0 0), .null, .null, .null, .int 0, .null, .int 0, .int 0, .int 0, .int 0]))] ++ (kX5 cI cB (ad1 0) ((ad1 1) 0) ((ad1 2) 0) iX5 ++ kX6 cI cB (ad1 1) iX6 ++ kX4 cI cB (ad1 2) iX4) ++ (kX1 cI cB (ad2 0) ((ad2 1) 0) ((ad2 2) 0) ((ad2 3) 0) ++ kA8 cI cB (ad2 1) (fun _ => 0) ++ kA8 cI cB (ad2 2) (fun _ => 0) ++ kX3 cI cB (ad2 3) iX3) ++ (kX2 cI cB (ad3 0) ((ad3 1) 0) iX2 ++ kX3 cI cB (ad3 1) iX3)) := hD
  refine W.widen (k := 31) (n := 2423) (Nat.le_refl _) (Nat.le_refl _) ?_
  refine zPutF (ty := (.object "HalfGates$Needs")) ([(h0, .inr (7, [.ref (ad1 0 0), .ref (ad2 0 0), .ref (ad3 0 0), .null, .null, .int 0, .null, .int 0, .int 0, .int 0, .int 0]))] ++ (kX5 cI cB (ad1 0) ((ad1 1) 0) ((ad1 2) 0) iX5 ++ kX6 cI cB (ad1 1) iX6 ++ kX4 cI cB (ad1 2) iX4) ++ (kX1 cI cB (ad2 0) ((ad2 1) 0) ((ad2 2) 0) ((ad2 3) 0) ++ kA8 cI cB (ad2 1) (fun _ => 0) ++ kA8 cI cB (ad2 2) (fun _ => 0) ++ kX3 cI cB (ad2 3) iX3) ++ (kX2 cI cB (ad3 0) ((ad3 1) 0) iX2 ++ kX3 cI cB (ad3 1) iX3)) C.1 hin wuX7 tyX7 tyX7_ok nmX7 hK hP hD hS 0 rfl rfl 2 (by decide) wfX7_26 rfl rfl rfl (by decide +kernel) rfl rfl (Nat.le_of_ble_eq_true rfl) dX7_init_34 rfl (fun H locs hP hD hS => ?_)
  refine lv_aload_n C.1.1 C.1.2.1 dX7_init_37 rfl (lv_at hl 0 rfl) ?_
  refine va_new (ci := 0) (fs := [.null, .int 0, .int 0, .int 0, .int 0, .int 0, .null, .int 0, .null, .null, .null]) (C := RX0) (T := TX0) (N := 11) C.1.1 C.1.2.1 C.1.2.2.2.2 wuX0 tyX0 tyX0_ok C.1.2.2.2.1 (C.1.2.2.2.2 _ wxX7_30) (C.1.2.2.2.2 _ wqX0) (C.1.2.2.2.2 _ wnX0) hK.1 hP hD hS hA rfl zdX0 (Nat.le_of_ble_eq_true rfl) (Nat.le_of_ble_eq_true rfl) dX7_init_38 (fun q4 H hP hD hS => ?_)
  have hP : va_P (dC, dI) vwCl ([(h0, .inr (7, [.ref (ad1 0 0), .ref (ad2 0 0), .ref (ad3 0 0), .null, .null, .int 0, .null, .int 0, .int 0, .int 0, .int 0]))] ++ (kX5 cI cB (ad1 0) ((ad1 1) 0) ((ad1 2) 0) iX5 ++ kX6 cI cB (ad1 1) iX6 ++ kX4 cI cB (ad1 2) iX4) ++ (kX1 cI cB (ad2 0) ((ad2 1) 0) ((ad2 2) 0) ((ad2 3) 0) ++ kA8 cI cB (ad2 1) (fun _ => 0) ++ kA8 cI cB (ad2 2) (fun _ => 0) ++ kX3 cI cB (ad2 3) iX3) ++ (kX2 cI cB (ad3 0) ((ad3 1) 0) iX2 ++ kX3 cI cB (ad3 1) iX3) ++ [(q4, .inr (0, [.null, .int 0, .int 0, .int 0, .int 0, .int 0, .null, .int 0, .null, .null, .null]))]) H := hP
  have hD : va_D A ([(h0, .inr (7, [.ref (ad1 0 0), .ref (ad2 0 0), .ref (ad3 0 0), .null, .null, .int 0, .null, .int 0, .int 0, .int 0, .int 0]))] ++ (kX5 cI cB (ad1 0) ((ad1 1) 0) ((ad1 2) 0) iX5 ++ kX6 cI cB (ad1 1) iX6 ++ kX4 cI cB (ad1 2) iX4) ++ (kX1 cI cB (ad2 0) ((ad2 1) 0) ((ad2 2) 0) ((ad2 3) 0) ++ kA8 cI cB (ad2 1) (fun _ => 0) ++ kA8 cI cB (ad2 2) (fun _ => 0) ++ kX3 cI cB (ad2 3) iX3) ++ (kX2 cI cB (ad3 0) ((ad3 1) 0) iX2 ++ kX3 cI cB (ad3 1) iX3) ++ [(q4, .inr (0, [.null, .int 0, .int 0, .int 0, .int 0, .int 0, .null, .int 0, .null, .null, .null]))]) := hD
  refine W.widen (k := 32) (n := 2434) (Nat.le_refl _) (Nat.le_refl _) ?_
  refine lv_dup C.1.1 C.1.2.1 dX7_init_41 rfl ?_
  refine zCIn (wr := ([(h0, .inr (7, [.ref (ad1 0 0), .ref (ad2 0 0), .ref (ad3 0 0), .null, .null, .int 0, .null, .int 0, .int 0, .int 0, .int 0]))] ++ (kX5 cI cB (ad1 0) ((ad1 1) 0) ((ad1 2) 0) iX5 ++ kX6 cI cB (ad1 1) iX6 ++ kX4 cI cB (ad1 2) iX4) ++ (kX1 cI cB (ad2 0) ((ad2 1) 0) ((ad2 2) 0) ((ad2 3) 0) ++ kA8 cI cB (ad2 1) (fun _ => 0) ++ kA8 cI cB (ad2 2) (fun _ => 0) ++ kX3 cI cB (ad2 3) iX3) ++ (kX2 cI cB (ad3 0) ((ad3 1) 0) iX2 ++ kX3 cI cB (ad3 1) iX3))) (wf := fun ad => (kX0 cI cB (ad 0) iX0)) (rest := [.ref q4, .ref h0]) C.1 hK hA hP hD hS [32] [0, 1, 2, 3, 4, 5, 6, 7, 8, 9, 10, 11, 12, 13, 14, 15, 16, 17, 18, 19, 20, 21, 22, 23, 24, 25, 26, 27, 28, 29, 30, 31] (mtX0_init l dC dI cI cB q4 H.size) "HalfGates" nmX7_32 wiX0_init wnX0 wkX0_init rfl rfl rfl (by decide +kernel) ⟨Nat.le_of_ble_eq_true rfl, Nat.le_of_ble_eq_true rfl⟩ rfl rfl (by decide +kernel) hl.1 (Nat.le_of_ble_eq_true rfl) dX7_init_42 ⟨Nat.le_of_ble_eq_true rfl, Nat.le_of_ble_eq_true rfl⟩ rfl (fun ad4 H locs had hP2 hD2 hS2 => ?_)
  clear hP hD hS
  subst had
  have hP := hP2
  have hD := hD2
  have hS := hS2
  have hP : va_P (dC, dI) vwCl ([(h0, .inr (7, [.ref (ad1 0 0), .ref (ad2 0 0), .ref (ad3 0 0), .null, .null, .int 0, .null, .int 0, .int 0, .int 0, .int 0]))] ++ (kX5 cI cB (ad1 0) ((ad1 1) 0) ((ad1 2) 0) iX5 ++ kX6 cI cB (ad1 1) iX6 ++ kX4 cI cB (ad1 2) iX4) ++ (kX1 cI cB (ad2 0) ((ad2 1) 0) ((ad2 2) 0) ((ad2 3) 0) ++ kA8 cI cB (ad2 1) (fun _ => 0) ++ kA8 cI cB (ad2 2) (fun _ => 0) ++ kX3 cI cB (ad2 3) iX3) ++ (kX2 cI cB (ad3 0) ((ad3 1) 0) iX2 ++ kX3 cI cB (ad3 1) iX3) ++ (kX0 cI cB (ad4 0) iX0)) H := hP
  have hD : va_D A ([(h0, .inr (7, [.ref (ad1 0 0), .ref (ad2 0 0), .ref (ad3 0 0), .null, .null, .int 0, .null, .int 0, .int 0, .int 0, .int 0]))] ++ (kX5 cI cB (ad1 0) ((ad1 1) 0) ((ad1 2) 0) iX5 ++ kX6 cI cB (ad1 1) iX6 ++ kX4 cI cB (ad1 2) iX4) ++ (kX1 cI cB (ad2 0) ((ad2 1) 0) ((ad2 2) 0) ((ad2 3) 0) ++ kA8 cI cB (ad2 1) (fun _ => 0) ++ kA8 cI cB (ad2 2) (fun _ => 0) ++ kX3 cI cB (ad2 3) iX3) ++ (kX2 cI cB (ad3 0) ((ad3 1) 0) iX2 ++ kX3 cI cB (ad3 1) iX3) ++ (kX0 cI cB (ad4 0) iX0)) := hD
  refine W.widen (k := 37) (n := 18831) (Nat.le_refl _) (Nat.le_refl _) ?_
  refine zPutF (ty := (.object "HalfGates$Cuts")) ([(h0, .inr (7, [.ref (ad1 0 0), .ref (ad2 0 0), .ref (ad3 0 0), .ref (ad4 0 0), .null, .int 0, .null, .int 0, .int 0, .int 0, .int 0]))] ++ (kX5 cI cB (ad1 0) ((ad1 1) 0) ((ad1 2) 0) iX5 ++ kX6 cI cB (ad1 1) iX6 ++ kX4 cI cB (ad1 2) iX4) ++ (kX1 cI cB (ad2 0) ((ad2 1) 0) ((ad2 2) 0) ((ad2 3) 0) ++ kA8 cI cB (ad2 1) (fun _ => 0) ++ kA8 cI cB (ad2 2) (fun _ => 0) ++ kX3 cI cB (ad2 3) iX3) ++ (kX2 cI cB (ad3 0) ((ad3 1) 0) iX2 ++ kX3 cI cB (ad3 1) iX3) ++ (kX0 cI cB (ad4 0) iX0)) C.1 hin wuX7 tyX7 tyX7_ok nmX7 hK hP hD hS 0 rfl rfl 3 (by decide) wfX7_33 rfl rfl rfl (by decide +kernel) rfl rfl (Nat.le_of_ble_eq_true rfl) dX7_init_45 rfl (fun H locs hP hD hS => ?_)
  refine lv_aload_n C.1.1 C.1.2.1 dX7_init_48 rfl (lv_at hl 0 rfl) ?_
  refine lv_sipush (v := 4096) C.1.1 C.1.2.1 dX7_init_49 (by decide) ?_
  refine zNewI 4096 C.1 hK hP hD hS hA 0 rfl (by decide) (by decide) (by decide) (Nat.le_of_ble_eq_true rfl) (Nat.le_of_ble_eq_true rfl) dX7_init_52 wAI (fun q5 H hP hD hS => ?_)
  have hP : va_P (dC, dI) vwCl ([(h0, .inr (7, [.ref (ad1 0 0), .ref (ad2 0 0), .ref (ad3 0 0), .ref (ad4 0 0), .null, .int 0, .null, .int 0, .int 0, .int 0, .int 0]))] ++ (kX5 cI cB (ad1 0) ((ad1 1) 0) ((ad1 2) 0) iX5 ++ kX6 cI cB (ad1 1) iX6 ++ kX4 cI cB (ad1 2) iX4) ++ (kX1 cI cB (ad2 0) ((ad2 1) 0) ((ad2 2) 0) ((ad2 3) 0) ++ kA8 cI cB (ad2 1) (fun _ => 0) ++ kA8 cI cB (ad2 2) (fun _ => 0) ++ kX3 cI cB (ad2 3) iX3) ++ (kX2 cI cB (ad3 0) ((ad3 1) 0) iX2 ++ kX3 cI cB (ad3 1) iX3) ++ (kX0 cI cB (ad4 0) iX0) ++ [(q5, .inl (cI, 4096, .inl (fun _ => 0)))]) H := hP
  have hD : va_D A ([(h0, .inr (7, [.ref (ad1 0 0), .ref (ad2 0 0), .ref (ad3 0 0), .ref (ad4 0 0), .null, .int 0, .null, .int 0, .int 0, .int 0, .int 0]))] ++ (kX5 cI cB (ad1 0) ((ad1 1) 0) ((ad1 2) 0) iX5 ++ kX6 cI cB (ad1 1) iX6 ++ kX4 cI cB (ad1 2) iX4) ++ (kX1 cI cB (ad2 0) ((ad2 1) 0) ((ad2 2) 0) ((ad2 3) 0) ++ kA8 cI cB (ad2 1) (fun _ => 0) ++ kA8 cI cB (ad2 2) (fun _ => 0) ++ kX3 cI cB (ad2 3) iX3) ++ (kX2 cI cB (ad3 0) ((ad3 1) 0) iX2 ++ kX3 cI cB (ad3 1) iX3) ++ (kX0 cI cB (ad4 0) iX0) ++ [(q5, .inl (cI, 4096, .inl (fun _ => 0)))]) := hD
  refine W.widen (k := 38) (n := 22927) (Nat.le_refl _) (Nat.le_refl _) ?_
  refine zPutF (ty := (.array .int)) ([(h0, .inr (7, [.ref (ad1 0 0), .ref (ad2 0 0), .ref (ad3 0 0), .ref (ad4 0 0), .ref q5, .int 0, .null, .int 0, .int 0, .int 0, .int 0]))] ++ (kX5 cI cB (ad1 0) ((ad1 1) 0) ((ad1 2) 0) iX5 ++ kX6 cI cB (ad1 1) iX6 ++ kX4 cI cB (ad1 2) iX4) ++ (kX1 cI cB (ad2 0) ((ad2 1) 0) ((ad2 2) 0) ((ad2 3) 0) ++ kA8 cI cB (ad2 1) (fun _ => 0) ++ kA8 cI cB (ad2 2) (fun _ => 0) ++ kX3 cI cB (ad2 3) iX3) ++ (kX2 cI cB (ad3 0) ((ad3 1) 0) iX2 ++ kX3 cI cB (ad3 1) iX3) ++ (kX0 cI cB (ad4 0) iX0) ++ [(q5, .inl (cI, 4096, .inl (fun _ => 0)))]) C.1 hin wuX7 tyX7 tyX7_ok nmX7 hK hP hD hS 0 rfl rfl 4 (by decide) wfX7_37 rfl rfl rfl (by decide +kernel) rfl rfl (Nat.le_of_ble_eq_true rfl) dX7_init_54 rfl (fun H locs hP hD hS => ?_)
  refine lv_aload_n C.1.1 C.1.2.1 dX7_init_57 rfl (lv_at hl 0 rfl) ?_
  refine lv_iconst (v := 0) C.1.1 C.1.2.1 dX7_init_58 (by decide) ?_
  refine zPut (ty := .int) ([(h0, .inr (7, [.ref (ad1 0 0), .ref (ad2 0 0), .ref (ad3 0 0), .ref (ad4 0 0), .ref q5, .int (0 : Int32), .null, .int 0, .int 0, .int 0, .int 0]))] ++ (kX5 cI cB (ad1 0) ((ad1 1) 0) ((ad1 2) 0) iX5 ++ kX6 cI cB (ad1 1) iX6 ++ kX4 cI cB (ad1 2) iX4) ++ (kX1 cI cB (ad2 0) ((ad2 1) 0) ((ad2 2) 0) ((ad2 3) 0) ++ kA8 cI cB (ad2 1) (fun _ => 0) ++ kA8 cI cB (ad2 2) (fun _ => 0) ++ kX3 cI cB (ad2 3) iX3) ++ (kX2 cI cB (ad3 0) ((ad3 1) 0) iX2 ++ kX3 cI cB (ad3 1) iX3) ++ (kX0 cI cB (ad4 0) iX0) ++ [(q5, .inl (cI, 4096, .inl (fun _ => 0)))]) C.1 wuX7 tyX7 tyX7_ok nmX7 hK hP hD hS 0 rfl rfl 5 (by decide) wfX7_41 rfl rfl (by decide +kernel) (by decide +kernel) (by decide +kernel) (Nat.le_of_ble_eq_true rfl) dX7_init_59 rfl (fun H locs hP hD hS => ?_)
  refine lv_aload_n C.1.1 C.1.2.1 dX7_init_62 rfl (lv_at hl 0 rfl) ?_
  refine va_new (ci := 4) (fs := [.int 0, .int 0, .int 0, .int 0, .null, .null, .null, .null, .null, .null, .null, .null, .null]) (C := RX4) (T := TX4) (N := 13) C.1.1 C.1.2.1 C.1.2.2.2.2 wuX4 tyX4 tyX4_ok C.1.2.2.2.1 (C.1.2.2.2.2 _ wxX7_45) (C.1.2.2.2.2 _ wqX4) (C.1.2.2.2.2 _ wnX4) hK.1 hP hD hS hA rfl zdX4 (Nat.le_of_ble_eq_true rfl) (Nat.le_of_ble_eq_true rfl) dX7_init_63 (fun q6 H hP hD hS => ?_)
  have hP : va_P (dC, dI) vwCl ([(h0, .inr (7, [.ref (ad1 0 0), .ref (ad2 0 0), .ref (ad3 0 0), .ref (ad4 0 0), .ref q5, .int (0 : Int32), .null, .int 0, .int 0, .int 0, .int 0]))] ++ (kX5 cI cB (ad1 0) ((ad1 1) 0) ((ad1 2) 0) iX5 ++ kX6 cI cB (ad1 1) iX6 ++ kX4 cI cB (ad1 2) iX4) ++ (kX1 cI cB (ad2 0) ((ad2 1) 0) ((ad2 2) 0) ((ad2 3) 0) ++ kA8 cI cB (ad2 1) (fun _ => 0) ++ kA8 cI cB (ad2 2) (fun _ => 0) ++ kX3 cI cB (ad2 3) iX3) ++ (kX2 cI cB (ad3 0) ((ad3 1) 0) iX2 ++ kX3 cI cB (ad3 1) iX3) ++ (kX0 cI cB (ad4 0) iX0) ++ [(q5, .inl (cI, 4096, .inl (fun _ => 0))), (q6, .inr (4, [.int 0, .int 0, .int 0, .int 0, .null, .null, .null, .null, .null, .null, .null, .null, .null]))]) H := hP
  have hD : va_D A ([(h0, .inr (7, [.ref (ad1 0 0), .ref (ad2 0 0), .ref (ad3 0 0), .ref (ad4 0 0), .ref q5, .int (0 : Int32), .null, .int 0, .int 0, .int 0, .int 0]))] ++ (kX5 cI cB (ad1 0) ((ad1 1) 0) ((ad1 2) 0) iX5 ++ kX6 cI cB (ad1 1) iX6 ++ kX4 cI cB (ad1 2) iX4) ++ (kX1 cI cB (ad2 0) ((ad2 1) 0) ((ad2 2) 0) ((ad2 3) 0) ++ kA8 cI cB (ad2 1) (fun _ => 0) ++ kA8 cI cB (ad2 2) (fun _ => 0) ++ kX3 cI cB (ad2 3) iX3) ++ (kX2 cI cB (ad3 0) ((ad3 1) 0) iX2 ++ kX3 cI cB (ad3 1) iX3) ++ (kX0 cI cB (ad4 0) iX0) ++ [(q5, .inl (cI, 4096, .inl (fun _ => 0))), (q6, .inr (4, [.int 0, .int 0, .int 0, .int 0, .null, .null, .null, .null, .null, .null, .null, .null, .null]))]) := hD
  refine W.widen (k := 39) (n := 22940) (Nat.le_refl _) (Nat.le_refl _) ?_
  refine lv_dup C.1.1 C.1.2.1 dX7_init_66 rfl ?_
  refine zCIn (wr := ([(h0, .inr (7, [.ref (ad1 0 0), .ref (ad2 0 0), .ref (ad3 0 0), .ref (ad4 0 0), .ref q5, .int (0 : Int32), .null, .int 0, .int 0, .int 0, .int 0]))] ++ (kX5 cI cB (ad1 0) ((ad1 1) 0) ((ad1 2) 0) iX5 ++ kX6 cI cB (ad1 1) iX6 ++ kX4 cI cB (ad1 2) iX4) ++ (kX1 cI cB (ad2 0) ((ad2 1) 0) ((ad2 2) 0) ((ad2 3) 0) ++ kA8 cI cB (ad2 1) (fun _ => 0) ++ kA8 cI cB (ad2 2) (fun _ => 0) ++ kX3 cI cB (ad2 3) iX3) ++ (kX2 cI cB (ad3 0) ((ad3 1) 0) iX2 ++ kX3 cI cB (ad3 1) iX3) ++ (kX0 cI cB (ad4 0) iX0) ++ [(q5, .inl (cI, 4096, .inl (fun _ => 0)))])) (wf := fun ad => (kX4 cI cB (ad 0) iX4)) (rest := [.ref q6, .ref h0]) C.1 hK hA hP hD hS [39] [0, 1, 2, 3, 4, 5, 6, 7, 8, 9, 10, 11, 12, 13, 14, 15, 16, 17, 18, 19, 20, 21, 22, 23, 24, 25, 26, 27, 28, 29, 30, 31, 32, 33, 34, 35, 36, 37, 38] (mtX4_init l dC dI cI cB q6 H.size) "HalfGates" nmX7_47 wiX4_init wnX4 wkX4_init rfl rfl rfl (by decide +kernel) ⟨Nat.le_of_ble_eq_true rfl, Nat.le_of_ble_eq_true rfl⟩ rfl rfl (by decide +kernel) hl.1 (Nat.le_of_ble_eq_true rfl) dX7_init_67 ⟨Nat.le_of_ble_eq_true rfl, Nat.le_of_ble_eq_true rfl⟩ rfl (fun ad6 H locs had hP2 hD2 hS2 => ?_)
  clear hP hD hS
  subst had
  have hP := hP2
  have hD := hD2
  have hS := hS2
  have hP : va_P (dC, dI) vwCl ([(h0, .inr (7, [.ref (ad1 0 0), .ref (ad2 0 0), .ref (ad3 0 0), .ref (ad4 0 0), .ref q5, .int (0 : Int32), .null, .int 0, .int 0, .int 0, .int 0]))] ++ (kX5 cI cB (ad1 0) ((ad1 1) 0) ((ad1 2) 0) iX5 ++ kX6 cI cB (ad1 1) iX6 ++ kX4 cI cB (ad1 2) iX4) ++ (kX1 cI cB (ad2 0) ((ad2 1) 0) ((ad2 2) 0) ((ad2 3) 0) ++ kA8 cI cB (ad2 1) (fun _ => 0) ++ kA8 cI cB (ad2 2) (fun _ => 0) ++ kX3 cI cB (ad2 3) iX3) ++ (kX2 cI cB (ad3 0) ((ad3 1) 0) iX2 ++ kX3 cI cB (ad3 1) iX3) ++ (kX0 cI cB (ad4 0) iX0) ++ [(q5, .inl (cI, 4096, .inl (fun _ => 0)))] ++ (kX4 cI cB (ad6 0) iX4)) H := hP
  have hD : va_D A ([(h0, .inr (7, [.ref (ad1 0 0), .ref (ad2 0 0), .ref (ad3 0 0), .ref (ad4 0 0), .ref q5, .int (0 : Int32), .null, .int 0, .int 0, .int 0, .int 0]))] ++ (kX5 cI cB (ad1 0) ((ad1 1) 0) ((ad1 2) 0) iX5 ++ kX6 cI cB (ad1 1) iX6 ++ kX4 cI cB (ad1 2) iX4) ++ (kX1 cI cB (ad2 0) ((ad2 1) 0) ((ad2 2) 0) ((ad2 3) 0) ++ kA8 cI cB (ad2 1) (fun _ => 0) ++ kA8 cI cB (ad2 2) (fun _ => 0) ++ kX3 cI cB (ad2 3) iX3) ++ (kX2 cI cB (ad3 0) ((ad3 1) 0) iX2 ++ kX3 cI cB (ad3 1) iX3) ++ (kX0 cI cB (ad4 0) iX0) ++ [(q5, .inl (cI, 4096, .inl (fun _ => 0)))] ++ (kX4 cI cB (ad6 0) iX4)) := hD
  refine W.widen (k := 48) (n := 24562) (Nat.le_refl _) (Nat.le_refl _) ?_
  refine zPut (ty := (.object "HalfGates$Program")) ([(h0, .inr (7, [.ref (ad1 0 0), .ref (ad2 0 0), .ref (ad3 0 0), .ref (ad4 0 0), .ref q5, .int (0 : Int32), .ref (ad6 0 0), .int 0, .int 0, .int 0, .int 0]))] ++ (kX5 cI cB (ad1 0) ((ad1 1) 0) ((ad1 2) 0) iX5 ++ kX6 cI cB (ad1 1) iX6 ++ kX4 cI cB (ad1 2) iX4) ++ (kX1 cI cB (ad2 0) ((ad2 1) 0) ((ad2 2) 0) ((ad2 3) 0) ++ kA8 cI cB (ad2 1) (fun _ => 0) ++ kA8 cI cB (ad2 2) (fun _ => 0) ++ kX3 cI cB (ad2 3) iX3) ++ (kX2 cI cB (ad3 0) ((ad3 1) 0) iX2 ++ kX3 cI cB (ad3 1) iX3) ++ (kX0 cI cB (ad4 0) iX0) ++ [(q5, .inl (cI, 4096, .inl (fun _ => 0)))] ++ (kX4 cI cB (ad6 0) iX4)) C.1 wuX7 tyX7 tyX7_ok nmX7 hK hP hD hS 0 rfl rfl 6 (by decide) wfX7_48 rfl rfl (by decide +kernel) rfl rfl (Nat.le_of_ble_eq_true rfl) dX7_init_70 rfl (fun H locs hP hD hS => ?_)
  refine lv_aload_n C.1.1 C.1.2.1 dX7_init_73 rfl (lv_at hl 0 rfl) ?_
  refine lv_bipush (v := 8) C.1.1 C.1.2.1 dX7_init_74 (by decide) ?_
  refine zPut (ty := .int) ([(h0, .inr (7, [.ref (ad1 0 0), .ref (ad2 0 0), .ref (ad3 0 0), .ref (ad4 0 0), .ref q5, .int (0 : Int32), .ref (ad6 0 0), .int (8 : Int32), .int 0, .int 0, .int 0]))] ++ (kX5 cI cB (ad1 0) ((ad1 1) 0) ((ad1 2) 0) iX5 ++ kX6 cI cB (ad1 1) iX6 ++ kX4 cI cB (ad1 2) iX4) ++ (kX1 cI cB (ad2 0) ((ad2 1) 0) ((ad2 2) 0) ((ad2 3) 0) ++ kA8 cI cB (ad2 1) (fun _ => 0) ++ kA8 cI cB (ad2 2) (fun _ => 0) ++ kX3 cI cB (ad2 3) iX3) ++ (kX2 cI cB (ad3 0) ((ad3 1) 0) iX2 ++ kX3 cI cB (ad3 1) iX3) ++ (kX0 cI cB (ad4 0) iX0) ++ [(q5, .inl (cI, 4096, .inl (fun _ => 0)))] ++ (kX4 cI cB (ad6 0) iX4)) C.1 wuX7 tyX7 tyX7_ok nmX7 hK hP hD hS 0 rfl rfl 7 (by decide) wfX7_52 rfl rfl (by decide +kernel) (by decide +kernel) (by decide +kernel) (Nat.le_of_ble_eq_true rfl) dX7_init_76 rfl (fun H locs hP hD hS => ?_)
  refine lv_aload_n C.1.1 C.1.2.1 dX7_init_79 rfl (lv_at hl 0 rfl) ?_
  refine lv_bipush (v := 40) C.1.1 C.1.2.1 dX7_init_80 (by decide) ?_
  refine zPut (ty := .int) ([(h0, .inr (7, [.ref (ad1 0 0), .ref (ad2 0 0), .ref (ad3 0 0), .ref (ad4 0 0), .ref q5, .int (0 : Int32), .ref (ad6 0 0), .int (8 : Int32), .int (40 : Int32), .int 0, .int 0]))] ++ (kX5 cI cB (ad1 0) ((ad1 1) 0) ((ad1 2) 0) iX5 ++ kX6 cI cB (ad1 1) iX6 ++ kX4 cI cB (ad1 2) iX4) ++ (kX1 cI cB (ad2 0) ((ad2 1) 0) ((ad2 2) 0) ((ad2 3) 0) ++ kA8 cI cB (ad2 1) (fun _ => 0) ++ kA8 cI cB (ad2 2) (fun _ => 0) ++ kX3 cI cB (ad2 3) iX3) ++ (kX2 cI cB (ad3 0) ((ad3 1) 0) iX2 ++ kX3 cI cB (ad3 1) iX3) ++ (kX0 cI cB (ad4 0) iX0) ++ [(q5, .inl (cI, 4096, .inl (fun _ => 0)))] ++ (kX4 cI cB (ad6 0) iX4)) C.1 wuX7 tyX7 tyX7_ok nmX7 hK hP hD hS 0 rfl rfl 8 (by decide) wfX7_55 rfl rfl (by decide +kernel) (by decide +kernel) (by decide +kernel) (Nat.le_of_ble_eq_true rfl) dX7_init_82 rfl (fun H locs hP hD hS => ?_)
  refine lv_aload_n C.1.1 C.1.2.1 dX7_init_85 rfl (lv_at hl 0 rfl) ?_
  refine lv_iconst (v := 3) C.1.1 C.1.2.1 dX7_init_86 (by decide) ?_
  refine zPut (ty := .int) ([(h0, .inr (7, [.ref (ad1 0 0), .ref (ad2 0 0), .ref (ad3 0 0), .ref (ad4 0 0), .ref q5, .int (0 : Int32), .ref (ad6 0 0), .int (8 : Int32), .int (40 : Int32), .int (3 : Int32), .int 0]))] ++ (kX5 cI cB (ad1 0) ((ad1 1) 0) ((ad1 2) 0) iX5 ++ kX6 cI cB (ad1 1) iX6 ++ kX4 cI cB (ad1 2) iX4) ++ (kX1 cI cB (ad2 0) ((ad2 1) 0) ((ad2 2) 0) ((ad2 3) 0) ++ kA8 cI cB (ad2 1) (fun _ => 0) ++ kA8 cI cB (ad2 2) (fun _ => 0) ++ kX3 cI cB (ad2 3) iX3) ++ (kX2 cI cB (ad3 0) ((ad3 1) 0) iX2 ++ kX3 cI cB (ad3 1) iX3) ++ (kX0 cI cB (ad4 0) iX0) ++ [(q5, .inl (cI, 4096, .inl (fun _ => 0)))] ++ (kX4 cI cB (ad6 0) iX4)) C.1 wuX7 tyX7 tyX7_ok nmX7 hK hP hD hS 0 rfl rfl 9 (by decide) wfX7_58 rfl rfl (by decide +kernel) (by decide +kernel) (by decide +kernel) (Nat.le_of_ble_eq_true rfl) dX7_init_87 rfl (fun H locs hP hD hS => ?_)
  refine lv_aload_n C.1.1 C.1.2.1 dX7_init_90 rfl (lv_at hl 0 rfl) ?_
  refine lv_iconst (v := 0) C.1.1 C.1.2.1 dX7_init_91 (by decide) ?_
  refine zPut (ty := .int) ([(h0, .inr (7, [.ref (ad1 0 0), .ref (ad2 0 0), .ref (ad3 0 0), .ref (ad4 0 0), .ref q5, .int (0 : Int32), .ref (ad6 0 0), .int (8 : Int32), .int (40 : Int32), .int (3 : Int32), .int (0 : Int32)]))] ++ (kX5 cI cB (ad1 0) ((ad1 1) 0) ((ad1 2) 0) iX5 ++ kX6 cI cB (ad1 1) iX6 ++ kX4 cI cB (ad1 2) iX4) ++ (kX1 cI cB (ad2 0) ((ad2 1) 0) ((ad2 2) 0) ((ad2 3) 0) ++ kA8 cI cB (ad2 1) (fun _ => 0) ++ kA8 cI cB (ad2 2) (fun _ => 0) ++ kX3 cI cB (ad2 3) iX3) ++ (kX2 cI cB (ad3 0) ((ad3 1) 0) iX2 ++ kX3 cI cB (ad3 1) iX3) ++ (kX0 cI cB (ad4 0) iX0) ++ [(q5, .inl (cI, 4096, .inl (fun _ => 0)))] ++ (kX4 cI cB (ad6 0) iX4)) C.1 wuX7 tyX7 tyX7_ok nmX7 hK hP hD hS 0 rfl rfl 10 (by decide) wfX7_61 rfl rfl (by decide +kernel) (by decide +kernel) (by decide +kernel) (Nat.le_of_ble_eq_true rfl) dX7_init_92 rfl (fun H locs hP hD hS => ?_)
  rw [← hQ]
  exact zRc (ad := (zsel [zl [h0, q5], ad1 0, ad1 1, ad1 2, ad6 0, ad2 0, ad2 1, ad2 2, ad2 3, ad3 0, ad3 1, ad4 0])) C rfl hK (hP.sub (ws' := (kX7 cI cB ((zsel [zl [h0, q5], ad1 0, ad1 1, ad1 2, ad6 0, ad2 0, ad2 1, ad2 2, ad2 3, ad3 0, ad3 1, ad4 0]) 0) (((zsel [zl [h0, q5], ad1 0, ad1 1, ad1 2, ad6 0, ad2 0, ad2 1, ad2 2, ad2 3, ad3 0, ad3 1, ad4 0]) 1) 0) (((zsel [zl [h0, q5], ad1 0, ad1 1, ad1 2, ad6 0, ad2 0, ad2 1, ad2 2, ad2 3, ad3 0, ad3 1, ad4 0]) 5) 0) (((zsel [zl [h0, q5], ad1 0, ad1 1, ad1 2, ad6 0, ad2 0, ad2 1, ad2 2, ad2 3, ad3 0, ad3 1, ad4 0]) 9) 0) (((zsel [zl [h0, q5], ad1 0, ad1 1, ad1 2, ad6 0, ad2 0, ad2 1, ad2 2, ad2 3, ad3 0, ad3 1, ad4 0]) 11) 0) (((zsel [zl [h0, q5], ad1 0, ad1 1, ad1 2, ad6 0, ad2 0, ad2 1, ad2 2, ad2 3, ad3 0, ad3 1, ad4 0]) 4) 0) iX7 ++ kX5 cI cB ((zsel [zl [h0, q5], ad1 0, ad1 1, ad1 2, ad6 0, ad2 0, ad2 1, ad2 2, ad2 3, ad3 0, ad3 1, ad4 0]) 1) (((zsel [zl [h0, q5], ad1 0, ad1 1, ad1 2, ad6 0, ad2 0, ad2 1, ad2 2, ad2 3, ad3 0, ad3 1, ad4 0]) 2) 0) (((zsel [zl [h0, q5], ad1 0, ad1 1, ad1 2, ad6 0, ad2 0, ad2 1, ad2 2, ad2 3, ad3 0, ad3 1, ad4 0]) 3) 0) iX5 ++ kX6 cI cB ((zsel [zl [h0, q5], ad1 0, ad1 1, ad1 2, ad6 0, ad2 0, ad2 1, ad2 2, ad2 3, ad3 0, ad3 1, ad4 0]) 2) iX6 ++ kX4 cI cB ((zsel [zl [h0, q5], ad1 0, ad1 1, ad1 2, ad6 0, ad2 0, ad2 1, ad2 2, ad2 3, ad3 0, ad3 1, ad4 0]) 3) iX4 ++ kX4 cI cB ((zsel [zl [h0, q5], ad1 0, ad1 1, ad1 2, ad6 0, ad2 0, ad2 1, ad2 2, ad2 3, ad3 0, ad3 1, ad4 0]) 4) iX4 ++ kX1 cI cB ((zsel [zl [h0, q5], ad1 0, ad1 1, ad1 2, ad6 0, ad2 0, ad2 1, ad2 2, ad2 3, ad3 0, ad3 1, ad4 0]) 5) (((zsel [zl [h0, q5], ad1 0, ad1 1, ad1 2, ad6 0, ad2 0, ad2 1, ad2 2, ad2 3, ad3 0, ad3 1, ad4 0]) 6) 0) (((zsel [zl [h0, q5], ad1 0, ad1 1, ad1 2, ad6 0, ad2 0, ad2 1, ad2 2, ad2 3, ad3 0, ad3 1, ad4 0]) 7) 0) (((zsel [zl [h0, q5], ad1 0, ad1 1, ad1 2, ad6 0, ad2 0, ad2 1, ad2 2, ad2 3, ad3 0, ad3 1, ad4 0]) 8) 0) ++ kA8 cI cB ((zsel [zl [h0, q5], ad1 0, ad1 1, ad1 2, ad6 0, ad2 0, ad2 1, ad2 2, ad2 3, ad3 0, ad3 1, ad4 0]) 6) (fun _ => 0) ++ kA8 cI cB ((zsel [zl [h0, q5], ad1 0, ad1 1, ad1 2, ad6 0, ad2 0, ad2 1, ad2 2, ad2 3, ad3 0, ad3 1, ad4 0]) 7) (fun _ => 0) ++ kX3 cI cB ((zsel [zl [h0, q5], ad1 0, ad1 1, ad1 2, ad6 0, ad2 0, ad2 1, ad2 2, ad2 3, ad3 0, ad3 1, ad4 0]) 8) iX3 ++ kX2 cI cB ((zsel [zl [h0, q5], ad1 0, ad1 1, ad1 2, ad6 0, ad2 0, ad2 1, ad2 2, ad2 3, ad3 0, ad3 1, ad4 0]) 9) (((zsel [zl [h0, q5], ad1 0, ad1 1, ad1 2, ad6 0, ad2 0, ad2 1, ad2 2, ad2 3, ad3 0, ad3 1, ad4 0]) 10) 0) iX2 ++ kX3 cI cB ((zsel [zl [h0, q5], ad1 0, ad1 1, ad1 2, ad6 0, ad2 0, ad2 1, ad2 2, ad2 3, ad3 0, ad3 1, ad4 0]) 10) iX3 ++ kX0 cI cB ((zsel [zl [h0, q5], ad1 0, ad1 1, ad1 2, ad6 0, ad2 0, ad2 1, ad2 2, ad2 3, ad3 0, ad3 1, ad4 0]) 11) iX0)) [0, 38, 1, 2, 3, 4, 5, 6, 7, 8, 9, 10, 11, 12, 13, 14, 15, 39, 40, 41, 42, 43, 44, 45, 46, 47, 48, 16, 17, 18, 19, 20, 21, 22, 23, 24, 25, 26, 27, 28, 29, 30, 31, 32, 33, 34, 35, 36, 37] rfl) (hD.sub (ws' := (kX7 cI cB ((zsel [zl [h0, q5], ad1 0, ad1 1, ad1 2, ad6 0, ad2 0, ad2 1, ad2 2, ad2 3, ad3 0, ad3 1, ad4 0]) 0) (((zsel [zl [h0, q5], ad1 0, ad1 1, ad1 2, ad6 0, ad2 0, ad2 1, ad2 2, ad2 3, ad3 0, ad3 1, ad4 0]) 1) 0) (((zsel [zl [h0, q5], ad1 0, ad1 1, ad1 2, ad6 0, ad2 0, ad2 1, ad2 2, ad2 3, ad3 0, ad3 1, ad4 0]) 5) 0) (((zsel [zl [h0, q5], ad1 0, ad1 1, ad1 2, ad6 0, ad2 0, ad2 1, ad2 2, ad2 3, ad3 0, ad3 1, ad4 0]) 9) 0) (((zsel [zl [h0, q5], ad1 0, ad1 1, ad1 2, ad6 0, ad2 0, ad2 1, ad2 2, ad2 3, ad3 0, ad3 1, ad4 0]) 11) 0) (((zsel [zl [h0, q5], ad1 0, ad1 1, ad1 2, ad6 0, ad2 0, ad2 1, ad2 2, ad2 3, ad3 0, ad3 1, ad4 0]) 4) 0) iX7 ++ kX5 cI cB ((zsel [zl [h0, q5], ad1 0, ad1 1, ad1 2, ad6 0, ad2 0, ad2 1, ad2 2, ad2 3, ad3 0, ad3 1, ad4 0]) 1) (((zsel [zl [h0, q5], ad1 0, ad1 1, ad1 2, ad6 0, ad2 0, ad2 1, ad2 2, ad2 3, ad3 0, ad3 1, ad4 0]) 2) 0) (((zsel [zl [h0, q5], ad1 0, ad1 1, ad1 2, ad6 0, ad2 0, ad2 1, ad2 2, ad2 3, ad3 0, ad3 1, ad4 0]) 3) 0) iX5 ++ kX6 cI cB ((zsel [zl [h0, q5], ad1 0, ad1 1, ad1 2, ad6 0, ad2 0, ad2 1, ad2 2, ad2 3, ad3 0, ad3 1, ad4 0]) 2) iX6 ++ kX4 cI cB ((zsel [zl [h0, q5], ad1 0, ad1 1, ad1 2, ad6 0, ad2 0, ad2 1, ad2 2, ad2 3, ad3 0, ad3 1, ad4 0]) 3) iX4 ++ kX4 cI cB ((zsel [zl [h0, q5], ad1 0, ad1 1, ad1 2, ad6 0, ad2 0, ad2 1, ad2 2, ad2 3, ad3 0, ad3 1, ad4 0]) 4) iX4 ++ kX1 cI cB ((zsel [zl [h0, q5], ad1 0, ad1 1, ad1 2, ad6 0, ad2 0, ad2 1, ad2 2, ad2 3, ad3 0, ad3 1, ad4 0]) 5) (((zsel [zl [h0, q5], ad1 0, ad1 1, ad1 2, ad6 0, ad2 0, ad2 1, ad2 2, ad2 3, ad3 0, ad3 1, ad4 0]) 6) 0) (((zsel [zl [h0, q5], ad1 0, ad1 1, ad1 2, ad6 0, ad2 0, ad2 1, ad2 2, ad2 3, ad3 0, ad3 1, ad4 0]) 7) 0) (((zsel [zl [h0, q5], ad1 0, ad1 1, ad1 2, ad6 0, ad2 0, ad2 1, ad2 2, ad2 3, ad3 0, ad3 1, ad4 0]) 8) 0) ++ kA8 cI cB ((zsel [zl [h0, q5], ad1 0, ad1 1, ad1 2, ad6 0, ad2 0, ad2 1, ad2 2, ad2 3, ad3 0, ad3 1, ad4 0]) 6) (fun _ => 0) ++ kA8 cI cB ((zsel [zl [h0, q5], ad1 0, ad1 1, ad1 2, ad6 0, ad2 0, ad2 1, ad2 2, ad2 3, ad3 0, ad3 1, ad4 0]) 7) (fun _ => 0) ++ kX3 cI cB ((zsel [zl [h0, q5], ad1 0, ad1 1, ad1 2, ad6 0, ad2 0, ad2 1, ad2 2, ad2 3, ad3 0, ad3 1, ad4 0]) 8) iX3 ++ kX2 cI cB ((zsel [zl [h0, q5], ad1 0, ad1 1, ad1 2, ad6 0, ad2 0, ad2 1, ad2 2, ad2 3, ad3 0, ad3 1, ad4 0]) 9) (((zsel [zl [h0, q5], ad1 0, ad1 1, ad1 2, ad6 0, ad2 0, ad2 1, ad2 2, ad2 3, ad3 0, ad3 1, ad4 0]) 10) 0) iX2 ++ kX3 cI cB ((zsel [zl [h0, q5], ad1 0, ad1 1, ad1 2, ad6 0, ad2 0, ad2 1, ad2 2, ad2 3, ad3 0, ad3 1, ad4 0]) 10) iX3 ++ kX0 cI cB ((zsel [zl [h0, q5], ad1 0, ad1 1, ad1 2, ad6 0, ad2 0, ad2 1, ad2 2, ad2 3, ad3 0, ad3 1, ad4 0]) 11) iX0)) [0, 38, 1, 2, 3, 4, 5, 6, 7, 8, 9, 10, 11, 12, 13, 14, 15, 39, 40, 41, 42, 43, 44, 45, 46, 47, 48, 16, 17, 18, 19, 20, 21, 22, 23, 24, 25, 26, 27, 28, 29, 30, 31, 32, 33, 34, 35, 36, 37] (by decide +kernel) rfl) hS dX7_init_95
