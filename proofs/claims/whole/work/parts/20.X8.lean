theorem dX8_init_0 : decode cX8_init 0 = .ok (.aload_n 0, 1) := by decide +kernel
theorem dX8_init_1 : decode cX8_init 1 = .ok (.invokespecial 3, 3) := by decide +kernel
theorem dX8_init_4 : decode cX8_init 4 = .ok (.aload_n 0, 1) := by decide +kernel
theorem dX8_init_5 : decode cX8_init 5 = .ok (.bipush 12, 2) := by decide +kernel
theorem dX8_init_7 : decode cX8_init 7 = .ok (.newarray .int, 2) := by decide +kernel
theorem dX8_init_9 : decode cX8_init 9 = .ok (.putfield 9, 3) := by decide +kernel
theorem dX8_init_12 : decode cX8_init 12 = .ok (.aload_n 0, 1) := by decide +kernel
theorem dX8_init_13 : decode cX8_init 13 = .ok (.bipush 12, 2) := by decide +kernel
theorem dX8_init_15 : decode cX8_init 15 = .ok (.newarray .int, 2) := by decide +kernel
theorem dX8_init_17 : decode cX8_init 17 = .ok (.putfield 15, 3) := by decide +kernel
theorem dX8_init_20 : decode cX8_init 20 = .ok (.aload_n 0, 1) := by decide +kernel
theorem dX8_init_21 : decode cX8_init 21 = .ok (.bipush 12, 2) := by decide +kernel
theorem dX8_init_23 : decode cX8_init 23 = .ok (.newarray .int, 2) := by decide +kernel
theorem dX8_init_25 : decode cX8_init 25 = .ok (.putfield 18, 3) := by decide +kernel
theorem dX8_init_28 : decode cX8_init 28 = .ok (.aload_n 0, 1) := by decide +kernel
theorem dX8_init_29 : decode cX8_init 29 = .ok (.bipush 96, 2) := by decide +kernel
theorem dX8_init_31 : decode cX8_init 31 = .ok (.newarray .byte, 2) := by decide +kernel
theorem dX8_init_33 : decode cX8_init 33 = .ok (.putfield 21, 3) := by decide +kernel
theorem dX8_init_36 : decode cX8_init 36 = .ok (.aload_n 0, 1) := by decide +kernel
theorem dX8_init_37 : decode cX8_init 37 = .ok (.bipush 96, 2) := by decide +kernel
theorem dX8_init_39 : decode cX8_init 39 = .ok (.newarray .int, 2) := by decide +kernel
theorem dX8_init_41 : decode cX8_init 41 = .ok (.putfield 25, 3) := by decide +kernel
theorem dX8_init_44 : decode cX8_init 44 = .ok (.aload_n 0, 1) := by decide +kernel
theorem dX8_init_45 : decode cX8_init 45 = .ok (.bipush 96, 2) := by decide +kernel
theorem dX8_init_47 : decode cX8_init 47 = .ok (.newarray .int, 2) := by decide +kernel
theorem dX8_init_49 : decode cX8_init 49 = .ok (.putfield 28, 3) := by decide +kernel
theorem dX8_init_52 : decode cX8_init 52 = .ok (.aload_n 0, 1) := by decide +kernel
theorem dX8_init_53 : decode cX8_init 53 = .ok (.bipush 96, 2) := by decide +kernel
theorem dX8_init_55 : decode cX8_init 55 = .ok (.newarray .int, 2) := by decide +kernel
theorem dX8_init_57 : decode cX8_init 57 = .ok (.putfield 31, 3) := by decide +kernel
theorem dX8_init_60 : decode cX8_init 60 = .ok (.aload_n 0, 1) := by decide +kernel
theorem dX8_init_61 : decode cX8_init 61 = .ok (.bipush 96, 2) := by decide +kernel
theorem dX8_init_63 : decode cX8_init 63 = .ok (.newarray .int, 2) := by decide +kernel
theorem dX8_init_65 : decode cX8_init 65 = .ok (.putfield 34, 3) := by decide +kernel
theorem dX8_init_68 : decode cX8_init 68 = .ok (.aload_n 0, 1) := by decide +kernel
theorem dX8_init_69 : decode cX8_init 69 = .ok (.sipush 700, 3) := by decide +kernel
theorem dX8_init_72 : decode cX8_init 72 = .ok (.newarray .int, 2) := by decide +kernel
theorem dX8_init_74 : decode cX8_init 74 = .ok (.putfield 37, 3) := by decide +kernel
theorem dX8_init_77 : decode cX8_init 77 = .ok (.aload_n 0, 1) := by decide +kernel
theorem dX8_init_78 : decode cX8_init 78 = .ok (.sipush 700, 3) := by decide +kernel
theorem dX8_init_81 : decode cX8_init 81 = .ok (.newarray .int, 2) := by decide +kernel
theorem dX8_init_83 : decode cX8_init 83 = .ok (.putfield 40, 3) := by decide +kernel
theorem dX8_init_86 : decode cX8_init 86 = .ok (.return_, 1) := by decide +kernel
theorem dX8_put_0 : decode cX8_put 0 = .ok (.aload_n 0, 1) := by decide +kernel
theorem dX8_put_1 : decode cX8_put 1 = .ok (.getfield 37, 3) := by decide +kernel
theorem dX8_put_4 : decode cX8_put 4 = .ok (.aload_n 0, 1) := by decide +kernel
theorem dX8_put_5 : decode cX8_put 5 = .ok (.getfield 43, 3) := by decide +kernel
theorem dX8_put_8 : decode cX8_put 8 = .ok (.iload_n 1, 1) := by decide +kernel
theorem dX8_put_9 : decode cX8_put 9 = .ok (.iastore, 1) := by decide +kernel
theorem dX8_put_10 : decode cX8_put 10 = .ok (.aload_n 0, 1) := by decide +kernel
theorem dX8_put_11 : decode cX8_put 11 = .ok (.getfield 40, 3) := by decide +kernel
theorem dX8_put_14 : decode cX8_put 14 = .ok (.aload_n 0, 1) := by decide +kernel
theorem dX8_put_15 : decode cX8_put 15 = .ok (.getfield 43, 3) := by decide +kernel
theorem dX8_put_18 : decode cX8_put 18 = .ok (.iload_n 2, 1) := by decide +kernel
theorem dX8_put_19 : decode cX8_put 19 = .ok (.iastore, 1) := by decide +kernel
theorem dX8_put_20 : decode cX8_put 20 = .ok (.aload_n 0, 1) := by decide +kernel
theorem dX8_put_21 : decode cX8_put 21 = .ok (.dup, 1) := by decide +kernel
theorem dX8_put_22 : decode cX8_put 22 = .ok (.getfield 43, 3) := by decide +kernel
theorem dX8_put_25 : decode cX8_put 25 = .ok (.iconst 1, 1) := by decide +kernel
theorem dX8_put_26 : decode cX8_put 26 = .ok (.iadd, 1) := by decide +kernel
theorem dX8_put_27 : decode cX8_put 27 = .ok (.putfield 43, 3) := by decide +kernel
theorem dX8_put_30 : decode cX8_put 30 = .ok (.return_, 1) := by decide +kernel
def fX8_put (mS : Rc) (p1 : Int32) (p2 : Int32) : Option (Rc) :=
  zGd (inb (mS 1 0) 700) <|
  zLet (rs mS 11 (upd (mS 11) (mS 1 0).toNatClampNeg p1)) fun mS_1 =>
  zGd (inb (mS_1 1 0) 700) <|
  zLet (rs mS_1 12 (upd (mS_1 12) (mS_1 1 0).toNatClampNeg p2)) fun mS_2 =>
  zLet (rs mS_2 1 (fun _ => ((mS_2 1 0) + (1 : Int32)))) fun mS_3 =>
  some mS_3
abbrev rX8_put : Room := { frames := 0, cells := 0, slots := 0, locals := 0 }
set_option maxHeartbeats 4000000 in
set_option maxRecDepth 100000 in
theorem mtX8_put (l : Launch) (dC : Nat → ClassId) (dI : Nat → Nat → Nat) (cI cB : ClassId) (bS : Nat → Nat) (sz : Nat) (mS : Rc) (p1 : Int32) (p2 : Int32) {mS' : Rc} (hf : fX8_put mS p1 p2 = some mS') : zMv l yX8_put (Cond.code yX8_put cX8_put 3 none :: lw_g) rX8_put (dC, dI) [(cI, .int), (cB, .byte)] [.ref (bS 0), .int p1, .int p2] sz (kX8 cI cB bS mS) (kX8 cI cB bS mS') := by
  refine zSt (cc := cX8_put) (maxL := 3) (ret := none) (own := RX8) (fun A => zQv (dC, dI) [(cI, .int), (cB, .byte)] A (kX8 cI cB bS mS')) (by decide) rfl rfl (Nat.le_of_ble_eq_true rfl) ?_
  intro p e s m below meth c ls A H locs C hK hA hP hD hS hl
  generalize hQ : MQ below (zQv (dC, dI) [(cI, .int), (cB, .byte)] A (kX8 cI cB bS mS')) _ s 0 0 A = QQ
  generalize ([.ref (bS 0), .int p1, .int p2] : List Value).toArray = args at C hQ ⊢
  have hl : lv_has ls 3 [(0, .ref (bS 0)), (1, .int p1), (2, .int p2)] := hl
  unfold fX8_put at hf
  refine lv_aload_n C.1.1 C.1.2.1 dX8_put_0 rfl (lv_at hl 0 rfl) ?_
  refine zGet (.ref (bS 9)) C.1 wuX8 hK hP 0 rfl rfl 11 (by decide) wfX8_37 rfl rfl dX8_put_1 ?_
  refine lv_aload_n C.1.1 C.1.2.1 dX8_put_4 rfl (lv_at hl 0 rfl) ?_
  refine zGet (.int (mS 1 0)) C.1 wuX8 hK hP 0 rfl rfl 1 (by decide) wfX8_43 rfl rfl dX8_put_5 ?_
  refine lv_iload_n C.1.1 C.1.2.1 dX8_put_8 rfl (lv_at hl 1 rfl) ?_
  obtain ⟨hib, hf⟩ := zGd_el hf
  obtain ⟨mS_1, emS_1, hf⟩ := zLet_el hf
  refine zIast (kX8 cI cB bS mS_1) C.1 hK hP hD hS 9 0 rfl rfl hib dX8_put_9 (by rw [emS_1]; rfl) (fun H locs hP hD hS => ?_)
  refine lv_aload_n C.1.1 C.1.2.1 dX8_put_10 rfl (lv_at hl 0 rfl) ?_
  refine zGet (.ref (bS 10)) C.1 wuX8 hK hP 0 rfl rfl 12 (by decide) wfX8_40 rfl rfl dX8_put_11 ?_
  refine lv_aload_n C.1.1 C.1.2.1 dX8_put_14 rfl (lv_at hl 0 rfl) ?_
  refine zGet (.int (mS_1 1 0)) C.1 wuX8 hK hP 0 rfl rfl 1 (by decide) wfX8_43 rfl rfl dX8_put_15 ?_
  refine lv_iload_n C.1.1 C.1.2.1 dX8_put_18 rfl (lv_at hl 2 rfl) ?_
  obtain ⟨hib, hf⟩ := zGd_el hf
  obtain ⟨mS_2, emS_2, hf⟩ := zLet_el hf
  refine zIast (kX8 cI cB bS mS_2) C.1 hK hP hD hS 10 0 rfl rfl hib dX8_put_19 (by rw [emS_2]; rfl) (fun H locs hP hD hS => ?_)
  refine lv_aload_n C.1.1 C.1.2.1 dX8_put_20 rfl (lv_at hl 0 rfl) ?_
  refine lv_dup C.1.1 C.1.2.1 dX8_put_21 rfl ?_
  refine zGet (.int (mS_2 1 0)) C.1 wuX8 hK hP 0 rfl rfl 1 (by decide) wfX8_43 rfl rfl dX8_put_22 ?_
  refine lv_iconst (v := 1) C.1.1 C.1.2.1 dX8_put_25 (by decide) ?_
  refine lv_iadd C.1.1 C.1.2.1 dX8_put_26 ?_
  obtain ⟨mS_3, emS_3, hf⟩ := zLet_el hf
  refine zPut (ty := .int) (kX8 cI cB bS mS_3) C.1 wuX8 tyX8 tyX8_ok nmX8 hK hP hD hS 0 rfl rfl 1 (by decide) wfX8_43 rfl rfl (by decide +kernel) rfl rfl (Nat.le_of_ble_eq_true rfl) dX8_put_27 (by rw [emS_3]; rfl) (fun H locs hP hD hS => ?_)
  cases hf
  rw [← hQ]
  exact zRv C hK hP hD hS dX8_put_30
