def fX10_stop (mL : Rc) (mW : Rc) (p1 : Int32) : Option (Rc) :=
  zLet (rs mW 6 (fun _ => p1)) fun mW_1 =>
  zLet (rs mW_1 7 (fun _ => (mL 16 0))) fun mW_2 =>
  some mW_2
abbrev rX10_stop : Room := { frames := 0, cells := 0, slots := 0, locals := 0 }
set_option maxHeartbeats 4000000 in
set_option maxRecDepth 100000 in
theorem mtX10_stop (l : Launch) (dC : Nat → ClassId) (dI : Nat → Nat → Nat) (cI cB : ClassId) (bV bP bS bW bN bO : Nat → Nat) (sz : Nat) (mZ : Rc) (mY : Rc) (mB : Rc) (mL : Rc) (mU : Rc) (mJ : Rc) (mK : Rc) (mG : Rc) (mA : Rc) (mW : Rc) (p1 : Int32) {mW' : Rc} (hf : fX10_stop mL mW p1 = some mW') : zMr l yX10_stop (Cond.code yX10_stop cX10_stop 2 (some (.object "HalfGatesModel$Stop")) :: lw_g) rX10_stop (dC, dI) [(cI, .int), (cB, .byte)] [.ref (bV 0), .int p1] sz (kX10 cI cB bV (bP 0) (bS 0) (bW 0) (bN 0) (bO 0) mZ mY mB mL mU mJ mK mG mA ++ kX9 cI cB bW mW) (bW 0) (kX10 cI cB bV (bP 0) (bS 0) (bW 0) (bN 0) (bO 0) mZ mY mB mL mU mJ mK mG mA ++ kX9 cI cB bW mW') := by
  refine zSt (cc := cX10_stop) (maxL := 2) (ret := (some (.object "HalfGatesModel$Stop"))) (own := RX10) (fun A => zQr (dC, dI) [(cI, .int), (cB, .byte)] A (bW 0) (kX10 cI cB bV (bP 0) (bS 0) (bW 0) (bN 0) (bO 0) mZ mY mB mL mU mJ mK mG mA ++ kX9 cI cB bW mW')) (by decide) rfl rfl (Nat.le_of_ble_eq_true rfl) ?_
  intro p e s m below meth c ls A H locs C hK hA hP hD hS hl
  generalize hQ : MQ below (zQr (dC, dI) [(cI, .int), (cB, .byte)] A (bW 0) (kX10 cI cB bV (bP 0) (bS 0) (bW 0) (bN 0) (bO 0) mZ mY mB mL mU mJ mK mG mA ++ kX9 cI cB bW mW')) _ s 0 0 A = QQ
  generalize ([.ref (bV 0), .int p1] : List Value).toArray = args at C hQ ⊢
  have hl : lv_has ls 2 [(0, .ref (bV 0)), (1, .int p1)] := hl
  unfold fX10_stop at hf
  refine lv_aload_n C.1.1 C.1.2.1 dX10_stop_0 rfl (lv_at hl 0 rfl) ?_
  refine zGet (.ref (bW 0)) C.1 wuX10 hK hP 0 rfl rfl 10 (by decide) wfX10_35 rfl rfl dX10_stop_1 ?_
  refine lv_iload_n C.1.1 C.1.2.1 dX10_stop_4 rfl (lv_at hl 1 rfl) ?_
  obtain ⟨mW_1, emW_1, hf⟩ := zLet_el hf
  refine zPutN (ty := .int) (kX10 cI cB bV (bP 0) (bS 0) (bW 0) (bN 0) (bO 0) mZ mY mB mL mU mJ mK mG mA ++ kX9 cI cB bW mW_1) C.1 wuX9 tyX9 tyX9_ok nmX9 hK hP hD hS 14 rfl rfl 6 (by decide) nfX10_92 rfl rfl (by decide +kernel) rfl rfl (Nat.le_of_ble_eq_true rfl) dX10_stop_5 (by rw [emW_1]; rfl) (fun H locs hP hD hS => ?_)
  refine lv_aload_n C.1.1 C.1.2.1 dX10_stop_8 rfl (lv_at hl 0 rfl) ?_
  refine zGet (.ref (bW 0)) C.1 wuX10 hK hP 0 rfl rfl 10 (by decide) wfX10_35 rfl rfl dX10_stop_9 ?_
  refine lv_aload_n C.1.1 C.1.2.1 dX10_stop_12 rfl (lv_at hl 0 rfl) ?_
  refine zGet (.int (mL 16 0)) C.1 wuX10 hK hP 0 rfl rfl 16 (by decide) wfX10_95 rfl rfl dX10_stop_13 ?_
  obtain ⟨mW_2, emW_2, hf⟩ := zLet_el hf
  refine zPutN (ty := .int) (kX10 cI cB bV (bP 0) (bS 0) (bW 0) (bN 0) (bO 0) mZ mY mB mL mU mJ mK mG mA ++ kX9 cI cB bW mW_2) C.1 wuX9 tyX9 tyX9_ok nmX9 hK hP hD hS 14 rfl rfl 7 (by decide) nfX10_98 rfl rfl (by decide +kernel) rfl rfl (Nat.le_of_ble_eq_true rfl) dX10_stop_16 (by rw [emW_2]; rfl) (fun H locs hP hD hS => ?_)
  refine lv_aload_n C.1.1 C.1.2.1 dX10_stop_19 rfl (lv_at hl 0 rfl) ?_
  refine zGet (.ref (bW 0)) C.1 wuX10 hK hP 0 rfl rfl 10 (by decide) wfX10_35 rfl rfl dX10_stop_20 ?_
  cases hf
  rw [← hQ]
  exact zRr C hK hP hD hS dX10_stop_23
def fX10_need (NN : Nat) (mB : Rc) (mL : Rc) (mW : Rc) (p1 : Int32) : Option (Int32 × Rc × Rc) :=
  zB1 (fX10_is mL p1) fun v1 =>
  if v1 = 0 then (
    zB1 (fX10_stop mL mW (1 : Int32)) fun mW_3 =>
    some ((1 : Int32), mL, mW_3)
  ) else (
    zB1 (fX10_next NN mB mL) fun mL_2 =>
    some ((0 : Int32), mL_2, mW)
  )
abbrev rX10_need : Room := { frames := 3, cells := 0, slots := 0, locals := 62 }
set_option maxHeartbeats 4000000 in
set_option maxRecDepth 100000 in
theorem mtX10_need (l : Launch) (dC : Nat → ClassId) (dI : Nat → Nat → Nat) (cI cB : ClassId) (bV bP bS bW bN bO : Nat → Nat) (sz : Nat) (NN : Nat) (mZ : Rc) (mY : Rc) (mB : Rc) (mL : Rc) (mU : Rc) (mJ : Rc) (mK : Rc) (mG : Rc) (mA : Rc) (mW : Rc) (p1 : Int32) {of : Int32} {mL' : Rc} {mW' : Rc} (hf : fX10_need NN mB mL mW p1 = some (of, mL', mW')) : zTv l yX10_need (Cond.code yX10_need cX10_need 2 none :: lw_g) rX10_need (dC, dI) [(cI, .int), (cB, .byte)] [.ref (bV 0), .int p1] sz (kX10 cI cB bV (bP 0) (bS 0) (bW 0) (bN 0) (bO 0) mZ mY mB mL mU mJ mK mG mA ++ kX9 cI cB bW mW) (bW 0) of (kX10 cI cB bV (bP 0) (bS 0) (bW 0) (bN 0) (bO 0) mZ mY mB mL' mU mJ mK mG mA ++ kX9 cI cB bW mW') := by
  refine zStT (cc := cX10_need) (maxL := 2) (ret := none) (own := RX10) (fun A => zTQv (dC, dI) [(cI, .int), (cB, .byte)] A of (kX10 cI cB bV (bP 0) (bS 0) (bW 0) (bN 0) (bO 0) mZ mY mB mL' mU mJ mK mG mA ++ kX9 cI cB bW mW')) (fun A => zXq (dC, dI) [(cI, .int), (cB, .byte)] A (bW 0) of (kX10 cI cB bV (bP 0) (bS 0) (bW 0) (bN 0) (bO 0) mZ mY mB mL' mU mJ mK mG mA ++ kX9 cI cB bW mW')) (by decide) rfl rfl (Nat.le_of_ble_eq_true rfl) ?_
  intro p e s m below meth c ls A H locs C ht hK hA hP hD hS hl
  generalize hQ : vy_MQ below (zTQv (dC, dI) [(cI, .int), (cB, .byte)] A of (kX10 cI cB bV (bP 0) (bS 0) (bW 0) (bN 0) (bO 0) mZ mY mB mL' mU mJ mK mG mA ++ kX9 cI cB bW mW')) (zXq (dC, dI) [(cI, .int), (cB, .byte)] A (bW 0) of (kX10 cI cB bV (bP 0) (bS 0) (bW 0) (bN 0) (bO 0) mZ mY mB mL' mU mJ mK mG mA ++ kX9 cI cB bW mW')) _ s 0 0 A = QQ
  generalize ([.ref (bV 0), .int p1] : List Value).toArray = args at C hQ ⊢
  have hl : lv_has ls 2 [(0, .ref (bV 0)), (1, .int p1)] := hl
  unfold fX10_need at hf
  refine lv_aload_n C.1.1 C.1.2.1 dX10_need_0 rfl (lv_at hl 0 rfl) ?_
  refine lv_iload_n C.1.1 C.1.2.1 dX10_need_1 rfl (lv_at hl 1 rfl) ?_
  obtain ⟨v1, hg, hf⟩ := zB1_el hf
  refine zCVi (As := [.int p1]) (rest := []) (wr := (kX9 cI cB bW mW)) (wn := (kX10 cI cB bV (bP 0) (bS 0) (bW 0) (bN 0) (bO 0) mZ mY mB mL mU mJ mK mG mA ++ kX9 cI cB bW mW)) C.1 hK hA hP hD hS [0, 1, 2, 3, 4, 5, 6, 7, 8, 9, 10, 11, 12, 13] [14] [1, 2, 3, 4, 5, 6, 7, 8, 9, 10, 11, 12, 13, 14, 0] 0 (mtX10_is l dC dI cI cB bV bP bS bW bN bO H.size mZ mY mB mL mU mJ mK mG mA p1 hg) (zCwV 1 C.1 wlX10_134 wiX10_is ws_X10_is wnX10 wkX10_is rfl rfl (by decide +kernel) ⟨Nat.le_of_ble_eq_true rfl, Nat.le_of_ble_eq_true rfl⟩) rfl rfl (by decide +kernel) rfl rfl rfl rfl hl.1 (Nat.le_of_ble_eq_true rfl) dX10_need_2 ⟨Nat.zero_le _, Nat.zero_le _⟩ rfl (fun H locs hP hD hS => ?_)
  refine lv_if_ne (tgt := 14) C.1.1 C.1.2.1 dX10_need_5 (by decide) (fun hc => ?_) (fun hc => ?_)
  · replace hf := zIf_f hf hc
    refine lv_aload_n C.1.1 C.1.2.1 dX10_need_14 rfl (lv_at hl 0 rfl) ?_
    obtain ⟨mL_2, hg, hf⟩ := zB1_el hf
    refine zCVv (As := []) (rest := []) (wr := (kX9 cI cB bW mW)) (wn := (kX10 cI cB bV (bP 0) (bS 0) (bW 0) (bN 0) (bO 0) mZ mY mB mL_2 mU mJ mK mG mA ++ kX9 cI cB bW mW)) C.1 hK hA hP hD hS [0, 1, 2, 3, 4, 5, 6, 7, 8, 9, 10, 11, 12, 13] [14] [1, 2, 3, 4, 5, 6, 7, 8, 9, 10, 11, 12, 13, 14, 0] 0 (mtX10_next l dC dI cI cB bV bP bS bW bN bO H.size NN mZ mY mB mL mU mJ mK mG mA hg) (zCwV 0 C.1 wlX10_140 wiX10_next ws_X10_next wnX10 wkX10_next rfl rfl (by decide +kernel) ⟨Nat.le_of_ble_eq_true rfl, Nat.le_of_ble_eq_true rfl⟩) rfl rfl (by decide +kernel) rfl rfl rfl rfl hl.1 (Nat.le_of_ble_eq_true rfl) dX10_need_15 ⟨Nat.zero_le _, Nat.zero_le _⟩ rfl (fun H locs hP hD hS => ?_)
    cases hf
    rw [← hQ]
    exact zRTv rfl C hK hP hD hS dX10_need_18
  · replace hf := zIf_t hf hc
    refine lv_aload_n C.1.1 C.1.2.1 dX10_need_8 rfl (lv_at hl 0 rfl) ?_
    refine lv_iconst (v := 1) C.1.1 C.1.2.1 dX10_need_9 (by decide) ?_
    obtain ⟨mW_3, hg, hf⟩ := zB1_el hf
    refine zCVr (As := [.int (1 : Int32)]) (rest := []) (wr := ([] : va_W)) (wn := (kX10 cI cB bV (bP 0) (bS 0) (bW 0) (bN 0) (bO 0) mZ mY mB mL mU mJ mK mG mA ++ kX9 cI cB bW mW_3)) C.1 hK hA hP hD hS [0, 1, 2, 3, 4, 5, 6, 7, 8, 9, 10, 11, 12, 13, 14] [] [0, 1, 2, 3, 4, 5, 6, 7, 8, 9, 10, 11, 12, 13, 14] 0 (mtX10_stop l dC dI cI cB bV bP bS bW bN bO H.size mZ mY mB mL mU mJ mK mG mA mW (1 : Int32) hg) (zCwV 1 C.1 wlX10_137 wiX10_stop ws_X10_stop wnX10 wkX10_stop rfl rfl (by decide +kernel) ⟨Nat.le_of_ble_eq_true rfl, Nat.le_of_ble_eq_true rfl⟩) rfl rfl (by decide +kernel) rfl rfl rfl rfl hl.1 (Nat.le_of_ble_eq_true rfl) dX10_need_10 ⟨Nat.zero_le _, Nat.zero_le _⟩ rfl (fun H locs hP hD hS => ?_)
    cases hf
    rw [← hQ]
    exact zThr 14 rfl C ht hK hP hD hS rfl dX10_need_13
def fX10_nameHere (mB : Rc) (mL : Rc) (mW : Rc) : Option (Int32 × Int32 × Rc) :=
  if (mL 15 0) = (2 : Int32) then (
    zJn (fun (_ : Unit) =>
        zB1 (fX10_stop mL mW (2 : Int32)) fun mW_2 =>
        some ((1 : Int32), (0 : Int32), mW_2)
      ) fun J36_1 =>
    if (mL 19 0) = (1 : Int32) then (
      zGd (inb (mL 16 0) 600) <|
      if (mB 11 (mL 16 0).toNatClampNeg) ≤ (104 : Int32) then (
        zGd (inb (mL 16 0) 600) <|
        some ((0 : Int32), ((mB 11 (mL 16 0).toNatClampNeg) - (97 : Int32)), mW)
      ) else (
        J36_1 ()
      )
    ) else (
      J36_1 ()
    )
  ) else (
    zB1 (fX10_stop mL mW (1 : Int32)) fun mW_3 =>
    some ((1 : Int32), (0 : Int32), mW_3)
  )
abbrev rX10_nameHere : Room := { frames := 1, cells := 0, slots := 0, locals := 21 }
set_option maxHeartbeats 4000000 in
set_option maxRecDepth 100000 in
theorem mtX10_nameHere (l : Launch) (dC : Nat → ClassId) (dI : Nat → Nat → Nat) (cI cB : ClassId) (bV bP bS bW bN bO : Nat → Nat) (sz : Nat) (mZ : Rc) (mY : Rc) (mB : Rc) (mL : Rc) (mU : Rc) (mJ : Rc) (mK : Rc) (mG : Rc) (mA : Rc) (mW : Rc) {of : Int32} {ov : Int32} {mW' : Rc} (hf : fX10_nameHere mB mL mW = some (of, ov, mW')) : zTi l yX10_nameHere (Cond.code yX10_nameHere cX10_nameHere 1 (some .int) :: lw_g) rX10_nameHere (dC, dI) [(cI, .int), (cB, .byte)] [.ref (bV 0)] sz (kX10 cI cB bV (bP 0) (bS 0) (bW 0) (bN 0) (bO 0) mZ mY mB mL mU mJ mK mG mA ++ kX9 cI cB bW mW) (bW 0) of ov (kX10 cI cB bV (bP 0) (bS 0) (bW 0) (bN 0) (bO 0) mZ mY mB mL mU mJ mK mG mA ++ kX9 cI cB bW mW') := by
  refine zStT (cc := cX10_nameHere) (maxL := 1) (ret := (some .int)) (own := RX10) (fun A => zTQi (dC, dI) [(cI, .int), (cB, .byte)] A of ov (kX10 cI cB bV (bP 0) (bS 0) (bW 0) (bN 0) (bO 0) mZ mY mB mL mU mJ mK mG mA ++ kX9 cI cB bW mW')) (fun A => zXq (dC, dI) [(cI, .int), (cB, .byte)] A (bW 0) of (kX10 cI cB bV (bP 0) (bS 0) (bW 0) (bN 0) (bO 0) mZ mY mB mL mU mJ mK mG mA ++ kX9 cI cB bW mW')) (by decide) rfl rfl (Nat.le_of_ble_eq_true rfl) ?_
  intro p e s m below meth c ls A H locs C ht hK hA hP hD hS hl
  generalize hQ : vy_MQ below (zTQi (dC, dI) [(cI, .int), (cB, .byte)] A of ov (kX10 cI cB bV (bP 0) (bS 0) (bW 0) (bN 0) (bO 0) mZ mY mB mL mU mJ mK mG mA ++ kX9 cI cB bW mW')) (zXq (dC, dI) [(cI, .int), (cB, .byte)] A (bW 0) of (kX10 cI cB bV (bP 0) (bS 0) (bW 0) (bN 0) (bO 0) mZ mY mB mL mU mJ mK mG mA ++ kX9 cI cB bW mW')) _ s 0 0 A = QQ
  generalize ([.ref (bV 0)] : List Value).toArray = args at C hQ ⊢
  have hl : lv_has ls 1 [(0, .ref (bV 0))] := hl
  unfold fX10_nameHere at hf
  refine lv_aload_n C.1.1 C.1.2.1 dX10_nameHere_0 rfl (lv_at hl 0 rfl) ?_
  refine zGet (.int (mL 15 0)) C.1 wuX10 hK hP 0 rfl rfl 15 (by decide) wfX10_112 rfl rfl dX10_nameHere_1 ?_
  refine lv_iconst (v := 2) C.1.1 C.1.2.1 dX10_nameHere_4 (by decide) ?_
  refine lv_icmp_eq (tgt := 14) C.1.1 C.1.2.1 dX10_nameHere_5 (by decide) (fun hc => ?_) (fun hc => ?_)
  · replace hf := zIf_t hf hc
    refine lv_aload_n C.1.1 C.1.2.1 dX10_nameHere_14 rfl (lv_at hl 0 rfl) ?_
    refine zGet (.int (mL 19 0)) C.1 wuX10 hK hP 0 rfl rfl 19 (by decide) wfX10_122 rfl rfl dX10_nameHere_15 ?_
    refine lv_iconst (v := 1) C.1.1 C.1.2.1 dX10_nameHere_18 (by decide) ?_
    obtain ⟨J36_1, eJ36_1, hf⟩ := zJn_el hf
    have hJ36_1 : ∀ (u : Unit), J36_1 u = some (of, ov, mW') → ∀ (H : Heap) (locs : List Loc), va_P (dC, dI) vwCl (kX10 cI cB bV (bP 0) (bS 0) (bW 0) (bN 0) (bO 0) mZ mY mB mL mU mJ mK mG mA ++ kX9 cI cB bW mW) H → va_D A (kX10 cI cB bV (bP 0) (bS 0) (bW 0) (bN 0) (bO 0) mZ mY mB mL mU mJ mK mG mA ++ kX9 cI cB bW mW) → va_S A s.heap H locs → ∀ (ls : Array Slot), lv_has ls 1 [(0, .ref (bV 0))] → W p l e rX10_nameHere s m args below meth c H locs 0 0 QQ (F0 m 36 ls []) := by
      intro u hf H locs hP hD hS ls hl
      rw [eJ36_1] at hf
      refine lv_aload_n C.1.1 C.1.2.1 dX10_nameHere_36 rfl (lv_at hl 0 rfl) ?_
      refine lv_iconst (v := 2) C.1.1 C.1.2.1 dX10_nameHere_37 (by decide) ?_
      obtain ⟨mW_2, hg, hf⟩ := zB1_el hf
      refine zCVr (As := [.int (2 : Int32)]) (rest := []) (wr := ([] : va_W)) (wn := (kX10 cI cB bV (bP 0) (bS 0) (bW 0) (bN 0) (bO 0) mZ mY mB mL mU mJ mK mG mA ++ kX9 cI cB bW mW_2)) C.1 hK hA hP hD hS [0, 1, 2, 3, 4, 5, 6, 7, 8, 9, 10, 11, 12, 13, 14] [] [0, 1, 2, 3, 4, 5, 6, 7, 8, 9, 10, 11, 12, 13, 14] 0 (mtX10_stop l dC dI cI cB bV bP bS bW bN bO H.size mZ mY mB mL mU mJ mK mG mA mW (2 : Int32) hg) (zCwV 1 C.1 wlX10_137 wiX10_stop ws_X10_stop wnX10 wkX10_stop rfl rfl (by decide +kernel) ⟨Nat.le_of_ble_eq_true rfl, Nat.le_of_ble_eq_true rfl⟩) rfl rfl (by decide +kernel) rfl rfl rfl rfl hl.1 (Nat.le_of_ble_eq_true rfl) dX10_nameHere_38 ⟨Nat.zero_le _, Nat.zero_le _⟩ rfl (fun H locs hP hD hS => ?_)
      cases hf
      rw [← hQ]
      exact zThr 14 rfl C ht hK hP hD hS rfl dX10_nameHere_41
    refine lv_icmp_ne (tgt := 36) C.1.1 C.1.2.1 dX10_nameHere_19 (by decide) (fun hc => ?_) (fun hc => ?_)
    · replace hf := zIf_f hf hc
      exact hJ36_1 () hf H locs hP hD hS ls (lv_sub hl [0] rfl)
    · replace hf := zIf_t hf hc
      refine lv_aload_n C.1.1 C.1.2.1 dX10_nameHere_22 rfl (lv_at hl 0 rfl) ?_
      refine zGet (.ref (bV 1)) C.1 wuX10 hK hP 0 rfl rfl 11 (by decide) wfX10_39 rfl rfl dX10_nameHere_23 ?_
      refine lv_aload_n C.1.1 C.1.2.1 dX10_nameHere_26 rfl (lv_at hl 0 rfl) ?_
      refine zGet (.int (mL 16 0)) C.1 wuX10 hK hP 0 rfl rfl 16 (by decide) wfX10_95 rfl rfl dX10_nameHere_27 ?_
      obtain ⟨hib, hf⟩ := zGd_el hf
      refine va_bald C.1.1 C.1.2.1 hK.1 hP 1 1 rfl rfl hib dX10_nameHere_30 ?_
      refine lv_bipush (v := 104) C.1.1 C.1.2.1 dX10_nameHere_31 (by decide) ?_
      refine lv_icmp_le (tgt := 42) C.1.1 C.1.2.1 dX10_nameHere_33 (by decide) (fun hc => ?_) (fun hc => ?_)
      · replace hf := zIf_t hf hc
        refine lv_aload_n C.1.1 C.1.2.1 dX10_nameHere_42 rfl (lv_at hl 0 rfl) ?_
        refine zGet (.ref (bV 1)) C.1 wuX10 hK hP 0 rfl rfl 11 (by decide) wfX10_39 rfl rfl dX10_nameHere_43 ?_
        refine lv_aload_n C.1.1 C.1.2.1 dX10_nameHere_46 rfl (lv_at hl 0 rfl) ?_
        refine zGet (.int (mL 16 0)) C.1 wuX10 hK hP 0 rfl rfl 16 (by decide) wfX10_95 rfl rfl dX10_nameHere_47 ?_
        obtain ⟨hib, hf⟩ := zGd_el hf
        refine va_bald C.1.1 C.1.2.1 hK.1 hP 1 1 rfl rfl hib dX10_nameHere_50 ?_
        refine lv_bipush (v := 97) C.1.1 C.1.2.1 dX10_nameHere_51 (by decide) ?_
        refine lv_isub C.1.1 C.1.2.1 dX10_nameHere_53 ?_
        cases hf
        rw [← hQ]
        exact zRTi rfl C hK hP hD hS dX10_nameHere_54
      · replace hf := zIf_f hf hc
        exact hJ36_1 () hf H locs hP hD hS ls (lv_sub hl [0] rfl)
  · replace hf := zIf_f hf hc
    refine lv_aload_n C.1.1 C.1.2.1 dX10_nameHere_8 rfl (lv_at hl 0 rfl) ?_
    refine lv_iconst (v := 1) C.1.1 C.1.2.1 dX10_nameHere_9 (by decide) ?_
    obtain ⟨mW_3, hg, hf⟩ := zB1_el hf
    refine zCVr (As := [.int (1 : Int32)]) (rest := []) (wr := ([] : va_W)) (wn := (kX10 cI cB bV (bP 0) (bS 0) (bW 0) (bN 0) (bO 0) mZ mY mB mL mU mJ mK mG mA ++ kX9 cI cB bW mW_3)) C.1 hK hA hP hD hS [0, 1, 2, 3, 4, 5, 6, 7, 8, 9, 10, 11, 12, 13, 14] [] [0, 1, 2, 3, 4, 5, 6, 7, 8, 9, 10, 11, 12, 13, 14] 0 (mtX10_stop l dC dI cI cB bV bP bS bW bN bO H.size mZ mY mB mL mU mJ mK mG mA mW (1 : Int32) hg) (zCwV 1 C.1 wlX10_137 wiX10_stop ws_X10_stop wnX10 wkX10_stop rfl rfl (by decide +kernel) ⟨Nat.le_of_ble_eq_true rfl, Nat.le_of_ble_eq_true rfl⟩) rfl rfl (by decide +kernel) rfl rfl rfl rfl hl.1 (Nat.le_of_ble_eq_true rfl) dX10_nameHere_10 ⟨Nat.zero_le _, Nat.zero_le _⟩ rfl (fun H locs hP hD hS => ?_)
    cases hf
    rw [← hQ]
    exact zThr 14 rfl C ht hK hP hD hS rfl dX10_nameHere_13
def fX10_op (mL : Rc) (mS : Rc) (mW : Rc) : Option (Int32 × Rc × Rc) :=
  if (mS 2 0) = (120 : Int32) then (
    zB1 (fX10_stop mL mW (5 : Int32)) fun mW_2 =>
    some ((1 : Int32), mS, mW_2)
  ) else (
    zLet (rs mS 2 (fun _ => ((mS 2 0) + (1 : Int32)))) fun mS_1 =>
    some ((0 : Int32), mS_1, mW)
  )
abbrev rX10_op : Room := { frames := 1, cells := 0, slots := 0, locals := 21 }
set_option maxHeartbeats 4000000 in
set_option maxRecDepth 100000 in
theorem mtX10_op (l : Launch) (dC : Nat → ClassId) (dI : Nat → Nat → Nat) (cI cB : ClassId) (bV bP bS bW bN bO : Nat → Nat) (sz : Nat) (mZ : Rc) (mY : Rc) (mB : Rc) (mL : Rc) (mU : Rc) (mJ : Rc) (mK : Rc) (mG : Rc) (mA : Rc) (mS : Rc) (mW : Rc) {of : Int32} {mS' : Rc} {mW' : Rc} (hf : fX10_op mL mS mW = some (of, mS', mW')) : zTv l yX10_op (Cond.code yX10_op cX10_op 1 none :: lw_g) rX10_op (dC, dI) [(cI, .int), (cB, .byte)] [.ref (bV 0)] sz (kX10 cI cB bV (bP 0) (bS 0) (bW 0) (bN 0) (bO 0) mZ mY mB mL mU mJ mK mG mA ++ kX8 cI cB bS mS ++ kX9 cI cB bW mW) (bW 0) of (kX10 cI cB bV (bP 0) (bS 0) (bW 0) (bN 0) (bO 0) mZ mY mB mL mU mJ mK mG mA ++ kX8 cI cB bS mS' ++ kX9 cI cB bW mW') := by
  refine zStT (cc := cX10_op) (maxL := 1) (ret := none) (own := RX10) (fun A => zTQv (dC, dI) [(cI, .int), (cB, .byte)] A of (kX10 cI cB bV (bP 0) (bS 0) (bW 0) (bN 0) (bO 0) mZ mY mB mL mU mJ mK mG mA ++ kX8 cI cB bS mS' ++ kX9 cI cB bW mW')) (fun A => zXq (dC, dI) [(cI, .int), (cB, .byte)] A (bW 0) of (kX10 cI cB bV (bP 0) (bS 0) (bW 0) (bN 0) (bO 0) mZ mY mB mL mU mJ mK mG mA ++ kX8 cI cB bS mS' ++ kX9 cI cB bW mW')) (by decide) rfl rfl (Nat.le_of_ble_eq_true rfl) ?_
  intro p e s m below meth c ls A H locs C ht hK hA hP hD hS hl
  generalize hQ : vy_MQ below (zTQv (dC, dI) [(cI, .int), (cB, .byte)] A of (kX10 cI cB bV (bP 0) (bS 0) (bW 0) (bN 0) (bO 0) mZ mY mB mL mU mJ mK mG mA ++ kX8 cI cB bS mS' ++ kX9 cI cB bW mW')) (zXq (dC, dI) [(cI, .int), (cB, .byte)] A (bW 0) of (kX10 cI cB bV (bP 0) (bS 0) (bW 0) (bN 0) (bO 0) mZ mY mB mL mU mJ mK mG mA ++ kX8 cI cB bS mS' ++ kX9 cI cB bW mW')) _ s 0 0 A = QQ
  generalize ([.ref (bV 0)] : List Value).toArray = args at C hQ ⊢
  have hl : lv_has ls 1 [(0, .ref (bV 0))] := hl
  unfold fX10_op at hf
  refine lv_aload_n C.1.1 C.1.2.1 dX10_op_0 rfl (lv_at hl 0 rfl) ?_
  refine zGet (.ref (bS 0)) C.1 wuX10 hK hP 0 rfl rfl 8 (by decide) wfX10_29 rfl rfl dX10_op_1 ?_
  refine zGetN (.int (mS 2 0)) C.1 wuX8 hK hP 14 rfl rfl 2 (by decide) nfX10_143 rfl rfl dX10_op_4 ?_
  refine lv_bipush (v := 120) C.1.1 C.1.2.1 dX10_op_7 (by decide) ?_
  refine lv_icmp_ne (tgt := 18) C.1.1 C.1.2.1 dX10_op_9 (by decide) (fun hc => ?_) (fun hc => ?_)
  · replace hf := zIf_f hf hc
    refine lv_aload_n C.1.1 C.1.2.1 dX10_op_18 rfl (lv_at hl 0 rfl) ?_
    refine zGet (.ref (bS 0)) C.1 wuX10 hK hP 0 rfl rfl 8 (by decide) wfX10_29 rfl rfl dX10_op_19 ?_
    refine lv_dup C.1.1 C.1.2.1 dX10_op_22 rfl ?_
    refine zGetN (.int (mS 2 0)) C.1 wuX8 hK hP 14 rfl rfl 2 (by decide) nfX10_143 rfl rfl dX10_op_23 ?_
    refine lv_iconst (v := 1) C.1.1 C.1.2.1 dX10_op_26 (by decide) ?_
    refine lv_iadd C.1.1 C.1.2.1 dX10_op_27 ?_
    obtain ⟨mS_1, emS_1, hf⟩ := zLet_el hf
    refine zPutN (ty := .int) (kX10 cI cB bV (bP 0) (bS 0) (bW 0) (bN 0) (bO 0) mZ mY mB mL mU mJ mK mG mA ++ kX8 cI cB bS mS_1 ++ kX9 cI cB bW mW) C.1 wuX8 tyX8 tyX8_ok nmX8 hK hP hD hS 14 rfl rfl 2 (by decide) nfX10_143 rfl rfl (by decide +kernel) rfl rfl (Nat.le_of_ble_eq_true rfl) dX10_op_28 (by rw [emS_1]; rfl) (fun H locs hP hD hS => ?_)
    cases hf
    rw [← hQ]
    exact zRTv rfl C hK hP hD hS dX10_op_31
  · replace hf := zIf_t hf hc
    refine lv_aload_n C.1.1 C.1.2.1 dX10_op_12 rfl (lv_at hl 0 rfl) ?_
    refine lv_iconst (v := 5) C.1.1 C.1.2.1 dX10_op_13 (by decide) ?_
    obtain ⟨mW_2, hg, hf⟩ := zB1_el hf
    refine zCVr (As := [.int (5 : Int32)]) (rest := []) (wr := (kX8 cI cB bS mS)) (wn := (kX10 cI cB bV (bP 0) (bS 0) (bW 0) (bN 0) (bO 0) mZ mY mB mL mU mJ mK mG mA ++ kX8 cI cB bS mS ++ kX9 cI cB bW mW_2)) C.1 hK hA hP hD hS [0, 1, 2, 3, 4, 5, 6, 7, 8, 9, 10, 11, 12, 13, 25] [14, 15, 16, 17, 18, 19, 20, 21, 22, 23, 24] [11, 12, 13, 14, 15, 16, 17, 18, 19, 20, 21, 22, 23, 24, 0, 1, 2, 3, 4, 5, 6, 7, 8, 9, 10, 25] 0 (mtX10_stop l dC dI cI cB bV bP bS bW bN bO H.size mZ mY mB mL mU mJ mK mG mA mW (5 : Int32) hg) (zCwV 1 C.1 wlX10_137 wiX10_stop ws_X10_stop wnX10 wkX10_stop rfl rfl (by decide +kernel) ⟨Nat.le_of_ble_eq_true rfl, Nat.le_of_ble_eq_true rfl⟩) rfl rfl (by decide +kernel) rfl rfl rfl rfl hl.1 (Nat.le_of_ble_eq_true rfl) dX10_op_14 ⟨Nat.zero_le _, Nat.zero_le _⟩ rfl (fun H locs hP hD hS => ?_)
    cases hf
    rw [← hQ]
    exact zThr 25 rfl C ht hK hP hD hS rfl dX10_op_17
