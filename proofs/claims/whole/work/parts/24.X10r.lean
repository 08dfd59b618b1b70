abbrev rX10_readPart (d : Nat) : Room := { frames := 4 + 2 * d, cells := 0, slots := 0, locals := 83 + 50 * d }
abbrev rX10_readSum (d : Nat) : Room := { frames := 4 + 2 * d + 1, cells := 0, slots := 0, locals := 83 + 50 * d + 25 }
def fX10_readSum_L24 (part : Rc → Rc → Rc → Rc → Option (Int32 × Rc × Rc × Rc)) (mB : Rc) (NN : Nat) (t5 : Int32) (J84_10 : Rc → Rc → Rc → Option (Int32 × Rc × Rc × Rc)) (n : Nat) (mL_11 : Rc) (mS_12 : Rc) (mW_13 : Rc) : Option (Int32 × Rc × Rc × Rc) := zLp3 (fun (go14 : Rc → Rc → Rc → Option (Int32 × Rc × Rc × Rc)) (mL_11 : Rc) (mS_12 : Rc) (mW_13 : Rc) =>
    if (mL_11 15 0) = (4 : Int32) then (
      zB1 (fX10_signOf (mL_11 17 0)) fun v15 =>
      if v15 = (-1 : Int32) then (
        J84_10 mL_11 mS_12 mW_13
      ) else (
        zB1 (fX10_signOf (mL_11 17 0)) fun v16 =>
        if v16 = t5 then (
          zB3 (fX10_op mL_11 mS_12 mW_13) fun fl17 mS_18 mW_19 =>
          if fl17 = 1 then (
            some ((1 : Int32), mL_11, mS_18, mW_19)
          ) else (
            zB1 (fX10_next NN mB mL_11) fun mL_20 =>
            zB4 (part mB mL_20 mS_18 mW_19) fun fl21 mL_22 mS_23 mW_24 =>
            if fl21 = 1 then (
              some ((1 : Int32), mL_22, mS_23, mW_24)
            ) else (
              zB1 (fX8_put mS_23 t5 (0 : Int32)) fun mS_25 =>
              go14 mL_22 mS_25 mW_24
            )
          )
        ) else (
          zB1 (fX10_stop mL_11 mW_13 (1 : Int32)) fun mW_26 =>
          some ((1 : Int32), mL_11, mS_12, mW_26)
        )
      )
    ) else (
      J84_10 mL_11 mS_12 mW_13
    )
  ) n mL_11 mS_12 mW_13
def fX10_readSumB (NN : Nat) (part : Rc → Rc → Rc → Rc → Option (Int32 × Rc × Rc × Rc)) (mB : Rc) (mL : Rc) (mS : Rc) (mW : Rc) : Option (Int32 × Rc × Rc × Rc) :=
  zB4 (part mB mL mS mW) fun fl1 mL_2 mS_3 mW_4 =>
  if fl1 = 1 then (
    some ((1 : Int32), mL_2, mS_3, mW_4)
  ) else (
    zJn (fun (t5 : Int32) =>
        zJn (fun (mL_7 : Rc) (mS_8 : Rc) (mW_9 : Rc) =>
            some ((0 : Int32), mL_7, mS_8, mW_9)
          ) fun J84_10 =>
        fX10_readSum_L24 part mB NN t5 J84_10 NN mL_2 mS_3 mW_4
      ) fun J23_6 =>
    if (mL_2 15 0) = (4 : Int32) then (
      zB1 (fX10_signOf (mL_2 17 0)) fun v27 =>
      J23_6 v27
    ) else (
      J23_6 (-1 : Int32)
    )
  )
set_option maxHeartbeats 4000000 in
set_option maxRecDepth 100000 in
theorem mtX10_readSumB (l : Launch) (dC : Nat → ClassId) (dI : Nat → Nat → Nat) (cI cB : ClassId) (bV bP bS bW bN bO : Nat → Nat) (sz : Nat) (NN : Nat) (mZ : Rc) (mY : Rc) (mB : Rc) (mL : Rc) (mU : Rc) (mJ : Rc) (mK : Rc) (mG : Rc) (mA : Rc) (mS : Rc) (mW : Rc) {of : Int32} {mL' : Rc} {mS' : Rc} {mW' : Rc} (d : Nat) (part : Rc → Rc → Rc → Rc → Option (Int32 × Rc × Rc × Rc)) (hrec : ∀ (sz : Nat) (mZ : Rc) (mY : Rc) (mB : Rc) (mL : Rc) (mU : Rc) (mJ : Rc) (mK : Rc) (mG : Rc) (mA : Rc) (mS : Rc) (mW : Rc) {of : Int32} {mL' mS' mW' : Rc}, part mB mL mS mW = some (of, mL', mS', mW') → zTv l yX10_readPart (Cond.code yX10_readPart cX10_readPart 3 none :: lw_g) (rX10_readPart d) (dC, dI) [(cI, .int), (cB, .byte)] [.ref (bV 0)] sz (kX10 cI cB bV (bP 0) (bS 0) (bW 0) (bN 0) (bO 0) mZ mY mB mL mU mJ mK mG mA ++ kX8 cI cB bS mS ++ kX9 cI cB bW mW) (bW 0) of (kX10 cI cB bV (bP 0) (bS 0) (bW 0) (bN 0) (bO 0) mZ mY mB mL' mU mJ mK mG mA ++ kX8 cI cB bS mS' ++ kX9 cI cB bW mW')) (hf : fX10_readSumB NN part mB mL mS mW = some (of, mL', mS', mW')) : zTv l yX10_readSum (Cond.code yX10_readSum cX10_readSum 2 none :: lw_g) (rX10_readSum d) (dC, dI) [(cI, .int), (cB, .byte)] [.ref (bV 0)] sz (kX10 cI cB bV (bP 0) (bS 0) (bW 0) (bN 0) (bO 0) mZ mY mB mL mU mJ mK mG mA ++ kX8 cI cB bS mS ++ kX9 cI cB bW mW) (bW 0) of (kX10 cI cB bV (bP 0) (bS 0) (bW 0) (bN 0) (bO 0) mZ mY mB mL' mU mJ mK mG mA ++ kX8 cI cB bS mS' ++ kX9 cI cB bW mW') := by
  refine zStT (cc := cX10_readSum) (maxL := 2) (ret := none) (own := RX10) (fun A => zTQv (dC, dI) [(cI, .int), (cB, .byte)] A of (kX10 cI cB bV (bP 0) (bS 0) (bW 0) (bN 0) (bO 0) mZ mY mB mL' mU mJ mK mG mA ++ kX8 cI cB bS mS' ++ kX9 cI cB bW mW')) (fun A => zXq (dC, dI) [(cI, .int), (cB, .byte)] A (bW 0) of (kX10 cI cB bV (bP 0) (bS 0) (bW 0) (bN 0) (bO 0) mZ mY mB mL' mU mJ mK mG mA ++ kX8 cI cB bS mS' ++ kX9 cI cB bW mW')) (by decide) rfl rfl (Nat.le_of_ble_eq_true rfl) ?_
  intro p e s m below meth c ls A H locs C ht hK hA hP hD hS hl
  generalize hQ : vy_MQ below (zTQv (dC, dI) [(cI, .int), (cB, .byte)] A of (kX10 cI cB bV (bP 0) (bS 0) (bW 0) (bN 0) (bO 0) mZ mY mB mL' mU mJ mK mG mA ++ kX8 cI cB bS mS' ++ kX9 cI cB bW mW')) (zXq (dC, dI) [(cI, .int), (cB, .byte)] A (bW 0) of (kX10 cI cB bV (bP 0) (bS 0) (bW 0) (bN 0) (bO 0) mZ mY mB mL' mU mJ mK mG mA ++ kX8 cI cB bS mS' ++ kX9 cI cB bW mW')) _ s 0 0 A = QQ
  generalize ([.ref (bV 0)] : List Value).toArray = args at C hQ ⊢
  have hl : lv_has ls 2 [(0, .ref (bV 0))] := hl
  unfold fX10_readSumB at hf
  refine lv_aload_n C.1.1 C.1.2.1 dX10_readSum_0 rfl (lv_at hl 0 rfl) ?_
  obtain ⟨fl1, mL_2, mS_3, mW_4, hg, hf⟩ := zB4_el hf
  refine zCTv (As := []) (rest := []) (wr := ([] : va_W)) (wn := (kX10 cI cB bV (bP 0) (bS 0) (bW 0) (bN 0) (bO 0) mZ mY mB mL_2 mU mJ mK mG mA ++ kX8 cI cB bS mS_3 ++ kX9 cI cB bW mW_4)) C.1 hK hA hP hD hS [0, 1, 2, 3, 4, 5, 6, 7, 8, 9, 10, 11, 12, 13, 14, 15, 16, 17, 18, 19, 20, 21, 22, 23, 24, 25] [] [0, 1, 2, 3, 4, 5, 6, 7, 8, 9, 10, 11, 12, 13, 14, 15, 16, 17, 18, 19, 20, 21, 22, 23, 24, 25] 0 (hrec H.size mZ mY mB mL mU mJ mK mG mA mS mW hg) (zCwV 0 C.1 wlX10_210 wiX10_readPart ws_X10_readPart wnX10 wkX10_readPart rfl rfl (by decide +kernel) ⟨by show 4 + 2 * d + 1 ≤ 4 + 2 * d + 1; omega, by show 8 + (3 + 11) + (83 + 50 * d) ≤ 83 + 50 * d + 25; omega⟩) rfl rfl (by decide +kernel) rfl rfl rfl rfl hl.1 (Nat.le_of_ble_eq_true rfl) dX10_readSum_1 ⟨Nat.zero_le _, Nat.zero_le _⟩ rfl (fun hfl H locs ce hP hD hS g1 g2 g3 => ?_) (fun hfl H locs hP hD hS => ?_)
  · replace hf := zIf_t hf hfl
    cases hf
    rw [← hQ]
    exact zOut rfl C ht hK hP hD hS g1 g2 g3
  · replace hf := zIf_f hf (by rw [hfl]; decide)
    refine lv_aload_n C.1.1 C.1.2.1 dX10_readSum_4 rfl (lv_at hl 0 rfl) ?_
    refine zGet (.int (mL_2 15 0)) C.1 wuX10 hK hP 0 rfl rfl 15 (by decide) wfX10_112 rfl rfl dX10_readSum_5 ?_
    refine lv_iconst (v := 4) C.1.1 C.1.2.1 dX10_readSum_8 (by decide) ?_
    obtain ⟨J23_6, eJ23_6, hf⟩ := zJn_el hf
    have hJ23_6 : ∀ (t5 : Int32), J23_6 t5 = some (of, mL', mS', mW') → ∀ (H : Heap) (locs : List Loc), va_P (dC, dI) vwCl (kX10 cI cB bV (bP 0) (bS 0) (bW 0) (bN 0) (bO 0) mZ mY mB mL_2 mU mJ mK mG mA ++ kX8 cI cB bS mS_3 ++ kX9 cI cB bW mW_4) H → va_D A (kX10 cI cB bV (bP 0) (bS 0) (bW 0) (bN 0) (bO 0) mZ mY mB mL_2 mU mJ mK mG mA ++ kX8 cI cB bS mS_3 ++ kX9 cI cB bW mW_4) → va_S A s.heap H locs → ∀ (ls : Array Slot), lv_has ls 2 [(0, .ref (bV 0))] → W p l e (rX10_readSum d) s m args below meth c H locs 0 0 QQ (F0 m 23 ls [.int t5]) := by
      intro t5 hf H locs hP hD hS ls hl
      rw [eJ23_6] at hf
      refine lv_istore_n (lv' := [(1, .int t5), (0, .ref (bV 0))]) C.1.1 C.1.2.1 dX10_readSum_23 rfl hl (by decide) rfl (fun ls hl => ?_)
      obtain ⟨J84_10, eJ84_10, hf⟩ := zJn_el hf
      have hJ84_10 : ∀ (mL_7 : Rc) (mS_8 : Rc) (mW_9 : Rc), J84_10 mL_7 mS_8 mW_9 = some (of, mL', mS', mW') → ∀ (H : Heap) (locs : List Loc), va_P (dC, dI) vwCl (kX10 cI cB bV (bP 0) (bS 0) (bW 0) (bN 0) (bO 0) mZ mY mB mL_7 mU mJ mK mG mA ++ kX8 cI cB bS mS_8 ++ kX9 cI cB bW mW_9) H → va_D A (kX10 cI cB bV (bP 0) (bS 0) (bW 0) (bN 0) (bO 0) mZ mY mB mL_7 mU mJ mK mG mA ++ kX8 cI cB bS mS_8 ++ kX9 cI cB bW mW_9) → va_S A s.heap H locs → ∀ (ls : Array Slot), lv_has ls 2 [] → W p l e (rX10_readSum d) s m args below meth c H locs 0 0 QQ (F0 m 84 ls []) := by
        intro mL_7 mS_8 mW_9 hf H locs hP hD hS ls hl
        rw [eJ84_10] at hf
        cases hf
        rw [← hQ]
        exact zRTv rfl C hK hP hD hS dX10_readSum_84
      refine zLp3_ind (o := (of, mL', mS', mW')) (P := fun (mL_11 : Rc) (mS_12 : Rc) (mW_13 : Rc) => ∀ (H : Heap) (locs : List Loc), va_P (dC, dI) vwCl (kX10 cI cB bV (bP 0) (bS 0) (bW 0) (bN 0) (bO 0) mZ mY mB mL_11 mU mJ mK mG mA ++ kX8 cI cB bS mS_12 ++ kX9 cI cB bW mW_13) H → va_D A (kX10 cI cB bV (bP 0) (bS 0) (bW 0) (bN 0) (bO 0) mZ mY mB mL_11 mU mJ mK mG mA ++ kX8 cI cB bS mS_12 ++ kX9 cI cB bW mW_13) → va_S A s.heap H locs → ∀ (ls : Array Slot), lv_has ls 2 [(0, .ref (bV 0)), (1, .int t5)] → W p l e (rX10_readSum d) s m args below meth c H locs 0 0 QQ (F0 m 24 ls [])) (fun go14 ihgo14 mL_11 mS_12 mW_13 hf H locs hP hD hS ls hl => ?_) _ mL_2 mS_3 mW_4 hf H locs hP hD hS ls (lv_sub hl [1, 0] rfl)
      refine lv_aload_n C.1.1 C.1.2.1 dX10_readSum_24 rfl (lv_at hl 0 rfl) ?_
      refine zGet (.int (mL_11 15 0)) C.1 wuX10 hK hP 0 rfl rfl 15 (by decide) wfX10_112 rfl rfl dX10_readSum_25 ?_
      refine lv_iconst (v := 4) C.1.1 C.1.2.1 dX10_readSum_28 (by decide) ?_
      refine lv_icmp_ne (tgt := 84) C.1.1 C.1.2.1 dX10_readSum_29 (by decide) (fun hc => ?_) (fun hc => ?_)
      · replace hf := zIf_f hf hc
        exact hJ84_10 mL_11 mS_12 mW_13 hf H locs hP hD hS ls (lv_sub hl [] rfl)
      · replace hf := zIf_t hf hc
        refine lv_aload_n C.1.1 C.1.2.1 dX10_readSum_32 rfl (lv_at hl 0 rfl) ?_
        refine zGet (.int (mL_11 17 0)) C.1 wuX10 hK hP 0 rfl rfl 17 (by decide) wfX10_115 rfl rfl dX10_readSum_33 ?_
        obtain ⟨v15, hg, hf⟩ := zB1_el hf
        refine zCSi (As := [.int (mL_11 17 0)]) (rest := []) (wr := (kX10 cI cB bV (bP 0) (bS 0) (bW 0) (bN 0) (bO 0) mZ mY mB mL_11 mU mJ mK mG mA ++ kX8 cI cB bS mS_12 ++ kX9 cI cB bW mW_13)) (wn := (kX10 cI cB bV (bP 0) (bS 0) (bW 0) (bN 0) (bO 0) mZ mY mB mL_11 mU mJ mK mG mA ++ kX8 cI cB bS mS_12 ++ kX9 cI cB bW mW_13)) C.1 hK hA hP hD hS [] [0, 1, 2, 3, 4, 5, 6, 7, 8, 9, 10, 11, 12, 13, 14, 15, 16, 17, 18, 19, 20, 21, 22, 23, 24, 25] [0, 1, 2, 3, 4, 5, 6, 7, 8, 9, 10, 11, 12, 13, 14, 15, 16, 17, 18, 19, 20, 21, 22, 23, 24, 25] (mtX10_signOf l dC dI cI cB H.size (mL_11 17 0) hg) (zCwS 1 C.1 wlX10_102 wtX10_signOf wnX10 wkX10_signOf rfl rfl (by decide +kernel) ⟨by show 0 + 1 ≤ 4 + 2 * d + 1; omega, by show 8 + (1 + 11) + (0) ≤ 83 + 50 * d + 25; omega⟩) rfl rfl (by decide +kernel) rfl rfl hl.1 (Nat.le_of_ble_eq_true rfl) dX10_readSum_36 ⟨Nat.zero_le _, Nat.zero_le _⟩ rfl (fun H locs hP hD hS => ?_)
        refine lv_iconst (v := (-1)) C.1.1 C.1.2.1 dX10_readSum_39 (by decide) ?_
        refine lv_icmp_eq (tgt := 84) C.1.1 C.1.2.1 dX10_readSum_40 (by decide) (fun hc => ?_) (fun hc => ?_)
        · replace hf := zIf_t hf hc
          exact hJ84_10 mL_11 mS_12 mW_13 hf H locs hP hD hS ls (lv_sub hl [] rfl)
        · replace hf := zIf_f hf hc
          refine lv_aload_n C.1.1 C.1.2.1 dX10_readSum_43 rfl (lv_at hl 0 rfl) ?_
          refine zGet (.int (mL_11 17 0)) C.1 wuX10 hK hP 0 rfl rfl 17 (by decide) wfX10_115 rfl rfl dX10_readSum_44 ?_
          obtain ⟨v16, hg, hf⟩ := zB1_el hf
          refine zCSi (As := [.int (mL_11 17 0)]) (rest := []) (wr := (kX10 cI cB bV (bP 0) (bS 0) (bW 0) (bN 0) (bO 0) mZ mY mB mL_11 mU mJ mK mG mA ++ kX8 cI cB bS mS_12 ++ kX9 cI cB bW mW_13)) (wn := (kX10 cI cB bV (bP 0) (bS 0) (bW 0) (bN 0) (bO 0) mZ mY mB mL_11 mU mJ mK mG mA ++ kX8 cI cB bS mS_12 ++ kX9 cI cB bW mW_13)) C.1 hK hA hP hD hS [] [0, 1, 2, 3, 4, 5, 6, 7, 8, 9, 10, 11, 12, 13, 14, 15, 16, 17, 18, 19, 20, 21, 22, 23, 24, 25] [0, 1, 2, 3, 4, 5, 6, 7, 8, 9, 10, 11, 12, 13, 14, 15, 16, 17, 18, 19, 20, 21, 22, 23, 24, 25] (mtX10_signOf l dC dI cI cB H.size (mL_11 17 0) hg) (zCwS 1 C.1 wlX10_102 wtX10_signOf wnX10 wkX10_signOf rfl rfl (by decide +kernel) ⟨by show 0 + 1 ≤ 4 + 2 * d + 1; omega, by show 8 + (1 + 11) + (0) ≤ 83 + 50 * d + 25; omega⟩) rfl rfl (by decide +kernel) rfl rfl hl.1 (Nat.le_of_ble_eq_true rfl) dX10_readSum_47 ⟨Nat.zero_le _, Nat.zero_le _⟩ rfl (fun H locs hP hD hS => ?_)
          refine lv_iload_n C.1.1 C.1.2.1 dX10_readSum_50 rfl (lv_at hl 1 rfl) ?_
          refine lv_icmp_eq (tgt := 60) C.1.1 C.1.2.1 dX10_readSum_51 (by decide) (fun hc => ?_) (fun hc => ?_)
          · replace hf := zIf_t hf hc
            refine lv_aload_n C.1.1 C.1.2.1 dX10_readSum_60 rfl (lv_at hl 0 rfl) ?_
            obtain ⟨fl17, mS_18, mW_19, hg, hf⟩ := zB3_el hf
            refine zCTv (As := []) (rest := []) (wr := ([] : va_W)) (wn := (kX10 cI cB bV (bP 0) (bS 0) (bW 0) (bN 0) (bO 0) mZ mY mB mL_11 mU mJ mK mG mA ++ kX8 cI cB bS mS_18 ++ kX9 cI cB bW mW_19)) C.1 hK hA hP hD hS [0, 1, 2, 3, 4, 5, 6, 7, 8, 9, 10, 11, 12, 13, 14, 15, 16, 17, 18, 19, 20, 21, 22, 23, 24, 25] [] [0, 1, 2, 3, 4, 5, 6, 7, 8, 9, 10, 11, 12, 13, 14, 15, 16, 17, 18, 19, 20, 21, 22, 23, 24, 25] 0 (mtX10_op l dC dI cI cB bV bP bS bW bN bO H.size mZ mY mB mL_11 mU mJ mK mG mA mS_12 mW_13 hg) (zCwV 0 C.1 wlX10_195 wiX10_op ws_X10_op wnX10 wkX10_op rfl rfl (by decide +kernel) ⟨by show 1 + 1 ≤ 4 + 2 * d + 1; omega, by show 8 + (1 + 11) + (21) ≤ 83 + 50 * d + 25; omega⟩) rfl rfl (by decide +kernel) rfl rfl rfl rfl hl.1 (Nat.le_of_ble_eq_true rfl) dX10_readSum_61 ⟨Nat.zero_le _, Nat.zero_le _⟩ rfl (fun hfl H locs ce hP hD hS g1 g2 g3 => ?_) (fun hfl H locs hP hD hS => ?_)
            · replace hf := zIf_t hf hfl
              cases hf
              rw [← hQ]
              exact zOut rfl C ht hK hP hD hS g1 g2 g3
            · replace hf := zIf_f hf (by rw [hfl]; decide)
              refine lv_aload_n C.1.1 C.1.2.1 dX10_readSum_64 rfl (lv_at hl 0 rfl) ?_
              obtain ⟨mL_20, hg, hf⟩ := zB1_el hf
              refine zCVv (As := []) (rest := []) (wr := (kX8 cI cB bS mS_18 ++ kX9 cI cB bW mW_19)) (wn := (kX10 cI cB bV (bP 0) (bS 0) (bW 0) (bN 0) (bO 0) mZ mY mB mL_20 mU mJ mK mG mA ++ kX8 cI cB bS mS_18 ++ kX9 cI cB bW mW_19)) C.1 hK hA hP hD hS [0, 1, 2, 3, 4, 5, 6, 7, 8, 9, 10, 11, 12, 13] [14, 15, 16, 17, 18, 19, 20, 21, 22, 23, 24, 25] [12, 13, 14, 15, 16, 17, 18, 19, 20, 21, 22, 23, 24, 25, 0, 1, 2, 3, 4, 5, 6, 7, 8, 9, 10, 11] 0 (mtX10_next l dC dI cI cB bV bP bS bW bN bO H.size NN mZ mY mB mL_11 mU mJ mK mG mA hg) (zCwV 0 C.1 wlX10_140 wiX10_next ws_X10_next wnX10 wkX10_next rfl rfl (by decide +kernel) ⟨by show 2 + 1 ≤ 4 + 2 * d + 1; omega, by show 8 + (3 + 11) + (40) ≤ 83 + 50 * d + 25; omega⟩) rfl rfl (by decide +kernel) rfl rfl rfl rfl hl.1 (Nat.le_of_ble_eq_true rfl) dX10_readSum_65 ⟨Nat.zero_le _, Nat.zero_le _⟩ rfl (fun H locs hP hD hS => ?_)
              refine lv_aload_n C.1.1 C.1.2.1 dX10_readSum_68 rfl (lv_at hl 0 rfl) ?_
              obtain ⟨fl21, mL_22, mS_23, mW_24, hg, hf⟩ := zB4_el hf
              refine zCTv (As := []) (rest := []) (wr := ([] : va_W)) (wn := (kX10 cI cB bV (bP 0) (bS 0) (bW 0) (bN 0) (bO 0) mZ mY mB mL_22 mU mJ mK mG mA ++ kX8 cI cB bS mS_23 ++ kX9 cI cB bW mW_24)) C.1 hK hA hP hD hS [0, 1, 2, 3, 4, 5, 6, 7, 8, 9, 10, 11, 12, 13, 14, 15, 16, 17, 18, 19, 20, 21, 22, 23, 24, 25] [] [0, 1, 2, 3, 4, 5, 6, 7, 8, 9, 10, 11, 12, 13, 14, 15, 16, 17, 18, 19, 20, 21, 22, 23, 24, 25] 0 (hrec H.size mZ mY mB mL_20 mU mJ mK mG mA mS_18 mW_19 hg) (zCwV 0 C.1 wlX10_210 wiX10_readPart ws_X10_readPart wnX10 wkX10_readPart rfl rfl (by decide +kernel) ⟨by show 4 + 2 * d + 1 ≤ 4 + 2 * d + 1; omega, by show 8 + (3 + 11) + (83 + 50 * d) ≤ 83 + 50 * d + 25; omega⟩) rfl rfl (by decide +kernel) rfl rfl rfl rfl hl.1 (Nat.le_of_ble_eq_true rfl) dX10_readSum_69 ⟨Nat.zero_le _, Nat.zero_le _⟩ rfl (fun hfl H locs ce hP hD hS g1 g2 g3 => ?_) (fun hfl H locs hP hD hS => ?_)
              · replace hf := zIf_t hf hfl
                cases hf
                rw [← hQ]
                exact zOut rfl C ht hK hP hD hS g1 g2 g3
              · replace hf := zIf_f hf (by rw [hfl]; decide)
                refine lv_aload_n C.1.1 C.1.2.1 dX10_readSum_72 rfl (lv_at hl 0 rfl) ?_
                refine zGet (.ref (bS 0)) C.1 wuX10 hK hP 0 rfl rfl 8 (by decide) wfX10_29 rfl rfl dX10_readSum_73 ?_
                refine lv_iload_n C.1.1 C.1.2.1 dX10_readSum_76 rfl (lv_at hl 1 rfl) ?_
                refine lv_iconst (v := 0) C.1.1 C.1.2.1 dX10_readSum_77 (by decide) ?_
                obtain ⟨mS_25, hg, hf⟩ := zB1_el hf
                refine zCVv (As := [.int t5, .int (0 : Int32)]) (rest := []) (wr := (kX10 cI cB bV (bP 0) (bS 0) (bW 0) (bN 0) (bO 0) mZ mY mB mL_22 mU mJ mK mG mA ++ kX9 cI cB bW mW_24)) (wn := (kX10 cI cB bV (bP 0) (bS 0) (bW 0) (bN 0) (bO 0) mZ mY mB mL_22 mU mJ mK mG mA ++ kX8 cI cB bS mS_25 ++ kX9 cI cB bW mW_24)) C.1 hK hA hP hD hS [14, 15, 16, 17, 18, 19, 20, 21, 22, 23, 24] [0, 1, 2, 3, 4, 5, 6, 7, 8, 9, 10, 11, 12, 13, 25] [0, 1, 2, 3, 4, 5, 6, 7, 8, 9, 10, 11, 12, 13, 15, 16, 17, 18, 19, 20, 21, 22, 23, 24, 25, 14] 0 (mtX8_put l dC dI cI cB bS H.size mS_23 t5 (0 : Int32) hg) (zCwV 2 C.1 wlX10_213 wiX8_put ws_X8_put wnX8 wkX8_put rfl rfl (by decide +kernel) ⟨by show 0 + 1 ≤ 4 + 2 * d + 1; omega, by show 8 + (3 + 11) + (0) ≤ 83 + 50 * d + 25; omega⟩) rfl rfl (by decide +kernel) rfl rfl rfl rfl hl.1 (Nat.le_of_ble_eq_true rfl) dX10_readSum_78 ⟨Nat.zero_le _, Nat.zero_le _⟩ rfl (fun H locs hP hD hS => ?_)
                refine lv_goto (tgt := 24) C.1.1 C.1.2.1 dX10_readSum_81 (by decide) ?_
                exact ihgo14 mL_22 mS_25 mW_24 hf H locs hP hD hS ls (lv_sub hl [0, 1] rfl)
          · replace hf := zIf_f hf hc
            refine lv_aload_n C.1.1 C.1.2.1 dX10_readSum_54 rfl (lv_at hl 0 rfl) ?_
            refine lv_iconst (v := 1) C.1.1 C.1.2.1 dX10_readSum_55 (by decide) ?_
            obtain ⟨mW_26, hg, hf⟩ := zB1_el hf
            refine zCVr (As := [.int (1 : Int32)]) (rest := []) (wr := (kX8 cI cB bS mS_12)) (wn := (kX10 cI cB bV (bP 0) (bS 0) (bW 0) (bN 0) (bO 0) mZ mY mB mL_11 mU mJ mK mG mA ++ kX8 cI cB bS mS_12 ++ kX9 cI cB bW mW_26)) C.1 hK hA hP hD hS [0, 1, 2, 3, 4, 5, 6, 7, 8, 9, 10, 11, 12, 13, 25] [14, 15, 16, 17, 18, 19, 20, 21, 22, 23, 24] [11, 12, 13, 14, 15, 16, 17, 18, 19, 20, 21, 22, 23, 24, 0, 1, 2, 3, 4, 5, 6, 7, 8, 9, 10, 25] 0 (mtX10_stop l dC dI cI cB bV bP bS bW bN bO H.size mZ mY mB mL_11 mU mJ mK mG mA mW_13 (1 : Int32) hg) (zCwV 1 C.1 wlX10_137 wiX10_stop ws_X10_stop wnX10 wkX10_stop rfl rfl (by decide +kernel) ⟨by show 0 + 1 ≤ 4 + 2 * d + 1; omega, by show 8 + (2 + 11) + (0) ≤ 83 + 50 * d + 25; omega⟩) rfl rfl (by decide +kernel) rfl rfl rfl rfl hl.1 (Nat.le_of_ble_eq_true rfl) dX10_readSum_56 ⟨Nat.zero_le _, Nat.zero_le _⟩ rfl (fun H locs hP hD hS => ?_)
            cases hf
            rw [← hQ]
            exact zThr 25 rfl C ht hK hP hD hS rfl dX10_readSum_59
    refine lv_icmp_ne (tgt := 22) C.1.1 C.1.2.1 dX10_readSum_9 (by decide) (fun hc => ?_) (fun hc => ?_)
    · replace hf := zIf_f hf hc
      refine lv_iconst (v := (-1)) C.1.1 C.1.2.1 dX10_readSum_22 (by decide) ?_
      exact hJ23_6 (-1 : Int32) hf H locs hP hD hS ls (lv_sub hl [0] rfl)
    · replace hf := zIf_t hf hc
      refine lv_aload_n C.1.1 C.1.2.1 dX10_readSum_12 rfl (lv_at hl 0 rfl) ?_
      refine zGet (.int (mL_2 17 0)) C.1 wuX10 hK hP 0 rfl rfl 17 (by decide) wfX10_115 rfl rfl dX10_readSum_13 ?_
      obtain ⟨v27, hg, hf⟩ := zB1_el hf
      refine zCSi (As := [.int (mL_2 17 0)]) (rest := []) (wr := (kX10 cI cB bV (bP 0) (bS 0) (bW 0) (bN 0) (bO 0) mZ mY mB mL_2 mU mJ mK mG mA ++ kX8 cI cB bS mS_3 ++ kX9 cI cB bW mW_4)) (wn := (kX10 cI cB bV (bP 0) (bS 0) (bW 0) (bN 0) (bO 0) mZ mY mB mL_2 mU mJ mK mG mA ++ kX8 cI cB bS mS_3 ++ kX9 cI cB bW mW_4)) C.1 hK hA hP hD hS [] [0, 1, 2, 3, 4, 5, 6, 7, 8, 9, 10, 11, 12, 13, 14, 15, 16, 17, 18, 19, 20, 21, 22, 23, 24, 25] [0, 1, 2, 3, 4, 5, 6, 7, 8, 9, 10, 11, 12, 13, 14, 15, 16, 17, 18, 19, 20, 21, 22, 23, 24, 25] (mtX10_signOf l dC dI cI cB H.size (mL_2 17 0) hg) (zCwS 1 C.1 wlX10_102 wtX10_signOf wnX10 wkX10_signOf rfl rfl (by decide +kernel) ⟨by show 0 + 1 ≤ 4 + 2 * d + 1; omega, by show 8 + (1 + 11) + (0) ≤ 83 + 50 * d + 25; omega⟩) rfl rfl (by decide +kernel) rfl rfl hl.1 (Nat.le_of_ble_eq_true rfl) dX10_readSum_16 ⟨Nat.zero_le _, Nat.zero_le _⟩ rfl (fun H locs hP hD hS => ?_)
      refine lv_goto (tgt := 23) C.1.1 C.1.2.1 dX10_readSum_19 (by decide) ?_
      exact hJ23_6 v27 hf H locs hP hD hS ls (lv_sub hl [0] rfl)
def fX10_readPart_L148 (x1 : Int32) (J169_12 : Rc → Option (Int32 × Rc × Rc × Rc)) (n : Nat) (x13 : Int32) (mS_14 : Rc) : Option (Int32 × Rc × Rc × Rc) := zLp2 (fun (go15 : Int32 → Rc → Option (Int32 × Rc × Rc × Rc)) (x13 : Int32) (mS_14 : Rc) =>
    if x1 ≤ x13 then (
      J169_12 mS_14
    ) else (
      zB1 (fX8_put mS_14 (7 : Int32) (0 : Int32)) fun mS_16 =>
      zLet (x13 + 1) fun x17 =>
      go15 x17 mS_16
    )
  ) n x13 mS_14
def fX10_readPart_L2 (mB : Rc) (NN : Nat) (J25_5 : Int32 → Rc → Rc → Rc → Option (Int32 × Rc × Rc × Rc)) (n : Nat) (x37 : Int32) (mL_38 : Rc) (mS_39 : Rc) (mW_40 : Rc) : Option (Int32 × Rc × Rc × Rc) := zLp4 (fun (go41 : Int32 → Rc → Rc → Rc → Option (Int32 × Rc × Rc × Rc)) (x37 : Int32) (mL_38 : Rc) (mS_39 : Rc) (mW_40 : Rc) =>
    zB1 (fX10_is mL_38 (126 : Int32)) fun v42 =>
    if v42 = 0 then (
      J25_5 x37 mL_38 mS_39 mW_40
    ) else (
      zB3 (fX10_op mL_38 mS_39 mW_40) fun fl43 mS_44 mW_45 =>
      if fl43 = 1 then (
        some ((1 : Int32), mL_38, mS_44, mW_45)
      ) else (
        zLet (x37 + 1) fun x46 =>
        zB1 (fX10_next NN mB mL_38) fun mL_47 =>
        go41 x46 mL_47 mS_44 mW_45
      )
    )
  ) n x37 mL_38 mS_39 mW_40
def fX10_readPartB (NN : Nat) (sum : Rc → Rc → Rc → Rc → Option (Int32 × Rc × Rc × Rc)) (mB : Rc) (mL : Rc) (mS : Rc) (mW : Rc) : Option (Int32 × Rc × Rc × Rc) :=
  zJn (fun (x1 : Int32) (mL_2 : Rc) (mS_3 : Rc) (mW_4 : Rc) =>
      zB1 (fX10_is mL_2 (40 : Int32)) fun v6 =>
      zJn (fun (mL_7 : Rc) (mS_8 : Rc) (mW_9 : Rc) =>
          zJn (fun (mS_11 : Rc) =>
              some ((0 : Int32), mL_7, mS_11, mW_9)
            ) fun J169_12 =>
          fX10_readPart_L148 x1 J169_12 NN (0 : Int32) mS_8
        ) fun J146_10 =>
      if v6 = 0 then (
        if (mL_2 15 0) = (3 : Int32) then (
          if (mL_2 18 0) ≤ (65535 : Int32) then (
            zB1 (fX8_put mS_3 (10 : Int32) (mL_2 18 0)) fun mS_23 =>
            zB1 (fX10_next NN mB mL_2) fun mL_24 =>
            J146_10 mL_24 mS_23 mW_4
          ) else (
            zB1 (fX10_stop mL_2 mW_4 (4 : Int32)) fun mW_25 =>
            some ((1 : Int32), mL_2, mS_3, mW_25)
          )
        ) else (
          zB3 (fX10_nameHere mB mL_2 mW_4) fun fl18 v19 mW_20 =>
          if fl18 = 1 then (
            some ((1 : Int32), mL_2, mS_3, mW_20)
          ) else (
            zB1 (fX8_put mS_3 (9 : Int32) v19) fun mS_21 =>
            zB1 (fX10_next NN mB mL_2) fun mL_22 =>
            J146_10 mL_22 mS_21 mW_20
          )
        )
      ) else (
        if (mL_2 20 0) = (8 : Int32) then (
          zB1 (fX10_stop mL_2 mW_4 (5 : Int32)) fun mW_36 =>
          some ((1 : Int32), mL_2, mS_3, mW_36)
        ) else (
          zLet (rs mL_2 20 (fun _ => ((mL_2 20 0) + (1 : Int32)))) fun mL_26 =>
          zB1 (fX10_next NN mB mL_26) fun mL_27 =>
          zB4 (sum mB mL_27 mS_3 mW_4) fun fl28 mL_29 mS_30 mW_31 =>
          if fl28 = 1 then (
            some ((1 : Int32), mL_29, mS_30, mW_31)
          ) else (
            zB3 (fX10_need NN mB mL_29 mW_31 (41 : Int32)) fun fl32 mL_33 mW_34 =>
            if fl32 = 1 then (
              some ((1 : Int32), mL_33, mS_30, mW_34)
            ) else (
              zLet (rs mL_33 20 (fun _ => ((mL_33 20 0) - (1 : Int32)))) fun mL_35 =>
              J146_10 mL_35 mS_30 mW_34
            )
          )
        )
      )
    ) fun J25_5 =>
  fX10_readPart_L2 mB NN J25_5 NN (0 : Int32) mL mS mW
set_option maxHeartbeats 4000000 in
set_option maxRecDepth 100000 in
theorem mtX10_readPartB (l : Launch) (dC : Nat → ClassId) (dI : Nat → Nat → Nat) (cI cB : ClassId) (bV bP bS bW bN bO : Nat → Nat) (sz : Nat) (NN : Nat) (mZ : Rc) (mY : Rc) (mB : Rc) (mL : Rc) (mU : Rc) (mJ : Rc) (mK : Rc) (mG : Rc) (mA : Rc) (mS : Rc) (mW : Rc) {of : Int32} {mL' : Rc} {mS' : Rc} {mW' : Rc} (d : Nat) (sum : Rc → Rc → Rc → Rc → Option (Int32 × Rc × Rc × Rc)) (hrec : ∀ (sz : Nat) (mZ : Rc) (mY : Rc) (mB : Rc) (mL : Rc) (mU : Rc) (mJ : Rc) (mK : Rc) (mG : Rc) (mA : Rc) (mS : Rc) (mW : Rc) {of : Int32} {mL' mS' mW' : Rc}, sum mB mL mS mW = some (of, mL', mS', mW') → zTv l yX10_readSum (Cond.code yX10_readSum cX10_readSum 2 none :: lw_g) (rX10_readSum d) (dC, dI) [(cI, .int), (cB, .byte)] [.ref (bV 0)] sz (kX10 cI cB bV (bP 0) (bS 0) (bW 0) (bN 0) (bO 0) mZ mY mB mL mU mJ mK mG mA ++ kX8 cI cB bS mS ++ kX9 cI cB bW mW) (bW 0) of (kX10 cI cB bV (bP 0) (bS 0) (bW 0) (bN 0) (bO 0) mZ mY mB mL' mU mJ mK mG mA ++ kX8 cI cB bS mS' ++ kX9 cI cB bW mW')) (hf : fX10_readPartB NN sum mB mL mS mW = some (of, mL', mS', mW')) : zTv l yX10_readPart (Cond.code yX10_readPart cX10_readPart 3 none :: lw_g) (rX10_readPart (d + 1)) (dC, dI) [(cI, .int), (cB, .byte)] [.ref (bV 0)] sz (kX10 cI cB bV (bP 0) (bS 0) (bW 0) (bN 0) (bO 0) mZ mY mB mL mU mJ mK mG mA ++ kX8 cI cB bS mS ++ kX9 cI cB bW mW) (bW 0) of (kX10 cI cB bV (bP 0) (bS 0) (bW 0) (bN 0) (bO 0) mZ mY mB mL' mU mJ mK mG mA ++ kX8 cI cB bS mS' ++ kX9 cI cB bW mW') := by
  refine zStT (cc := cX10_readPart) (maxL := 3) (ret := none) (own := RX10) (fun A => zTQv (dC, dI) [(cI, .int), (cB, .byte)] A of (kX10 cI cB bV (bP 0) (bS 0) (bW 0) (bN 0) (bO 0) mZ mY mB mL' mU mJ mK mG mA ++ kX8 cI cB bS mS' ++ kX9 cI cB bW mW')) (fun A => zXq (dC, dI) [(cI, .int), (cB, .byte)] A (bW 0) of (kX10 cI cB bV (bP 0) (bS 0) (bW 0) (bN 0) (bO 0) mZ mY mB mL' mU mJ mK mG mA ++ kX8 cI cB bS mS' ++ kX9 cI cB bW mW')) (by decide) rfl rfl (Nat.le_of_ble_eq_true rfl) ?_
  intro p e s m below meth c ls A H locs C ht hK hA hP hD hS hl
  generalize hQ : vy_MQ below (zTQv (dC, dI) [(cI, .int), (cB, .byte)] A of (kX10 cI cB bV (bP 0) (bS 0) (bW 0) (bN 0) (bO 0) mZ mY mB mL' mU mJ mK mG mA ++ kX8 cI cB bS mS' ++ kX9 cI cB bW mW')) (zXq (dC, dI) [(cI, .int), (cB, .byte)] A (bW 0) of (kX10 cI cB bV (bP 0) (bS 0) (bW 0) (bN 0) (bO 0) mZ mY mB mL' mU mJ mK mG mA ++ kX8 cI cB bS mS' ++ kX9 cI cB bW mW')) _ s 0 0 A = QQ
  generalize ([.ref (bV 0)] : List Value).toArray = args at C hQ ⊢
  have hl : lv_has ls 3 [(0, .ref (bV 0))] := hl
  unfold fX10_readPartB at hf
  refine lv_iconst (v := 0) C.1.1 C.1.2.1 dX10_readPart_0 (by decide) ?_
  refine lv_istore_n (lv' := [(1, .int (0 : Int32)), (0, .ref (bV 0))]) C.1.1 C.1.2.1 dX10_readPart_1 rfl hl (by decide) rfl (fun ls hl => ?_)
  obtain ⟨J25_5, eJ25_5, hf⟩ := zJn_el hf
  have hJ25_5 : ∀ (x1 : Int32) (mL_2 : Rc) (mS_3 : Rc) (mW_4 : Rc), J25_5 x1 mL_2 mS_3 mW_4 = some (of, mL', mS', mW') → ∀ (H : Heap) (locs : List Loc), va_P (dC, dI) vwCl (kX10 cI cB bV (bP 0) (bS 0) (bW 0) (bN 0) (bO 0) mZ mY mB mL_2 mU mJ mK mG mA ++ kX8 cI cB bS mS_3 ++ kX9 cI cB bW mW_4) H → va_D A (kX10 cI cB bV (bP 0) (bS 0) (bW 0) (bN 0) (bO 0) mZ mY mB mL_2 mU mJ mK mG mA ++ kX8 cI cB bS mS_3 ++ kX9 cI cB bW mW_4) → va_S A s.heap H locs → ∀ (ls : Array Slot), lv_has ls 3 [(0, .ref (bV 0)), (1, .int x1)] → W p l e (rX10_readPart (d + 1)) s m args below meth c H locs 0 0 QQ (F0 m 25 ls []) := by
    intro x1 mL_2 mS_3 mW_4 hf H locs hP hD hS ls hl
    rw [eJ25_5] at hf
    refine lv_aload_n C.1.1 C.1.2.1 dX10_readPart_25 rfl (lv_at hl 0 rfl) ?_
    refine lv_bipush (v := 40) C.1.1 C.1.2.1 dX10_readPart_26 (by decide) ?_
    obtain ⟨v6, hg, hf⟩ := zB1_el hf
    refine zCVi (As := [.int (40 : Int32)]) (rest := []) (wr := (kX8 cI cB bS mS_3 ++ kX9 cI cB bW mW_4)) (wn := (kX10 cI cB bV (bP 0) (bS 0) (bW 0) (bN 0) (bO 0) mZ mY mB mL_2 mU mJ mK mG mA ++ kX8 cI cB bS mS_3 ++ kX9 cI cB bW mW_4)) C.1 hK hA hP hD hS [0, 1, 2, 3, 4, 5, 6, 7, 8, 9, 10, 11, 12, 13] [14, 15, 16, 17, 18, 19, 20, 21, 22, 23, 24, 25] [12, 13, 14, 15, 16, 17, 18, 19, 20, 21, 22, 23, 24, 25, 0, 1, 2, 3, 4, 5, 6, 7, 8, 9, 10, 11] 0 (mtX10_is l dC dI cI cB bV bP bS bW bN bO H.size mZ mY mB mL_2 mU mJ mK mG mA (40 : Int32) hg) (zCwV 1 C.1 wlX10_134 wiX10_is ws_X10_is wnX10 wkX10_is rfl rfl (by decide +kernel) ⟨by show 0 + 1 ≤ 4 + 2 * (d + 1); omega, by show 8 + (2 + 11) + (0) ≤ 83 + 50 * (d + 1); omega⟩) rfl rfl (by decide +kernel) rfl rfl rfl rfl hl.1 (Nat.le_of_ble_eq_true rfl) dX10_readPart_28 ⟨Nat.zero_le _, Nat.zero_le _⟩ rfl (fun H locs hP hD hS => ?_)
    obtain ⟨J146_10, eJ146_10, hf⟩ := zJn_el hf
    have hJ146_10 : ∀ (mL_7 : Rc) (mS_8 : Rc) (mW_9 : Rc), J146_10 mL_7 mS_8 mW_9 = some (of, mL', mS', mW') → ∀ (H : Heap) (locs : List Loc), va_P (dC, dI) vwCl (kX10 cI cB bV (bP 0) (bS 0) (bW 0) (bN 0) (bO 0) mZ mY mB mL_7 mU mJ mK mG mA ++ kX8 cI cB bS mS_8 ++ kX9 cI cB bW mW_9) H → va_D A (kX10 cI cB bV (bP 0) (bS 0) (bW 0) (bN 0) (bO 0) mZ mY mB mL_7 mU mJ mK mG mA ++ kX8 cI cB bS mS_8 ++ kX9 cI cB bW mW_9) → va_S A s.heap H locs → ∀ (ls : Array Slot), lv_has ls 3 [(0, .ref (bV 0)), (1, .int x1)] → W p l e (rX10_readPart (d + 1)) s m args below meth c H locs 0 0 QQ (F0 m 146 ls []) := by
      intro mL_7 mS_8 mW_9 hf H locs hP hD hS ls hl
      rw [eJ146_10] at hf
      refine lv_iconst (v := 0) C.1.1 C.1.2.1 dX10_readPart_146 (by decide) ?_
      refine lv_istore_n (lv' := [(2, .int (0 : Int32)), (0, .ref (bV 0)), (1, .int x1)]) C.1.1 C.1.2.1 dX10_readPart_147 rfl hl (by decide) rfl (fun ls hl => ?_)
      obtain ⟨J169_12, eJ169_12, hf⟩ := zJn_el hf
      have hJ169_12 : ∀ (mS_11 : Rc), J169_12 mS_11 = some (of, mL', mS', mW') → ∀ (H : Heap) (locs : List Loc), va_P (dC, dI) vwCl (kX10 cI cB bV (bP 0) (bS 0) (bW 0) (bN 0) (bO 0) mZ mY mB mL_7 mU mJ mK mG mA ++ kX8 cI cB bS mS_11 ++ kX9 cI cB bW mW_9) H → va_D A (kX10 cI cB bV (bP 0) (bS 0) (bW 0) (bN 0) (bO 0) mZ mY mB mL_7 mU mJ mK mG mA ++ kX8 cI cB bS mS_11 ++ kX9 cI cB bW mW_9) → va_S A s.heap H locs → ∀ (ls : Array Slot), lv_has ls 3 [] → W p l e (rX10_readPart (d + 1)) s m args below meth c H locs 0 0 QQ (F0 m 169 ls []) := by
        intro mS_11 hf H locs hP hD hS ls hl
        rw [eJ169_12] at hf
        cases hf
        rw [← hQ]
        exact zRTv rfl C hK hP hD hS dX10_readPart_169
      refine zLp2_ind (o := (of, mL', mS', mW')) (P := fun (x13 : Int32) (mS_14 : Rc) => ∀ (H : Heap) (locs : List Loc), va_P (dC, dI) vwCl (kX10 cI cB bV (bP 0) (bS 0) (bW 0) (bN 0) (bO 0) mZ mY mB mL_7 mU mJ mK mG mA ++ kX8 cI cB bS mS_14 ++ kX9 cI cB bW mW_9) H → va_D A (kX10 cI cB bV (bP 0) (bS 0) (bW 0) (bN 0) (bO 0) mZ mY mB mL_7 mU mJ mK mG mA ++ kX8 cI cB bS mS_14 ++ kX9 cI cB bW mW_9) → va_S A s.heap H locs → ∀ (ls : Array Slot), lv_has ls 3 [(0, .ref (bV 0)), (1, .int x1), (2, .int x13)] → W p l e (rX10_readPart (d + 1)) s m args below meth c H locs 0 0 QQ (F0 m 148 ls [])) (fun go15 ihgo15 x13 mS_14 hf H locs hP hD hS ls hl => ?_) _ (0 : Int32) mS_8 hf H locs hP hD hS ls (lv_sub hl [1, 2, 0] rfl)
      refine lv_iload_n C.1.1 C.1.2.1 dX10_readPart_148 rfl (lv_at hl 2 rfl) ?_
      refine lv_iload_n C.1.1 C.1.2.1 dX10_readPart_149 rfl (lv_at hl 1 rfl) ?_
      refine lv_icmp_ge (tgt := 169) C.1.1 C.1.2.1 dX10_readPart_150 (by decide) (fun hc => ?_) (fun hc => ?_)
      · replace hf := zIf_t hf hc
        exact hJ169_12 mS_14 hf H locs hP hD hS ls (lv_sub hl [] rfl)
      · replace hf := zIf_f hf hc
        refine lv_aload_n C.1.1 C.1.2.1 dX10_readPart_153 rfl (lv_at hl 0 rfl) ?_
        refine zGet (.ref (bS 0)) C.1 wuX10 hK hP 0 rfl rfl 8 (by decide) wfX10_29 rfl rfl dX10_readPart_154 ?_
        refine lv_bipush (v := 7) C.1.1 C.1.2.1 dX10_readPart_157 (by decide) ?_
        refine lv_iconst (v := 0) C.1.1 C.1.2.1 dX10_readPart_159 (by decide) ?_
        obtain ⟨mS_16, hg, hf⟩ := zB1_el hf
        refine zCVv (As := [.int (7 : Int32), .int (0 : Int32)]) (rest := []) (wr := (kX10 cI cB bV (bP 0) (bS 0) (bW 0) (bN 0) (bO 0) mZ mY mB mL_7 mU mJ mK mG mA ++ kX9 cI cB bW mW_9)) (wn := (kX10 cI cB bV (bP 0) (bS 0) (bW 0) (bN 0) (bO 0) mZ mY mB mL_7 mU mJ mK mG mA ++ kX8 cI cB bS mS_16 ++ kX9 cI cB bW mW_9)) C.1 hK hA hP hD hS [14, 15, 16, 17, 18, 19, 20, 21, 22, 23, 24] [0, 1, 2, 3, 4, 5, 6, 7, 8, 9, 10, 11, 12, 13, 25] [0, 1, 2, 3, 4, 5, 6, 7, 8, 9, 10, 11, 12, 13, 15, 16, 17, 18, 19, 20, 21, 22, 23, 24, 25, 14] 0 (mtX8_put l dC dI cI cB bS H.size mS_14 (7 : Int32) (0 : Int32) hg) (zCwV 2 C.1 wlX10_213 wiX8_put ws_X8_put wnX8 wkX8_put rfl rfl (by decide +kernel) ⟨by show 0 + 1 ≤ 4 + 2 * (d + 1); omega, by show 8 + (3 + 11) + (0) ≤ 83 + 50 * (d + 1); omega⟩) rfl rfl (by decide +kernel) rfl rfl rfl rfl hl.1 (Nat.le_of_ble_eq_true rfl) dX10_readPart_160 ⟨Nat.zero_le _, Nat.zero_le _⟩ rfl (fun H locs hP hD hS => ?_)
        obtain ⟨x17, ex17, hf⟩ := zLet_el hf
        refine lv_iinc (v := x17) (lv' := [(2, .int x17), (0, .ref (bV 0)), (1, .int x1)]) C.1.1 C.1.2.1 dX10_readPart_163 hl (k := 2) rfl (by rw [ex17]; rfl) (by decide) rfl (fun ls hl => ?_)
        refine lv_goto (tgt := 148) C.1.1 C.1.2.1 dX10_readPart_166 (by decide) ?_
        exact ihgo15 x17 mS_16 hf H locs hP hD hS ls (lv_sub hl [1, 2, 0] rfl)
    refine lv_if_eq (tgt := 86) C.1.1 C.1.2.1 dX10_readPart_31 (by decide) (fun hc => ?_) (fun hc => ?_)
    · replace hf := zIf_t hf hc
      refine lv_aload_n C.1.1 C.1.2.1 dX10_readPart_86 rfl (lv_at hl 0 rfl) ?_
      refine zGet (.int (mL_2 15 0)) C.1 wuX10 hK hP 0 rfl rfl 15 (by decide) wfX10_112 rfl rfl dX10_readPart_87 ?_
      refine lv_iconst (v := 3) C.1.1 C.1.2.1 dX10_readPart_90 (by decide) ?_
      refine lv_icmp_ne (tgt := 129) C.1.1 C.1.2.1 dX10_readPart_91 (by decide) (fun hc => ?_) (fun hc => ?_)
      · replace hf := zIf_f hf hc
        refine lv_aload_n C.1.1 C.1.2.1 dX10_readPart_129 rfl (lv_at hl 0 rfl) ?_
        refine zGet (.ref (bS 0)) C.1 wuX10 hK hP 0 rfl rfl 8 (by decide) wfX10_29 rfl rfl dX10_readPart_130 ?_
        refine lv_bipush (v := 9) C.1.1 C.1.2.1 dX10_readPart_133 (by decide) ?_
        refine lv_aload_n C.1.1 C.1.2.1 dX10_readPart_135 rfl (lv_at hl 0 rfl) ?_
        obtain ⟨fl18, v19, mW_20, hg, hf⟩ := zB3_el hf
        refine zCTi (As := []) (rest := [.int (9 : Int32), .ref (bS 0)]) (wr := (kX8 cI cB bS mS_3)) (wn := (kX10 cI cB bV (bP 0) (bS 0) (bW 0) (bN 0) (bO 0) mZ mY mB mL_2 mU mJ mK mG mA ++ kX8 cI cB bS mS_3 ++ kX9 cI cB bW mW_20)) C.1 hK hA hP hD hS [0, 1, 2, 3, 4, 5, 6, 7, 8, 9, 10, 11, 12, 13, 25] [14, 15, 16, 17, 18, 19, 20, 21, 22, 23, 24] [11, 12, 13, 14, 15, 16, 17, 18, 19, 20, 21, 22, 23, 24, 0, 1, 2, 3, 4, 5, 6, 7, 8, 9, 10, 25] 0 (mtX10_nameHere l dC dI cI cB bV bP bS bW bN bO H.size mZ mY mB mL_2 mU mJ mK mG mA mW_4 hg) (zCwV 0 C.1 wlX10_188 wiX10_nameHere ws_X10_nameHere wnX10 wkX10_nameHere rfl rfl (by decide +kernel) ⟨by show 1 + 1 ≤ 4 + 2 * (d + 1); omega, by show 8 + (1 + 11) + (21) ≤ 83 + 50 * (d + 1); omega⟩) rfl rfl (by decide +kernel) rfl rfl rfl rfl hl.1 (Nat.le_of_ble_eq_true rfl) dX10_readPart_136 ⟨Nat.zero_le _, Nat.zero_le _⟩ rfl (fun hfl H locs ce hP hD hS g1 g2 g3 => ?_) (fun hfl H locs hP hD hS => ?_)
        · replace hf := zIf_t hf hfl
          cases hf
          rw [← hQ]
          exact zOut rfl C ht hK hP hD hS g1 g2 g3
        · replace hf := zIf_f hf (by rw [hfl]; decide)
          obtain ⟨mS_21, hg, hf⟩ := zB1_el hf
          refine zCVv (As := [.int (9 : Int32), .int v19]) (rest := []) (wr := (kX10 cI cB bV (bP 0) (bS 0) (bW 0) (bN 0) (bO 0) mZ mY mB mL_2 mU mJ mK mG mA ++ kX9 cI cB bW mW_20)) (wn := (kX10 cI cB bV (bP 0) (bS 0) (bW 0) (bN 0) (bO 0) mZ mY mB mL_2 mU mJ mK mG mA ++ kX8 cI cB bS mS_21 ++ kX9 cI cB bW mW_20)) C.1 hK hA hP hD hS [14, 15, 16, 17, 18, 19, 20, 21, 22, 23, 24] [0, 1, 2, 3, 4, 5, 6, 7, 8, 9, 10, 11, 12, 13, 25] [0, 1, 2, 3, 4, 5, 6, 7, 8, 9, 10, 11, 12, 13, 15, 16, 17, 18, 19, 20, 21, 22, 23, 24, 25, 14] 0 (mtX8_put l dC dI cI cB bS H.size mS_3 (9 : Int32) v19 hg) (zCwV 2 C.1 wlX10_213 wiX8_put ws_X8_put wnX8 wkX8_put rfl rfl (by decide +kernel) ⟨by show 0 + 1 ≤ 4 + 2 * (d + 1); omega, by show 8 + (3 + 11) + (0) ≤ 83 + 50 * (d + 1); omega⟩) rfl rfl (by decide +kernel) rfl rfl rfl rfl hl.1 (Nat.le_of_ble_eq_true rfl) dX10_readPart_139 ⟨Nat.zero_le _, Nat.zero_le _⟩ rfl (fun H locs hP hD hS => ?_)
          refine lv_aload_n C.1.1 C.1.2.1 dX10_readPart_142 rfl (lv_at hl 0 rfl) ?_
          obtain ⟨mL_22, hg, hf⟩ := zB1_el hf
          refine zCVv (As := []) (rest := []) (wr := (kX8 cI cB bS mS_21 ++ kX9 cI cB bW mW_20)) (wn := (kX10 cI cB bV (bP 0) (bS 0) (bW 0) (bN 0) (bO 0) mZ mY mB mL_22 mU mJ mK mG mA ++ kX8 cI cB bS mS_21 ++ kX9 cI cB bW mW_20)) C.1 hK hA hP hD hS [0, 1, 2, 3, 4, 5, 6, 7, 8, 9, 10, 11, 12, 13] [14, 15, 16, 17, 18, 19, 20, 21, 22, 23, 24, 25] [12, 13, 14, 15, 16, 17, 18, 19, 20, 21, 22, 23, 24, 25, 0, 1, 2, 3, 4, 5, 6, 7, 8, 9, 10, 11] 0 (mtX10_next l dC dI cI cB bV bP bS bW bN bO H.size NN mZ mY mB mL_2 mU mJ mK mG mA hg) (zCwV 0 C.1 wlX10_140 wiX10_next ws_X10_next wnX10 wkX10_next rfl rfl (by decide +kernel) ⟨by show 2 + 1 ≤ 4 + 2 * (d + 1); omega, by show 8 + (3 + 11) + (40) ≤ 83 + 50 * (d + 1); omega⟩) rfl rfl (by decide +kernel) rfl rfl rfl rfl hl.1 (Nat.le_of_ble_eq_true rfl) dX10_readPart_143 ⟨Nat.zero_le _, Nat.zero_le _⟩ rfl (fun H locs hP hD hS => ?_)
          exact hJ146_10 mL_22 mS_21 mW_20 hf H locs hP hD hS ls (lv_sub hl [0, 1] rfl)
      · replace hf := zIf_t hf hc
        refine lv_aload_n C.1.1 C.1.2.1 dX10_readPart_94 rfl (lv_at hl 0 rfl) ?_
        refine zGet (.int (mL_2 18 0)) C.1 wuX10 hK hP 0 rfl rfl 18 (by decide) wfX10_128 rfl rfl dX10_readPart_95 ?_
        refine lv_ldc C.1.1 C.1.2.1 C.1.2.2.2.1 (C.1.2.2.2.2 _ wcX10_217) dX10_readPart_98 ?_
        refine lv_icmp_le (tgt := 109) C.1.1 C.1.2.1 dX10_readPart_100 (by decide) (fun hc => ?_) (fun hc => ?_)
        · replace hf := zIf_t hf hc
          refine lv_aload_n C.1.1 C.1.2.1 dX10_readPart_109 rfl (lv_at hl 0 rfl) ?_
          refine zGet (.ref (bS 0)) C.1 wuX10 hK hP 0 rfl rfl 8 (by decide) wfX10_29 rfl rfl dX10_readPart_110 ?_
          refine lv_bipush (v := 10) C.1.1 C.1.2.1 dX10_readPart_113 (by decide) ?_
          refine lv_aload_n C.1.1 C.1.2.1 dX10_readPart_115 rfl (lv_at hl 0 rfl) ?_
          refine zGet (.int (mL_2 18 0)) C.1 wuX10 hK hP 0 rfl rfl 18 (by decide) wfX10_128 rfl rfl dX10_readPart_116 ?_
          obtain ⟨mS_23, hg, hf⟩ := zB1_el hf
          refine zCVv (As := [.int (10 : Int32), .int (mL_2 18 0)]) (rest := []) (wr := (kX10 cI cB bV (bP 0) (bS 0) (bW 0) (bN 0) (bO 0) mZ mY mB mL_2 mU mJ mK mG mA ++ kX9 cI cB bW mW_4)) (wn := (kX10 cI cB bV (bP 0) (bS 0) (bW 0) (bN 0) (bO 0) mZ mY mB mL_2 mU mJ mK mG mA ++ kX8 cI cB bS mS_23 ++ kX9 cI cB bW mW_4)) C.1 hK hA hP hD hS [14, 15, 16, 17, 18, 19, 20, 21, 22, 23, 24] [0, 1, 2, 3, 4, 5, 6, 7, 8, 9, 10, 11, 12, 13, 25] [0, 1, 2, 3, 4, 5, 6, 7, 8, 9, 10, 11, 12, 13, 15, 16, 17, 18, 19, 20, 21, 22, 23, 24, 25, 14] 0 (mtX8_put l dC dI cI cB bS H.size mS_3 (10 : Int32) (mL_2 18 0) hg) (zCwV 2 C.1 wlX10_213 wiX8_put ws_X8_put wnX8 wkX8_put rfl rfl (by decide +kernel) ⟨by show 0 + 1 ≤ 4 + 2 * (d + 1); omega, by show 8 + (3 + 11) + (0) ≤ 83 + 50 * (d + 1); omega⟩) rfl rfl (by decide +kernel) rfl rfl rfl rfl hl.1 (Nat.le_of_ble_eq_true rfl) dX10_readPart_119 ⟨Nat.zero_le _, Nat.zero_le _⟩ rfl (fun H locs hP hD hS => ?_)
          refine lv_aload_n C.1.1 C.1.2.1 dX10_readPart_122 rfl (lv_at hl 0 rfl) ?_
          obtain ⟨mL_24, hg, hf⟩ := zB1_el hf
          refine zCVv (As := []) (rest := []) (wr := (kX8 cI cB bS mS_23 ++ kX9 cI cB bW mW_4)) (wn := (kX10 cI cB bV (bP 0) (bS 0) (bW 0) (bN 0) (bO 0) mZ mY mB mL_24 mU mJ mK mG mA ++ kX8 cI cB bS mS_23 ++ kX9 cI cB bW mW_4)) C.1 hK hA hP hD hS [0, 1, 2, 3, 4, 5, 6, 7, 8, 9, 10, 11, 12, 13] [14, 15, 16, 17, 18, 19, 20, 21, 22, 23, 24, 25] [12, 13, 14, 15, 16, 17, 18, 19, 20, 21, 22, 23, 24, 25, 0, 1, 2, 3, 4, 5, 6, 7, 8, 9, 10, 11] 0 (mtX10_next l dC dI cI cB bV bP bS bW bN bO H.size NN mZ mY mB mL_2 mU mJ mK mG mA hg) (zCwV 0 C.1 wlX10_140 wiX10_next ws_X10_next wnX10 wkX10_next rfl rfl (by decide +kernel) ⟨by show 2 + 1 ≤ 4 + 2 * (d + 1); omega, by show 8 + (3 + 11) + (40) ≤ 83 + 50 * (d + 1); omega⟩) rfl rfl (by decide +kernel) rfl rfl rfl rfl hl.1 (Nat.le_of_ble_eq_true rfl) dX10_readPart_123 ⟨Nat.zero_le _, Nat.zero_le _⟩ rfl (fun H locs hP hD hS => ?_)
          refine lv_goto (tgt := 146) C.1.1 C.1.2.1 dX10_readPart_126 (by decide) ?_
          exact hJ146_10 mL_24 mS_23 mW_4 hf H locs hP hD hS ls (lv_sub hl [0, 1] rfl)
        · replace hf := zIf_f hf hc
          refine lv_aload_n C.1.1 C.1.2.1 dX10_readPart_103 rfl (lv_at hl 0 rfl) ?_
          refine lv_iconst (v := 4) C.1.1 C.1.2.1 dX10_readPart_104 (by decide) ?_
          obtain ⟨mW_25, hg, hf⟩ := zB1_el hf
          refine zCVr (As := [.int (4 : Int32)]) (rest := []) (wr := (kX8 cI cB bS mS_3)) (wn := (kX10 cI cB bV (bP 0) (bS 0) (bW 0) (bN 0) (bO 0) mZ mY mB mL_2 mU mJ mK mG mA ++ kX8 cI cB bS mS_3 ++ kX9 cI cB bW mW_25)) C.1 hK hA hP hD hS [0, 1, 2, 3, 4, 5, 6, 7, 8, 9, 10, 11, 12, 13, 25] [14, 15, 16, 17, 18, 19, 20, 21, 22, 23, 24] [11, 12, 13, 14, 15, 16, 17, 18, 19, 20, 21, 22, 23, 24, 0, 1, 2, 3, 4, 5, 6, 7, 8, 9, 10, 25] 0 (mtX10_stop l dC dI cI cB bV bP bS bW bN bO H.size mZ mY mB mL_2 mU mJ mK mG mA mW_4 (4 : Int32) hg) (zCwV 1 C.1 wlX10_137 wiX10_stop ws_X10_stop wnX10 wkX10_stop rfl rfl (by decide +kernel) ⟨by show 0 + 1 ≤ 4 + 2 * (d + 1); omega, by show 8 + (2 + 11) + (0) ≤ 83 + 50 * (d + 1); omega⟩) rfl rfl (by decide +kernel) rfl rfl rfl rfl hl.1 (Nat.le_of_ble_eq_true rfl) dX10_readPart_105 ⟨Nat.zero_le _, Nat.zero_le _⟩ rfl (fun H locs hP hD hS => ?_)
          cases hf
          rw [← hQ]
          exact zThr 25 rfl C ht hK hP hD hS rfl dX10_readPart_108
    · replace hf := zIf_f hf hc
      refine lv_aload_n C.1.1 C.1.2.1 dX10_readPart_34 rfl (lv_at hl 0 rfl) ?_
      refine zGet (.int (mL_2 20 0)) C.1 wuX10 hK hP 0 rfl rfl 20 (by decide) wfX10_152 rfl rfl dX10_readPart_35 ?_
      refine lv_bipush (v := 8) C.1.1 C.1.2.1 dX10_readPart_38 (by decide) ?_
      refine lv_icmp_ne (tgt := 49) C.1.1 C.1.2.1 dX10_readPart_40 (by decide) (fun hc => ?_) (fun hc => ?_)
      · replace hf := zIf_f hf hc
        refine lv_aload_n C.1.1 C.1.2.1 dX10_readPart_49 rfl (lv_at hl 0 rfl) ?_
        refine lv_dup C.1.1 C.1.2.1 dX10_readPart_50 rfl ?_
        refine zGet (.int (mL_2 20 0)) C.1 wuX10 hK hP 0 rfl rfl 20 (by decide) wfX10_152 rfl rfl dX10_readPart_51 ?_
        refine lv_iconst (v := 1) C.1.1 C.1.2.1 dX10_readPart_54 (by decide) ?_
        refine lv_iadd C.1.1 C.1.2.1 dX10_readPart_55 ?_
        obtain ⟨mL_26, emL_26, hf⟩ := zLet_el hf
        refine zPut (ty := .int) (kX10 cI cB bV (bP 0) (bS 0) (bW 0) (bN 0) (bO 0) mZ mY mB mL_26 mU mJ mK mG mA ++ kX8 cI cB bS mS_3 ++ kX9 cI cB bW mW_4) C.1 wuX10 tyX10 tyX10_ok nmX10 hK hP hD hS 0 rfl rfl 20 (by decide) wfX10_152 rfl rfl (by decide +kernel) rfl rfl (Nat.le_of_ble_eq_true rfl) dX10_readPart_56 (by rw [emL_26]; rfl) (fun H locs hP hD hS => ?_)
        refine lv_aload_n C.1.1 C.1.2.1 dX10_readPart_59 rfl (lv_at hl 0 rfl) ?_
        obtain ⟨mL_27, hg, hf⟩ := zB1_el hf
        refine zCVv (As := []) (rest := []) (wr := (kX8 cI cB bS mS_3 ++ kX9 cI cB bW mW_4)) (wn := (kX10 cI cB bV (bP 0) (bS 0) (bW 0) (bN 0) (bO 0) mZ mY mB mL_27 mU mJ mK mG mA ++ kX8 cI cB bS mS_3 ++ kX9 cI cB bW mW_4)) C.1 hK hA hP hD hS [0, 1, 2, 3, 4, 5, 6, 7, 8, 9, 10, 11, 12, 13] [14, 15, 16, 17, 18, 19, 20, 21, 22, 23, 24, 25] [12, 13, 14, 15, 16, 17, 18, 19, 20, 21, 22, 23, 24, 25, 0, 1, 2, 3, 4, 5, 6, 7, 8, 9, 10, 11] 0 (mtX10_next l dC dI cI cB bV bP bS bW bN bO H.size NN mZ mY mB mL_26 mU mJ mK mG mA hg) (zCwV 0 C.1 wlX10_140 wiX10_next ws_X10_next wnX10 wkX10_next rfl rfl (by decide +kernel) ⟨by show 2 + 1 ≤ 4 + 2 * (d + 1); omega, by show 8 + (3 + 11) + (40) ≤ 83 + 50 * (d + 1); omega⟩) rfl rfl (by decide +kernel) rfl rfl rfl rfl hl.1 (Nat.le_of_ble_eq_true rfl) dX10_readPart_60 ⟨Nat.zero_le _, Nat.zero_le _⟩ rfl (fun H locs hP hD hS => ?_)
        refine lv_aload_n C.1.1 C.1.2.1 dX10_readPart_63 rfl (lv_at hl 0 rfl) ?_
        obtain ⟨fl28, mL_29, mS_30, mW_31, hg, hf⟩ := zB4_el hf
        refine zCTv (As := []) (rest := []) (wr := ([] : va_W)) (wn := (kX10 cI cB bV (bP 0) (bS 0) (bW 0) (bN 0) (bO 0) mZ mY mB mL_29 mU mJ mK mG mA ++ kX8 cI cB bS mS_30 ++ kX9 cI cB bW mW_31)) C.1 hK hA hP hD hS [0, 1, 2, 3, 4, 5, 6, 7, 8, 9, 10, 11, 12, 13, 14, 15, 16, 17, 18, 19, 20, 21, 22, 23, 24, 25] [] [0, 1, 2, 3, 4, 5, 6, 7, 8, 9, 10, 11, 12, 13, 14, 15, 16, 17, 18, 19, 20, 21, 22, 23, 24, 25] 0 (hrec H.size mZ mY mB mL_27 mU mJ mK mG mA mS_3 mW_4 hg) (zCwV 0 C.1 wlX10_204 wiX10_readSum ws_X10_readSum wnX10 wkX10_readSum rfl rfl (by decide +kernel) ⟨by show 4 + 2 * d + 1 + 1 ≤ 4 + 2 * (d + 1); omega, by show 8 + (2 + 11) + (83 + 50 * d + 25) ≤ 83 + 50 * (d + 1); omega⟩) rfl rfl (by decide +kernel) rfl rfl rfl rfl hl.1 (Nat.le_of_ble_eq_true rfl) dX10_readPart_64 ⟨Nat.zero_le _, Nat.zero_le _⟩ rfl (fun hfl H locs ce hP hD hS g1 g2 g3 => ?_) (fun hfl H locs hP hD hS => ?_)
        · replace hf := zIf_t hf hfl
          cases hf
          rw [← hQ]
          exact zOut rfl C ht hK hP hD hS g1 g2 g3
        · replace hf := zIf_f hf (by rw [hfl]; decide)
          refine lv_aload_n C.1.1 C.1.2.1 dX10_readPart_67 rfl (lv_at hl 0 rfl) ?_
          refine lv_bipush (v := 41) C.1.1 C.1.2.1 dX10_readPart_68 (by decide) ?_
          obtain ⟨fl32, mL_33, mW_34, hg, hf⟩ := zB3_el hf
          refine zCTv (As := [.int (41 : Int32)]) (rest := []) (wr := (kX8 cI cB bS mS_30)) (wn := (kX10 cI cB bV (bP 0) (bS 0) (bW 0) (bN 0) (bO 0) mZ mY mB mL_33 mU mJ mK mG mA ++ kX8 cI cB bS mS_30 ++ kX9 cI cB bW mW_34)) C.1 hK hA hP hD hS [0, 1, 2, 3, 4, 5, 6, 7, 8, 9, 10, 11, 12, 13, 25] [14, 15, 16, 17, 18, 19, 20, 21, 22, 23, 24] [11, 12, 13, 14, 15, 16, 17, 18, 19, 20, 21, 22, 23, 24, 0, 1, 2, 3, 4, 5, 6, 7, 8, 9, 10, 25] 0 (mtX10_need l dC dI cI cB bV bP bS bW bN bO H.size NN mZ mY mB mL_29 mU mJ mK mG mA mW_31 (41 : Int32) hg) (zCwV 1 C.1 wlX10_177 wiX10_need ws_X10_need wnX10 wkX10_need rfl rfl (by decide +kernel) ⟨by show 3 + 1 ≤ 4 + 2 * (d + 1); omega, by show 8 + (2 + 11) + (62) ≤ 83 + 50 * (d + 1); omega⟩) rfl rfl (by decide +kernel) rfl rfl rfl rfl hl.1 (Nat.le_of_ble_eq_true rfl) dX10_readPart_70 ⟨Nat.zero_le _, Nat.zero_le _⟩ rfl (fun hfl H locs ce hP hD hS g1 g2 g3 => ?_) (fun hfl H locs hP hD hS => ?_)
          · replace hf := zIf_t hf hfl
            cases hf
            rw [← hQ]
            exact zOut rfl C ht hK hP hD hS g1 g2 g3
          · replace hf := zIf_f hf (by rw [hfl]; decide)
            refine lv_aload_n C.1.1 C.1.2.1 dX10_readPart_73 rfl (lv_at hl 0 rfl) ?_
            refine lv_dup C.1.1 C.1.2.1 dX10_readPart_74 rfl ?_
            refine zGet (.int (mL_33 20 0)) C.1 wuX10 hK hP 0 rfl rfl 20 (by decide) wfX10_152 rfl rfl dX10_readPart_75 ?_
            refine lv_iconst (v := 1) C.1.1 C.1.2.1 dX10_readPart_78 (by decide) ?_
            refine lv_isub C.1.1 C.1.2.1 dX10_readPart_79 ?_
            obtain ⟨mL_35, emL_35, hf⟩ := zLet_el hf
            refine zPut (ty := .int) (kX10 cI cB bV (bP 0) (bS 0) (bW 0) (bN 0) (bO 0) mZ mY mB mL_35 mU mJ mK mG mA ++ kX8 cI cB bS mS_30 ++ kX9 cI cB bW mW_34) C.1 wuX10 tyX10 tyX10_ok nmX10 hK hP hD hS 0 rfl rfl 20 (by decide) wfX10_152 rfl rfl (by decide +kernel) rfl rfl (Nat.le_of_ble_eq_true rfl) dX10_readPart_80 (by rw [emL_35]; rfl) (fun H locs hP hD hS => ?_)
            refine lv_goto (tgt := 146) C.1.1 C.1.2.1 dX10_readPart_83 (by decide) ?_
            exact hJ146_10 mL_35 mS_30 mW_34 hf H locs hP hD hS ls (lv_sub hl [0, 1] rfl)
      · replace hf := zIf_t hf hc
        refine lv_aload_n C.1.1 C.1.2.1 dX10_readPart_43 rfl (lv_at hl 0 rfl) ?_
        refine lv_iconst (v := 5) C.1.1 C.1.2.1 dX10_readPart_44 (by decide) ?_
        obtain ⟨mW_36, hg, hf⟩ := zB1_el hf
        refine zCVr (As := [.int (5 : Int32)]) (rest := []) (wr := (kX8 cI cB bS mS_3)) (wn := (kX10 cI cB bV (bP 0) (bS 0) (bW 0) (bN 0) (bO 0) mZ mY mB mL_2 mU mJ mK mG mA ++ kX8 cI cB bS mS_3 ++ kX9 cI cB bW mW_36)) C.1 hK hA hP hD hS [0, 1, 2, 3, 4, 5, 6, 7, 8, 9, 10, 11, 12, 13, 25] [14, 15, 16, 17, 18, 19, 20, 21, 22, 23, 24] [11, 12, 13, 14, 15, 16, 17, 18, 19, 20, 21, 22, 23, 24, 0, 1, 2, 3, 4, 5, 6, 7, 8, 9, 10, 25] 0 (mtX10_stop l dC dI cI cB bV bP bS bW bN bO H.size mZ mY mB mL_2 mU mJ mK mG mA mW_4 (5 : Int32) hg) (zCwV 1 C.1 wlX10_137 wiX10_stop ws_X10_stop wnX10 wkX10_stop rfl rfl (by decide +kernel) ⟨by show 0 + 1 ≤ 4 + 2 * (d + 1); omega, by show 8 + (2 + 11) + (0) ≤ 83 + 50 * (d + 1); omega⟩) rfl rfl (by decide +kernel) rfl rfl rfl rfl hl.1 (Nat.le_of_ble_eq_true rfl) dX10_readPart_45 ⟨Nat.zero_le _, Nat.zero_le _⟩ rfl (fun H locs hP hD hS => ?_)
        cases hf
        rw [← hQ]
        exact zThr 25 rfl C ht hK hP hD hS rfl dX10_readPart_48
  refine zLp4_ind (o := (of, mL', mS', mW')) (P := fun (x37 : Int32) (mL_38 : Rc) (mS_39 : Rc) (mW_40 : Rc) => ∀ (H : Heap) (locs : List Loc), va_P (dC, dI) vwCl (kX10 cI cB bV (bP 0) (bS 0) (bW 0) (bN 0) (bO 0) mZ mY mB mL_38 mU mJ mK mG mA ++ kX8 cI cB bS mS_39 ++ kX9 cI cB bW mW_40) H → va_D A (kX10 cI cB bV (bP 0) (bS 0) (bW 0) (bN 0) (bO 0) mZ mY mB mL_38 mU mJ mK mG mA ++ kX8 cI cB bS mS_39 ++ kX9 cI cB bW mW_40) → va_S A s.heap H locs → ∀ (ls : Array Slot), lv_has ls 3 [(0, .ref (bV 0)), (1, .int x37)] → W p l e (rX10_readPart (d + 1)) s m args below meth c H locs 0 0 QQ (F0 m 2 ls [])) (fun go41 ihgo41 x37 mL_38 mS_39 mW_40 hf H locs hP hD hS ls hl => ?_) _ (0 : Int32) mL mS mW hf H locs hP hD hS ls (lv_sub hl [1, 0] rfl)
  refine lv_aload_n C.1.1 C.1.2.1 dX10_readPart_2 rfl (lv_at hl 0 rfl) ?_
  refine lv_bipush (v := 126) C.1.1 C.1.2.1 dX10_readPart_3 (by decide) ?_
  obtain ⟨v42, hg, hf⟩ := zB1_el hf
  refine zCVi (As := [.int (126 : Int32)]) (rest := []) (wr := (kX8 cI cB bS mS_39 ++ kX9 cI cB bW mW_40)) (wn := (kX10 cI cB bV (bP 0) (bS 0) (bW 0) (bN 0) (bO 0) mZ mY mB mL_38 mU mJ mK mG mA ++ kX8 cI cB bS mS_39 ++ kX9 cI cB bW mW_40)) C.1 hK hA hP hD hS [0, 1, 2, 3, 4, 5, 6, 7, 8, 9, 10, 11, 12, 13] [14, 15, 16, 17, 18, 19, 20, 21, 22, 23, 24, 25] [12, 13, 14, 15, 16, 17, 18, 19, 20, 21, 22, 23, 24, 25, 0, 1, 2, 3, 4, 5, 6, 7, 8, 9, 10, 11] 0 (mtX10_is l dC dI cI cB bV bP bS bW bN bO H.size mZ mY mB mL_38 mU mJ mK mG mA (126 : Int32) hg) (zCwV 1 C.1 wlX10_134 wiX10_is ws_X10_is wnX10 wkX10_is rfl rfl (by decide +kernel) ⟨by show 0 + 1 ≤ 4 + 2 * (d + 1); omega, by show 8 + (2 + 11) + (0) ≤ 83 + 50 * (d + 1); omega⟩) rfl rfl (by decide +kernel) rfl rfl rfl rfl hl.1 (Nat.le_of_ble_eq_true rfl) dX10_readPart_5 ⟨Nat.zero_le _, Nat.zero_le _⟩ rfl (fun H locs hP hD hS => ?_)
  refine lv_if_eq (tgt := 25) C.1.1 C.1.2.1 dX10_readPart_8 (by decide) (fun hc => ?_) (fun hc => ?_)
  · replace hf := zIf_t hf hc
    exact hJ25_5 x37 mL_38 mS_39 mW_40 hf H locs hP hD hS ls (lv_sub hl [0, 1] rfl)
  · replace hf := zIf_f hf hc
    refine lv_aload_n C.1.1 C.1.2.1 dX10_readPart_11 rfl (lv_at hl 0 rfl) ?_
    obtain ⟨fl43, mS_44, mW_45, hg, hf⟩ := zB3_el hf
    refine zCTv (As := []) (rest := []) (wr := ([] : va_W)) (wn := (kX10 cI cB bV (bP 0) (bS 0) (bW 0) (bN 0) (bO 0) mZ mY mB mL_38 mU mJ mK mG mA ++ kX8 cI cB bS mS_44 ++ kX9 cI cB bW mW_45)) C.1 hK hA hP hD hS [0, 1, 2, 3, 4, 5, 6, 7, 8, 9, 10, 11, 12, 13, 14, 15, 16, 17, 18, 19, 20, 21, 22, 23, 24, 25] [] [0, 1, 2, 3, 4, 5, 6, 7, 8, 9, 10, 11, 12, 13, 14, 15, 16, 17, 18, 19, 20, 21, 22, 23, 24, 25] 0 (mtX10_op l dC dI cI cB bV bP bS bW bN bO H.size mZ mY mB mL_38 mU mJ mK mG mA mS_39 mW_40 hg) (zCwV 0 C.1 wlX10_195 wiX10_op ws_X10_op wnX10 wkX10_op rfl rfl (by decide +kernel) ⟨by show 1 + 1 ≤ 4 + 2 * (d + 1); omega, by show 8 + (1 + 11) + (21) ≤ 83 + 50 * (d + 1); omega⟩) rfl rfl (by decide +kernel) rfl rfl rfl rfl hl.1 (Nat.le_of_ble_eq_true rfl) dX10_readPart_12 ⟨Nat.zero_le _, Nat.zero_le _⟩ rfl (fun hfl H locs ce hP hD hS g1 g2 g3 => ?_) (fun hfl H locs hP hD hS => ?_)
    · replace hf := zIf_t hf hfl
      cases hf
      rw [← hQ]
      exact zOut rfl C ht hK hP hD hS g1 g2 g3
    · replace hf := zIf_f hf (by rw [hfl]; decide)
      obtain ⟨x46, ex46, hf⟩ := zLet_el hf
      refine lv_iinc (v := x46) (lv' := [(1, .int x46), (0, .ref (bV 0))]) C.1.1 C.1.2.1 dX10_readPart_15 hl (k := 1) rfl (by rw [ex46]; rfl) (by decide) rfl (fun ls hl => ?_)
      refine lv_aload_n C.1.1 C.1.2.1 dX10_readPart_18 rfl (lv_at hl 1 rfl) ?_
      obtain ⟨mL_47, hg, hf⟩ := zB1_el hf
      refine zCVv (As := []) (rest := []) (wr := (kX8 cI cB bS mS_44 ++ kX9 cI cB bW mW_45)) (wn := (kX10 cI cB bV (bP 0) (bS 0) (bW 0) (bN 0) (bO 0) mZ mY mB mL_47 mU mJ mK mG mA ++ kX8 cI cB bS mS_44 ++ kX9 cI cB bW mW_45)) C.1 hK hA hP hD hS [0, 1, 2, 3, 4, 5, 6, 7, 8, 9, 10, 11, 12, 13] [14, 15, 16, 17, 18, 19, 20, 21, 22, 23, 24, 25] [12, 13, 14, 15, 16, 17, 18, 19, 20, 21, 22, 23, 24, 25, 0, 1, 2, 3, 4, 5, 6, 7, 8, 9, 10, 11] 0 (mtX10_next l dC dI cI cB bV bP bS bW bN bO H.size NN mZ mY mB mL_38 mU mJ mK mG mA hg) (zCwV 0 C.1 wlX10_140 wiX10_next ws_X10_next wnX10 wkX10_next rfl rfl (by decide +kernel) ⟨by show 2 + 1 ≤ 4 + 2 * (d + 1); omega, by show 8 + (3 + 11) + (40) ≤ 83 + 50 * (d + 1); omega⟩) rfl rfl (by decide +kernel) rfl rfl rfl rfl hl.1 (Nat.le_of_ble_eq_true rfl) dX10_readPart_19 ⟨Nat.zero_le _, Nat.zero_le _⟩ rfl (fun H locs hP hD hS => ?_)
      refine lv_goto (tgt := 2) C.1.1 C.1.2.1 dX10_readPart_22 (by decide) ?_
      exact ihgo41 x46 mL_47 mS_44 mW_45 hf H locs hP hD hS ls (lv_sub hl [1, 0] rfl)
def fX10_readPart (NN : Nat) : Nat → Rc → Rc → Rc → Rc → Option (Int32 × Rc × Rc × Rc)
  | 0 => fun _ _ _ _ => none
  | d + 1 => fun mB mL mS mW => fX10_readPartB NN (fX10_readSumB NN (fX10_readPart NN d)) mB mL mS mW
def fX10_readSum (NN : Nat) (mB mL mS mW : Rc) : Option (Int32 × Rc × Rc × Rc) := fX10_readSumB NN (fX10_readPart NN 12) mB mL mS mW
theorem mtX10_readPart (l : Launch) (dC : Nat → ClassId) (dI : Nat → Nat → Nat) (cI cB : ClassId) (bV bP bS bW bN bO : Nat → Nat) (NN : Nat) : ∀ d : Nat, ∀ (sz : Nat) (mZ : Rc) (mY : Rc) (mB : Rc) (mL : Rc) (mU : Rc) (mJ : Rc) (mK : Rc) (mG : Rc) (mA : Rc) (mS : Rc) (mW : Rc) {of : Int32} {mL' mS' mW' : Rc}, fX10_readPart NN d mB mL mS mW = some (of, mL', mS', mW') → zTv l yX10_readPart (Cond.code yX10_readPart cX10_readPart 3 none :: lw_g) (rX10_readPart d) (dC, dI) [(cI, .int), (cB, .byte)] [.ref (bV 0)] sz (kX10 cI cB bV (bP 0) (bS 0) (bW 0) (bN 0) (bO 0) mZ mY mB mL mU mJ mK mG mA ++ kX8 cI cB bS mS ++ kX9 cI cB bW mW) (bW 0) of (kX10 cI cB bV (bP 0) (bS 0) (bW 0) (bN 0) (bO 0) mZ mY mB mL' mU mJ mK mG mA ++ kX8 cI cB bS mS' ++ kX9 cI cB bW mW') := by
  intro d
  induction d with
  | zero =>
    intro sz mZ mY mB mL mU mJ mK mG mA mS mW of mL' mS' mW' hf
    cases hf
  | succ d ih =>
    intro sz mZ mY mB mL mU mJ mK mG mA mS mW of mL' mS' mW' hf
    exact mtX10_readPartB l dC dI cI cB bV bP bS bW bN bO sz NN mZ mY mB mL mU mJ mK mG mA mS mW d _ (fun sz mZ mY mB mL mU mJ mK mG mA mS mW of mL' mS' mW' h => mtX10_readSumB l dC dI cI cB bV bP bS bW bN bO sz NN mZ mY mB mL mU mJ mK mG mA mS mW d _ ih h) hf
theorem mtX10_readSum (l : Launch) (dC : Nat → ClassId) (dI : Nat → Nat → Nat) (cI cB : ClassId) (bV bP bS bW bN bO : Nat → Nat) (sz : Nat) (NN : Nat) (mZ : Rc) (mY : Rc) (mB : Rc) (mL : Rc) (mU : Rc) (mJ : Rc) (mK : Rc) (mG : Rc) (mA : Rc) (mS : Rc) (mW : Rc) {of : Int32} {mL' mS' mW' : Rc} (hf : fX10_readSum NN mB mL mS mW = some (of, mL', mS', mW')) : zTv l yX10_readSum (Cond.code yX10_readSum cX10_readSum 2 none :: lw_g) (rX10_readSum 12) (dC, dI) [(cI, .int), (cB, .byte)] [.ref (bV 0)] sz (kX10 cI cB bV (bP 0) (bS 0) (bW 0) (bN 0) (bO 0) mZ mY mB mL mU mJ mK mG mA ++ kX8 cI cB bS mS ++ kX9 cI cB bW mW) (bW 0) of (kX10 cI cB bV (bP 0) (bS 0) (bW 0) (bN 0) (bO 0) mZ mY mB mL' mU mJ mK mG mA ++ kX8 cI cB bS mS' ++ kX9 cI cB bW mW') :=
  mtX10_readSumB l dC dI cI cB bV bP bS bW bN bO sz NN mZ mY mB mL mU mJ mK mG mA mS mW 12 _ (mtX10_readPart l dC dI cI cB bV bP bS bW bN bO NN 12) hf
