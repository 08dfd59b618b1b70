/-! own part (pure): one step of each loop -/
theorem fX6_append_L3_s (p1 : Int32) (J49_2 : Rc → Option (Rc)) (n : Nat) (x3 : Int32) (oT_4 : Rc) : fX6_append_L3 p1 J49_2 (n + 1) x3 oT_4 = (
    if x3 < 0 then (
      J49_2 oT_4
    ) else (
      if (600 : Int32) ≤ (oT_4 1 0) then (
        J49_2 oT_4
      ) else (
        zGd (inb (oT_4 1 0) 600) <|
        zLet (rs oT_4 0 (upd (oT_4 0) (oT_4 1 0).toNatClampNeg (((p1.toUInt32 >>> (x3.toUInt32 &&& Int32.toUInt32 31)).toInt32) &&& (255 : Int32)))) fun oT_6 =>
        zLet (rs oT_6 1 (fun _ => ((oT_6 1 0) + (1 : Int32)))) fun oT_7 =>
        zLet (x3 + (-8)) fun x8 =>
        fX6_append_L3 p1 J49_2 n x8 oT_7
      )
    )) := rfl
theorem fX6_skipBlanks_L0_s (J52_2 : Rc → Option (Rc)) (n : Nat) (oT_3 : Rc) : fX6_skipBlanks_L0 J52_2 (n + 1) oT_3 = (
    if (oT_3 2 0) ≤ (oT_3 3 0) then (
      J52_2 oT_3
    ) else (
      zGd (inb (oT_3 3 0) 600) <|
      zJn (fun (_ : Unit) =>
          zLet (rs oT_3 3 (fun _ => ((oT_3 3 0) + (1 : Int32)))) fun oT_6 =>
          fX6_skipBlanks_L0 J52_2 n oT_6
        ) fun J39_5 =>
      if (oT_3 0 (oT_3 3 0).toNatClampNeg) = (32 : Int32) then (
        J39_5 ()
      ) else (
        zGd (inb (oT_3 3 0) 600) <|
        if (oT_3 0 (oT_3 3 0).toNatClampNeg) = (10 : Int32) then (
          J39_5 ()
        ) else (
          J52_2 oT_3
        )
      )
    )) := rfl
theorem fX6_takeWord_L0_s (J39_2 : Rc → Option (Rc)) (n : Nat) (oT_14 : Rc) : fX6_takeWord_L0 J39_2 (n + 1) oT_14 = (
    if (oT_14 2 0) ≤ (oT_14 3 0) then (
      J39_2 oT_14
    ) else (
      zGd (inb (oT_14 3 0) 600) <|
      zB1 (fX6_isLetter (oT_14 0 (oT_14 3 0).toNatClampNeg)) fun v16 =>
      if v16 = 0 then (
        J39_2 oT_14
      ) else (
        zLet (rs oT_14 3 (fun _ => ((oT_14 3 0) + (1 : Int32)))) fun oT_17 =>
        fX6_takeWord_L0 J39_2 n oT_17
      )
    )) := rfl
theorem fX6_takeWhole_L0_s (J63_2 : Rc → Option (Rc)) (n : Nat) (oT_6 : Rc) : fX6_takeWhole_L0 J63_2 (n + 1) oT_6 = (
    if (oT_6 2 0) ≤ (oT_6 3 0) then (
      J63_2 oT_6
    ) else (
      zGd (inb (oT_6 3 0) 600) <|
      zB1 (fX6_isDigit (oT_6 0 (oT_6 3 0).toNatClampNeg)) fun v8 =>
      if v8 = 0 then (
        J63_2 oT_6
      ) else (
        zGd (inb (oT_6 3 0) 600) <|
        zLet (rs oT_6 7 (fun _ => ((((oT_6 7 0) * (10 : Int32)) + (oT_6 0 (oT_6 3 0).toNatClampNeg)) - (48 : Int32)))) fun oT_9 =>
        zLet (rs oT_9 3 (fun _ => ((oT_9 3 0) + (1 : Int32)))) fun oT_10 =>
        fX6_takeWhole_L0 J63_2 n oT_10
      )
    )) := rfl
theorem fX4_isNamed_L17_s (oT : Rc) (oS : Rc) (p1 : Int32) (J54_1 : Unit → Option (Int32)) (n : Nat) (x2 : Int32) : fX4_isNamed_L17 oT oS p1 J54_1 (n + 1) x2 = (
    zGd (inb p1 12) <|
    if (oS 5 p1.toNatClampNeg) ≤ x2 then (
      J54_1 ()
    ) else (
      zGd (inb ((p1 * (8 : Int32)) + x2) 96) <|
      zB1 (fX6_letter oT x2) fun v4 =>
      if (oS 4 ((p1 * (8 : Int32)) + x2).toNatClampNeg) = v4 then (
        zLet (x2 + 1) fun x5 =>
        fX4_isNamed_L17 oT oS p1 J54_1 n x5
      ) else (
        some (0 : Int32)
      )
    )) := rfl
theorem fX4_hasBlockNamed_L2_s (oT : Rc) (oS : Rc) (NN : Nat) (J27_1 : Unit → Option (Int32)) (n : Nat) (x2 : Int32) : fX4_hasBlockNamed_L2 oT oS NN J27_1 (n + 1) x2 = (
    if (oS 0 0) ≤ x2 then (
      J27_1 ()
    ) else (
      zB1 (fX4_isNamed NN oT oS x2) fun v4 =>
      if v4 = 0 then (
        zLet (x2 + 1) fun x5 =>
        fX4_hasBlockNamed_L2 oT oS NN J27_1 n x5
      ) else (
        some (1 : Int32)
      )
    )) := rfl
theorem fX4_addBlock_L30_s (oT : Rc) (J68_4 : Rc → Option (Rc)) (n : Nat) (x8 : Int32) (oS_9 : Rc) : fX4_addBlock_L30 oT J68_4 (n + 1) x8 oS_9 = (
    zGd (inb (oS_9 0 0) 12) <|
    if (oS_9 5 (oS_9 0 0).toNatClampNeg) ≤ x8 then (
      J68_4 oS_9
    ) else (
      zB1 (fX6_letter oT x8) fun v11 =>
      zGd (inb (((oS_9 0 0) * (8 : Int32)) + x8) 96) <|
      zLet (rs oS_9 4 (upd (oS_9 4) (((oS_9 0 0) * (8 : Int32)) + x8).toNatClampNeg v11)) fun oS_12 =>
      zLet (x8 + 1) fun x13 =>
      fX4_addBlock_L30 oT J68_4 n x13 oS_12
    )) := rfl
theorem fX5_endPart_L2_s (oR : Rc) (J31_2 : Rc → Option (Rc × Rc)) (n : Nat) (x8 : Int32) (oS_9 : Rc) : fX5_endPart_L2 oR J31_2 (n + 1) x8 oS_9 = (
    zGd (inb (oR 7 0) 9) <|
    if (oR 9 (oR 7 0).toNatClampNeg) ≤ x8 then (
      J31_2 oS_9
    ) else (
      zB1 (fX4_addStep oS_9 (126 : Int32) (0 : Int32)) fun oS_11 =>
      zLet (x8 + 1) fun x12 =>
      fX5_endPart_L2 oR J31_2 n x12 oS_11
    )) := rfl
theorem fX5_read_L27_s (NN : Nat) (J79_8 : Rc → Rc → Rc → Option (Int32 × Rc × Rc × Rc)) (n : Nat) (x15 : Int32) (oR_16 : Rc) (oT_17 : Rc) (oS_18 : Rc) : fX5_read_L27 NN J79_8 (n + 1) x15 oR_16 oT_17 oS_18 = (
    if (600 : Int32) ≤ x15 then (
      J79_8 oR_16 oT_17 oS_18
    ) else (
      if (oR_16 2 0) = 0 then (
        if (oT_17 4 0) = 0 then (
          J79_8 oR_16 oT_17 oS_18
        ) else (
          zB3 (fX5_meet NN oR_16 oT_17 oS_18) fun v20 oR_21 oS_22 =>
          zLet (rs oR_21 2 (fun _ => v20)) fun oR_23 =>
          if (oR_23 2 0) = 0 then (
            zB1 (fX6_step NN oT_17) fun oT_25 =>
            zLet (x15 + 1) fun x26 =>
            fX5_read_L27 NN J79_8 n x26 oR_23 oT_25 oS_22
          ) else (
            zLet (x15 + 1) fun x24 =>
            fX5_read_L27 NN J79_8 n x24 oR_23 oT_17 oS_22
          )
        )
      ) else (
        J79_8 oR_16 oT_17 oS_18
      )
    )) := rfl
theorem fX1_narrow_L2_s (p1 : Int32) (J24_2 : Ar → Option (Ar)) (n : Nat) (x3 : Int32) (oN_4 : Ar) : fX1_narrow_L2 p1 J24_2 (n + 1) x3 oN_4 = (
    if (8 : Int32) ≤ x3 then (
      J24_2 oN_4
    ) else (
      zGd (inb x3 8) <|
      zGd (inb x3 8) <|
      zLet (upd oN_4 x3.toNatClampNeg ((oN_4 x3.toNatClampNeg) &&& p1)) fun oN_6 =>
      zLet (x3 + 1) fun x7 =>
      fX1_narrow_L2 p1 J24_2 n x7 oN_6
    )) := rfl
theorem fX1_worth_L15_s (oP : Rc) (oO : Ar) (p2 : Int32) (p4 : Int32) (J155_4 : Rc → Option (Int32 × Rc)) (n : Nat) (x7 : Int32) (oQ_8 : Rc) : fX1_worth_L15 oP oO p2 p4 J155_4 (n + 1) x7 oQ_8 = (
    zGd (inb (p2 + (1 : Int32)) 97) <|
    if (oP 10 (p2 + (1 : Int32)).toNatClampNeg) ≤ x7 then (
      J155_4 oQ_8
    ) else (
      zGd (inb x7 600) <|
      zLet (oP 11 x7.toNatClampNeg) fun x10 =>
      zGd (inb x7 600) <|
      zLet (oP 12 x7.toNatClampNeg) fun x11 =>
      if x10 = (4 : Int32) then (
        zGd (inb x11 8) <|
        zB1 (fX3_push oQ_8 (oO x11.toNatClampNeg)) fun oQ_25 =>
        zLet (x7 + 1) fun x26 =>
        fX1_worth_L15 oP oO p2 p4 J155_4 n x26 oQ_25
      ) else (
        if x10 = (3 : Int32) then (
          zB1 (fX3_push oQ_8 (x11 &&& p4)) fun oQ_23 =>
          zLet (x7 + 1) fun x24 =>
          fX1_worth_L15 oP oO p2 p4 J155_4 n x24 oQ_23
        ) else (
          if x10 = (126 : Int32) then (
            zB2 (fX3_pop oQ_8) fun v19 oQ_20 =>
            zB1 (fX3_push oQ_20 ((v19 ^^^ (-1 : Int32)) &&& p4)) fun oQ_21 =>
            zLet (x7 + 1) fun x22 =>
            fX1_worth_L15 oP oO p2 p4 J155_4 n x22 oQ_21
          ) else (
            zB2 (fX3_pop oQ_8) fun v12 oQ_13 =>
            zB2 (fX3_pop oQ_13) fun v14 oQ_15 =>
            zB1 (fX1_joined x10 v14 v12) fun v16 =>
            zB1 (fX3_push oQ_15 (v16 &&& p4)) fun oQ_17 =>
            zLet (x7 + 1) fun x18 =>
            fX1_worth_L15 oP oO p2 p4 J155_4 n x18 oQ_17
          )
        )
      )
    )) := rfl
theorem fX1_doBlock_L8_s (oP : Rc) (p2 : Int32) (p4 : Int32) (NN : Nat) (J68_4 : Rc → Ar → Option (Rc × Ar)) (n : Nat) (x5 : Int32) (oQ_6 : Rc) (oO_7 : Ar) : fX1_doBlock_L8 oP p2 p4 NN J68_4 (n + 1) x5 oQ_6 oO_7 = (
    zGd (inb (p2 + (1 : Int32)) 13) <|
    if (oP 7 (p2 + (1 : Int32)).toNatClampNeg) ≤ x5 then (
      J68_4 oQ_6 oO_7
    ) else (
      zGd (inb x5 96) <|
      zLet (oP 9 x5.toNatClampNeg) fun x9 =>
      zJn (fun (_ : Unit) =>
          zGd (inb x5 96) <|
          zB2 (fX1_worth NN oP oQ_6 oO_7 x5 p4) fun v11 oQ_12 =>
          zGd (inb (oP 8 x5.toNatClampNeg) 8) <|
          zLet (upd oO_7 (oP 8 x5.toNatClampNeg).toNatClampNeg v11) fun oO_13 =>
          zLet (x5 + 1) fun x14 =>
          fX1_doBlock_L8 oP p2 p4 NN J68_4 n x14 oQ_12 oO_13
        ) fun J43_10 =>
      if x9 = (-1 : Int32) then (
        J43_10 ()
      ) else (
        zGd (inb x9 8) <|
        if (oO_7 x9.toNatClampNeg) = 0 then (
          zLet (x5 + 1) fun x15 =>
          fX1_doBlock_L8 oP p2 p4 NN J68_4 n x15 oQ_6 oO_7
        ) else (
          J43_10 ()
        )
      )
    )) := rfl
theorem fX1_triedIsSame_L2_s (oN : Ar) (oY : Ar) (J31_1 : Unit → Option (Int32)) (n : Nat) (x2 : Int32) : fX1_triedIsSame_L2 oN oY J31_1 (n + 1) x2 = (
    if (8 : Int32) ≤ x2 then (
      J31_1 ()
    ) else (
      zGd (inb x2 8) <|
      zGd (inb x2 8) <|
      if (oY x2.toNatClampNeg) = (oN x2.toNatClampNeg) then (
        zLet (x2 + 1) fun x4 =>
        fX1_triedIsSame_L2 oN oY J31_1 n x4
      ) else (
        some (0 : Int32)
      )
    )) := rfl
theorem fX2_beginBlock_L49_s (J68_9 : Rc → Option (Rc)) (n : Nat) (x10 : Int32) (oE_11 : Rc) : fX2_beginBlock_L49 J68_9 (n + 1) x10 oE_11 = (
    if (8 : Int32) ≤ x10 then (
      J68_9 oE_11
    ) else (
      zGd (inb x10 8) <|
      zLet (rs oE_11 7 (upd (oE_11 7) x10.toNatClampNeg (0 : Int32))) fun oE_13 =>
      zLet (x10 + 1) fun x14 =>
      fX2_beginBlock_L49 J68_9 n x14 oE_13
    )) := rfl
theorem fX2_sumDepth_L15_s (oP : Rc) (p2 : Int32) (p3 : Int32) (J159_5 : Rc → Rc → Option (Int32 × Rc × Rc)) (n : Nat) (x8 : Int32) (oE_9 : Rc) (oQ_10 : Rc) : fX2_sumDepth_L15 oP p2 p3 J159_5 (n + 1) x8 oE_9 oQ_10 = (
    zGd (inb (p3 + (1 : Int32)) 97) <|
    if (oP 10 (p3 + (1 : Int32)).toNatClampNeg) ≤ x8 then (
      J159_5 oE_9 oQ_10
    ) else (
      zGd (inb x8 600) <|
      zLet (oP 11 x8.toNatClampNeg) fun x12 =>
      if x12 = (4 : Int32) then (
        zGd (inb x8 600) <|
        zB1 (fX2_ask oE_9 p2 (oP 12 x8.toNatClampNeg)) fun oE_29 =>
        zGd (inb x8 600) <|
        zGd (inb (oP 12 x8.toNatClampNeg) 8) <|
        zB1 (fX3_push oQ_10 (oE_29 7 (oP 12 x8.toNatClampNeg).toNatClampNeg)) fun oQ_30 =>
        zLet (x8 + 1) fun x31 =>
        fX2_sumDepth_L15 oP p2 p3 J159_5 n x31 oE_29 oQ_30
      ) else (
        if x12 = (3 : Int32) then (
          zB1 (fX3_push oQ_10 (0 : Int32)) fun oQ_27 =>
          zLet (x8 + 1) fun x28 =>
          fX2_sumDepth_L15 oP p2 p3 J159_5 n x28 oE_9 oQ_27
        ) else (
          zB1 (fX2_takeOp oE_9 p2 x12) fun oE_13 =>
          zJn (fun (oQ_14 : Rc) (t15 : Int32) =>
              zB1 (fX2_depthOfOp oE_13 x12) fun v17 =>
              zB1 (fX3_push oQ_14 (t15 + v17)) fun oQ_18 =>
              zLet (x8 + 1) fun x19 =>
              fX2_sumDepth_L15 oP p2 p3 J159_5 n x19 oE_13 oQ_18
            ) fun J135_16 =>
          if x12 = (126 : Int32) then (
            zB2 (fX3_pop oQ_10) fun v25 oQ_26 =>
            J135_16 oQ_26 v25
          ) else (
            zB2 (fX3_pop oQ_10) fun v20 oQ_21 =>
            zB2 (fX3_pop oQ_21) fun v22 oQ_23 =>
            zLet (if v20 < v22 then v22 else v20) fun x24 =>
            J135_16 oQ_23 x24
          )
        )
      )
    )) := rfl
theorem fX2_reckon_L32_s (oP : Rc) (NN : Nat) (x5 : Int32) (J61_13 : Rc → Rc → Option (Rc × Rc)) (n : Nat) (x21 : Int32) (oE_22 : Rc) (oQ_23 : Rc) : fX2_reckon_L32 oP NN x5 J61_13 (n + 1) x21 oE_22 oQ_23 = (
    zGd (inb (x5 + (1 : Int32)) 13) <|
    if (oP 7 (x5 + (1 : Int32)).toNatClampNeg) ≤ x21 then (
      J61_13 oE_22 oQ_23
    ) else (
      zB2 (fX2_reckonLine NN oP oE_22 oQ_23 x5 x21) fun oE_25 oQ_26 =>
      zLet (x21 + 1) fun x27 =>
      fX2_reckon_L32 oP NN x5 J61_13 n x27 oE_25 oQ_26
    )) := rfl
theorem fX2_reckon_L8_s (oP : Rc) (p3 : Int32) (NN : Nat) (J129_4 : Rc → Rc → Option (Rc × Rc)) (n : Nat) (x5 : Int32) (oE_6 : Rc) (oQ_7 : Rc) : fX2_reckon_L8 oP p3 NN J129_4 (n + 1) x5 oE_6 oQ_7 = (
    if (oP 0 0) ≤ x5 then (
      J129_4 oE_6 oQ_7
    ) else (
      zB1 (fX2_beginBlock NN oE_6 x5) fun oE_9 =>
      zGd (inb x5 13) <|
      zLet (oP 7 x5.toNatClampNeg) fun x10 =>
      zJn (fun (oE_11 : Rc) (oQ_12 : Rc) =>
          zGd (inb x5 12) <|
          zLet (oP 6 x5.toNatClampNeg) fun x14 =>
          zGd (inb x5 12) <|
          zGd (inb x5 12) <|
          zLet (rs oE_11 1 (upd (oE_11 1) x5.toNatClampNeg ((oE_11 1 x5.toNatClampNeg) * x14))) fun oE_15 =>
          zJn (fun (t16 : Int32) =>
              zLet (if (1 : Int32) < t16 then t16 else (1 : Int32)) fun x18 =>
              zGd (inb x5 12) <|
              zLet (rs oE_15 4 (upd (oE_15 4) x5.toNatClampNeg ((1 : Int32) + (x14 * x18)))) fun oE_19 =>
              zLet (x5 + 1) fun x20 =>
              fX2_reckon_L8 oP p3 NN J129_4 n x20 oE_19 oQ_12
            ) fun J103_17 =>
          if p3 ≤ 0 then (
            J103_17 (1 : Int32)
          ) else (
            zGd (inb x5 12) <|
            zGd (¬ p3 = 0) <|
            J103_17 ((((oE_15 3 x5.toNatClampNeg) + p3) - (1 : Int32)) / p3)
          )
        ) fun J61_13 =>
      fX2_reckon_L32 oP NN x5 J61_13 NN x10 oE_9 oQ_7
    )) := rfl
theorem fX0_follow_L27_s (oE : Rc) (p2 : Int32) (p3 : Int32) (J113_7 : Int32 → Rc → Option (Rc)) (n : Nat) (x10 : Int32) (x11 : Int32) (oC_12 : Rc) : fX0_follow_L27 oE p2 p3 J113_7 (n + 1) x10 x11 oC_12 = (
    if p2 ≤ x11 then (
      J113_7 x10 oC_12
    ) else (
      zLet ((p3 >>> (x11 &&& 31)) &&& (1 : Int32)) fun x14 =>
      zGd (inb x11 12) <|
      zB1 (fX0_lacking x10 (oE 5 x11.toNatClampNeg) x14) fun v15 =>
      zB1 (fX0_note oC_12 x11 v15) fun oC_16 =>
      zB1 (fX0_freshBehind oE x10 x11 x14) fun v17 =>
      zB1 (fX0_ticksOn oE x11 x14) fun v18 =>
      zLet (rs oC_16 1 (fun _ => ((oC_16 1 0) + v18))) fun oC_19 =>
      zB1 (fX0_gatesOn oE x11 x14) fun v20 =>
      zLet (rs oC_19 2 (fun _ => ((oC_19 2 0) + v20))) fun oC_21 =>
      zLet (x11 + 1) fun x22 =>
      fX0_follow_L27 oE p2 p3 J113_7 n v17 x22 oC_21
    )) := rfl
theorem fX0_reckonAll_L80_s (p2 : Int32) (p3 : Int32) (J123_7 : Rc → Option (Rc)) (n : Nat) (x8 : Int32) (oC_9 : Rc) : fX0_reckonAll_L80 p2 p3 J123_7 (n + 1) x8 oC_9 = (
    if ((1 : Int32) <<< (p2 &&& 31)) ≤ x8 then (
      J123_7 oC_9
    ) else (
      zGd (inb x8 4096) <|
      zGd (inb x8 4096) <|
      zB1 (fX0_lacking (oC_9 8 x8.toNatClampNeg) (255 : Int32) (0 : Int32)) fun v11 =>
      zB1 (fJ6_bitCount_0f7a4 v11) fun v12 =>
      zGd (inb x8 4096) <|
      zLet (rs oC_9 9 (upd (oC_9 9) x8.toNatClampNeg ((oC_9 9 x8.toNatClampNeg) + (p3 * v12)))) fun oC_13 =>
      zLet (x8 + 1) fun x14 =>
      fX0_reckonAll_L80 p2 p3 J123_7 n x14 oC_13
    )) := rfl
theorem fX0_reckonAll_L34_s (oE : Rc) (p3 : Int32) (x15 : Int32) (J71_19 : Rc → Option (Rc)) (n : Nat) (x21 : Int32) (oC_22 : Rc) : fX0_reckonAll_L34 oE p3 x15 J71_19 (n + 1) x21 oC_22 = (
    if ((1 : Int32) <<< (x15 &&& 31)) ≤ x21 then (
      J71_19 oC_22
    ) else (
      zB1 (fX0_extend oE oC_22 x15 x21 (1 : Int32) p3) fun oC_24 =>
      zB1 (fX0_extend oE oC_24 x15 x21 (0 : Int32) p3) fun oC_25 =>
      zLet (x21 + 1) fun x26 =>
      fX0_reckonAll_L34 oE p3 x15 J71_19 n x26 oC_25
    )) := rfl
theorem fX0_reckonAll_L25_s (oE : Rc) (p2 : Int32) (p3 : Int32) (NN : Nat) (J77_5 : Rc → Option (Rc)) (n : Nat) (x15 : Int32) (oC_16 : Rc) : fX0_reckonAll_L25 oE p2 p3 NN J77_5 (n + 1) x15 oC_16 = (
    if p2 ≤ x15 then (
      J77_5 oC_16
    ) else (
      zJn (fun (oC_18 : Rc) =>
          zLet (x15 + 1) fun x20 =>
          fX0_reckonAll_L25 oE p2 p3 NN J77_5 n x20 oC_18
        ) fun J71_19 =>
      fX0_reckonAll_L34 oE p3 x15 J71_19 NN (0 : Int32) oC_16
    )) := rfl
theorem fX0_edgesWithin_L7_s (oC : Rc) (p1 : Int32) (J49_3 : Int32 → Option (Int32)) (n : Nat) (x4 : Int32) (x5 : Int32) : fX0_edgesWithin_L7 oC p1 J49_3 (n + 1) x4 x5 = (
    if x5 ≤ x4 then (
      J49_3 x4
    ) else (
      zLet ((x4 + x5) / (2 : Int32)) fun x7 =>
      zGd (inb x7 4096) <|
      zGd (inb (oC 6 x7.toNatClampNeg) 4096) <|
      if p1 < (oC 10 (oC 6 x7.toNatClampNeg).toNatClampNeg) then (
        fX0_edgesWithin_L7 oC p1 J49_3 n x4 x7
      ) else (
        zLet (x7 + (1 : Int32)) fun x8 =>
        fX0_edgesWithin_L7 oC p1 J49_3 n x8 x5
      )
    )) := rfl
theorem fX0_offer_L69_s (oC : Rc) (p1 : Int32) (J103_6 : Int32 → Option (Rc)) (n : Nat) (x11 : Int32) : fX0_offer_L69 oC p1 J103_6 (n + 1) x11 = (
    if (oC 7 0) ≤ x11 then (
      J103_6 x11
    ) else (
      zGd (inb x11 4096) <|
      zGd (inb (oC 6 x11.toNatClampNeg) 4096) <|
      zGd (inb p1 4096) <|
      if (oC 9 (oC 6 x11.toNatClampNeg).toNatClampNeg) < (oC 9 p1.toNatClampNeg) then (
        J103_6 x11
      ) else (
        zLet (x11 + 1) fun x13 =>
        fX0_offer_L69 oC p1 J103_6 n x13
      )
    )) := rfl
theorem fX0_prepare_L23_s (p2 : Int32) (NN : Nat) (J43_4 : Rc → Option (Rc)) (n : Nat) (x6 : Int32) (oC_7 : Rc) : fX0_prepare_L23 p2 NN J43_4 (n + 1) x6 oC_7 = (
    if ((1 : Int32) <<< (p2 &&& 31)) ≤ x6 then (
      J43_4 oC_7
    ) else (
      zB1 (fX0_offer NN oC_7 x6) fun oC_9 =>
      zLet (x6 + 1) fun x10 =>
      fX0_prepare_L23 p2 NN J43_4 n x10 oC_9
    )) := rfl
theorem fX0_fewestGatesWithin_L2_s (oC : Rc) (p1 : Int32) (J43_1 : Unit → Option (Int32)) (n : Nat) (x2 : Int32) : fX0_fewestGatesWithin_L2 oC p1 J43_1 (n + 1) x2 = (
    if (oC 7 0) ≤ x2 then (
      J43_1 ()
    ) else (
      zGd (inb x2 4096) <|
      zGd (inb (oC 6 x2.toNatClampNeg) 4096) <|
      if p1 < (oC 9 (oC 6 x2.toNatClampNeg).toNatClampNeg) then (
        zLet (x2 + 1) fun x4 =>
        fX0_fewestGatesWithin_L2 oC p1 J43_1 n x4
      ) else (
        zGd (inb x2 4096) <|
        zGd (inb (oC 6 x2.toNatClampNeg) 4096) <|
        some (oC 10 (oC 6 x2.toNatClampNeg).toNatClampNeg)
      )
    )) := rfl
theorem fX7_run_L29_s (oP : Rc) (NN : Nat) (oH_3 : Rc) (x9 : Int32) (J71_15 : Ar → Rc → Option (Int32 × Rc × Ar × Rc × Rc)) (n : Nat) (x17 : Int32) (oN_18 : Ar) (oK_19 : Rc) : fX7_run_L29 oP NN oH_3 x9 J71_15 (n + 1) x17 oN_18 oK_19 = (
    zGd (inb x9 12) <|
    if (oP 6 x9.toNatClampNeg) ≤ x17 then (
      J71_15 oN_18 oK_19
    ) else (
      zB1 (fX7_mask oH_3) fun v21 =>
      zB2 (fX1_doBlock NN oP oK_19 oN_18 x9 v21) fun oK_22 oN_23 =>
      zLet (x17 + 1) fun x24 =>
      fX7_run_L29 oP NN oH_3 x9 J71_15 n x24 oN_23 oK_22
    )) := rfl
theorem fX7_run_L16_s (oP : Rc) (NN : Nat) (oH_3 : Rc) (J77_6 : Ar → Rc → Option (Int32 × Rc × Ar × Rc × Rc)) (n : Nat) (x9 : Int32) (oN_10 : Ar) (oK_11 : Rc) : fX7_run_L16 oP NN oH_3 J77_6 (n + 1) x9 oN_10 oK_11 = (
    if (oP 0 0) ≤ x9 then (
      J77_6 oN_10 oK_11
    ) else (
      zJn (fun (oN_13 : Ar) (oK_14 : Rc) =>
          zLet (x9 + 1) fun x16 =>
          fX7_run_L16 oP NN oH_3 J77_6 n x16 oN_13 oK_14
        ) fun J71_15 =>
      fX7_run_L29 oP NN oH_3 x9 J71_15 NN (0 : Int32) oN_10 oK_11
    )) := rfl
theorem fX10_bits_L4_s (J20_2 : Int32 → Option (Int32)) (n : Nat) (x3 : Int32) (x4 : Int32) : fX10_bits_L4 J20_2 (n + 1) x3 x4 = (
    if x4 = 0 then (
      J20_2 x3
    ) else (
      zLet (x3 + 1) fun x6 =>
      zLet (x4 &&& (x4 - (1 : Int32))) fun x7 =>
      fX10_bits_L4 J20_2 n x6 x7
    )) := rfl
theorem fX10_next_L149_s (mB : Rc) (J207_16 : Int32 → Rc → Option (Rc)) (n : Nat) (x18 : Int32) (mL_19 : Rc) : fX10_next_L149 mB J207_16 (n + 1) x18 mL_19 = (
    zB1 (fX10_byteAt mB mL_19 (mL_19 14 0)) fun v21 =>
    zB1 (fX10_isDigit v21) fun v22 =>
    if v22 = 0 then (
      J207_16 x18 mL_19
    ) else (
      zJn (fun (mL_23 : Rc) =>
          zLet (x18 + 1) fun x25 =>
          zLet (rs mL_23 14 (fun _ => ((mL_23 14 0) + (1 : Int32)))) fun mL_26 =>
          fX10_next_L149 mB J207_16 n x25 mL_26
        ) fun J191_24 =>
      if (5 : Int32) ≤ x18 then (
        J191_24 mL_19
      ) else (
        zB1 (fX10_byteAt mB mL_19 (mL_19 14 0)) fun v27 =>
        zLet (rs mL_19 18 (fun _ => ((((10 : Int32) * (mL_19 18 0)) + v27) - (48 : Int32)))) fun mL_28 =>
        J191_24 mL_28
      )
    )) := rfl
theorem fX10_next_L88_s (mB : Rc) (J118_31 : Int32 → Rc → Option (Rc)) (n : Nat) (x34 : Int32) (mL_35 : Rc) : fX10_next_L88 mB J118_31 (n + 1) x34 mL_35 = (
    zB1 (fX10_byteAt mB mL_35 (mL_35 14 0)) fun v37 =>
    zB1 (fX10_isLetter v37) fun v38 =>
    if v38 = 0 then (
      J118_31 x34 mL_35
    ) else (
      zLet (x34 + 1) fun x39 =>
      zLet (rs mL_35 14 (fun _ => ((mL_35 14 0) + (1 : Int32)))) fun mL_40 =>
      fX10_next_L88 mB J118_31 n x39 mL_40
    )) := rfl
theorem fX10_next_L0_s (mB : Rc) (J39_2 : Rc → Option (Rc)) (n : Nat) (mL_42 : Rc) : fX10_next_L0 mB J39_2 (n + 1) mL_42 = (
    zB1 (fX10_byteAt mB mL_42 (mL_42 14 0)) fun v44 =>
    zJn (fun (_ : Unit) =>
        zLet (rs mL_42 14 (fun _ => ((mL_42 14 0) + (1 : Int32)))) fun mL_46 =>
        fX10_next_L0 mB J39_2 n mL_46
      ) fun J26_45 =>
    if v44 = (32 : Int32) then (
      J26_45 ()
    ) else (
      zB1 (fX10_byteAt mB mL_42 (mL_42 14 0)) fun v47 =>
      if v47 = (10 : Int32) then (
        J26_45 ()
      ) else (
        J39_2 mL_42
      )
    )) := rfl
theorem fX10_isName_L24_s (mB : Rc) (mL : Rc) (mS : Rc) (p1 : Int32) (J76_4 : Int32 → Option (Int32)) (n : Nat) (x5 : Int32) (x6 : Int32) : fX10_isName_L24 mB mL mS p1 J76_4 (n + 1) x5 x6 = (
    if (mL 19 0) ≤ x6 then (
      J76_4 x5
    ) else (
      if x5 = 0 then (
        J76_4 x5
      ) else (
        zGd (inb (((8 : Int32) * p1) + x6) 96) <|
        zGd (inb ((mL 16 0) + x6) 600) <|
        if (mS 6 (((8 : Int32) * p1) + x6).toNatClampNeg) = (mB 11 ((mL 16 0) + x6).toNatClampNeg) then (
          zLet (x6 + 1) fun x9 =>
          fX10_isName_L24 mB mL mS p1 J76_4 n (1 : Int32) x9
        ) else (
          zLet (x6 + 1) fun x8 =>
          fX10_isName_L24 mB mL mS p1 J76_4 n (0 : Int32) x8
        )
      )
    )) := rfl
theorem fX10_feed_L23_s (p1 : Int32) (p2 : Int32) (p3 : Int32) (p4 : Int32) (p5 : Int32) (J117_3 : Rc → Option (Int32 × Rc × Rc)) (n : Nat) (x4 : Int32) (mB_5 : Rc) : fX10_feed_L23 p1 p2 p3 p4 p5 J117_3 (n + 1) x4 mB_5 = (
    if (20 : Int32) ≤ x4 then (
      J117_3 mB_5
    ) else (
      zJn (fun (t7 : Int32) =>
          zGd (inb (mB_5 12 0) 600) <|
          zLet (rs mB_5 11 (upd (mB_5 11) (mB_5 12 0).toNatClampNeg (vp_nar .byte ((t7 >>> (((24 : Int32) - ((8 : Int32) * (x4 - x4 / (4 : Int32) * (4 : Int32)))) &&& 31)).toInt8.toInt32)))) fun mB_9 =>
          zLet (rs mB_9 12 (fun _ => ((mB_9 12 0) + (1 : Int32)))) fun mB_10 =>
          zLet (x4 + 1) fun x11 =>
          fX10_feed_L23 p1 p2 p3 p4 p5 J117_3 n x11 mB_10
        ) fun J76_8 =>
      if (4 : Int32) ≤ x4 then (
        if (8 : Int32) ≤ x4 then (
          if (12 : Int32) ≤ x4 then (
            if (16 : Int32) ≤ x4 then (
              J76_8 p5
            ) else (
              J76_8 p4
            )
          ) else (
            J76_8 p3
          )
        ) else (
          J76_8 p2
        )
      ) else (
        J76_8 p1
      )
    )) := rfl
theorem fX10_set_L60_s (mY_10 : Rc) (J91_12 : Ar → Option (Int32 × Rc × Rc × Ar)) (n : Nat) (x15 : Int32) (mN_16 : Ar) : fX10_set_L60 mY_10 J91_12 (n + 1) x15 mN_16 = (
    if (8 : Int32) ≤ x15 then (
      J91_12 mN_16
    ) else (
      zGd (inb x15 8) <|
      zB1 (fX10_low mY_10 (mN_16 x15.toNatClampNeg)) fun v18 =>
      zGd (inb x15 8) <|
      zLet (upd mN_16 x15.toNatClampNeg v18) fun mN_19 =>
      zLet (x15 + 1) fun x20 =>
      fX10_set_L60 mY_10 J91_12 n x20 mN_19
    )) := rfl
theorem fX10_opsOf_L57_s (mP : Rc) (x5 : Int32) (J100_12 : Int32 → Option (Int32)) (n : Nat) (x14 : Int32) (x15 : Int32) : fX10_opsOf_L57 mP x5 J100_12 (n + 1) x14 x15 = (
    zGd (inb x5 96) <|
    if (mP 10 x5.toNatClampNeg) ≤ x15 then (
      J100_12 x14
    ) else (
      zGd (inb x15 700) <|
      if (9 : Int32) ≤ (mP 11 x15.toNatClampNeg) then (
        zLet (x14 + (0 : Int32)) fun x17 =>
        zLet (x15 + 1) fun x18 =>
        fX10_opsOf_L57 mP x5 J100_12 n x17 x18
      ) else (
        zLet (x14 + (1 : Int32)) fun x19 =>
        zLet (x15 + 1) fun x20 =>
        fX10_opsOf_L57 mP x5 J100_12 n x19 x20
      )
    )) := rfl
theorem fX10_opsOf_L7_s (mP : Rc) (p1 : Int32) (NN : Nat) (J106_3 : Int32 → Option (Int32)) (n : Nat) (x4 : Int32) (x5 : Int32) : fX10_opsOf_L7 mP p1 NN J106_3 (n + 1) x4 x5 = (
    zGd (inb p1 12) <|
    if (((8 : Int32) * p1) + (mP 5 p1.toNatClampNeg)) ≤ x5 then (
      J106_3 x4
    ) else (
      zGd (inb x5 96) <|
      zJn (fun (t7 : Int32) =>
          zLet (x4 + t7) fun x9 =>
          zGd (inb x5 96) <|
          zLet (mP 9 x5.toNatClampNeg) fun x10 =>
          zJn (fun (x11 : Int32) =>
              zLet (x5 + 1) fun x13 =>
              fX10_opsOf_L7 mP p1 NN J106_3 n x11 x13
            ) fun J100_12 =>
          fX10_opsOf_L57 mP x5 J100_12 NN x9 x10
        ) fun J44_8 =>
      if (mP 7 x5.toNatClampNeg) = (-1 : Int32) then (
        J44_8 (0 : Int32)
      ) else (
        J44_8 (1 : Int32)
      )
    )) := rfl
theorem fX10_codeTicks_L57_s (mY : Rc) (mP : Rc) (x5 : Int32) (J121_12 : Int32 → Option (Int32)) (n : Nat) (x14 : Int32) (x15 : Int32) : fX10_codeTicks_L57 mY mP x5 J121_12 (n + 1) x14 x15 = (
    zGd (inb x5 96) <|
    if (mP 10 x5.toNatClampNeg) ≤ x15 then (
      J121_12 x14
    ) else (
      zGd (inb x15 700) <|
      if (mP 11 x15.toNatClampNeg) = (2 : Int32) then (
        zLet (x14 + (mY 4 0)) fun x21 =>
        zLet (x15 + 1) fun x22 =>
        fX10_codeTicks_L57 mY mP x5 J121_12 n x21 x22
      ) else (
        zGd (inb x15 700) <|
        if (9 : Int32) ≤ (mP 11 x15.toNatClampNeg) then (
          zLet (x14 + (0 : Int32)) fun x17 =>
          zLet (x15 + 1) fun x18 =>
          fX10_codeTicks_L57 mY mP x5 J121_12 n x17 x18
        ) else (
          zLet (x14 + (1 : Int32)) fun x19 =>
          zLet (x15 + 1) fun x20 =>
          fX10_codeTicks_L57 mY mP x5 J121_12 n x19 x20
        )
      )
    )) := rfl
theorem fX10_codeTicks_L7_s (mY : Rc) (mP : Rc) (p1 : Int32) (NN : Nat) (J127_3 : Int32 → Option (Int32)) (n : Nat) (x4 : Int32) (x5 : Int32) : fX10_codeTicks_L7 mY mP p1 NN J127_3 (n + 1) x4 x5 = (
    zGd (inb p1 12) <|
    if (((8 : Int32) * p1) + (mP 5 p1.toNatClampNeg)) ≤ x5 then (
      J127_3 x4
    ) else (
      zGd (inb x5 96) <|
      zJn (fun (t7 : Int32) =>
          zLet (x4 + t7) fun x9 =>
          zGd (inb x5 96) <|
          zLet (mP 9 x5.toNatClampNeg) fun x10 =>
          zJn (fun (x11 : Int32) =>
              zLet (x5 + 1) fun x13 =>
              fX10_codeTicks_L7 mY mP p1 NN J127_3 n x11 x13
            ) fun J121_12 =>
          fX10_codeTicks_L57 mY mP x5 J121_12 NN x9 x10
        ) fun J44_8 =>
      if (mP 7 x5.toNatClampNeg) = (-1 : Int32) then (
        J44_8 (1 : Int32)
      ) else (
        J44_8 (2 : Int32)
      )
    )) := rfl
theorem fX10_gatesFor_L62_s (mY : Rc) (mP : Rc) (x5 : Int32) (J118_12 : Int32 → Option (Int32)) (n : Nat) (x14 : Int32) (x15 : Int32) : fX10_gatesFor_L62 mY mP x5 J118_12 (n + 1) x14 x15 = (
    zGd (inb x5 96) <|
    if (mP 10 x5.toNatClampNeg) ≤ x15 then (
      J118_12 x14
    ) else (
      zGd (inb x15 700) <|
      if (9 : Int32) ≤ (mP 11 x15.toNatClampNeg) then (
        zLet (x14 + (0 : Int32)) fun x17 =>
        zLet (x15 + 1) fun x18 =>
        fX10_gatesFor_L62 mY mP x5 J118_12 n x17 x18
      ) else (
        zGd (inb x15 700) <|
        zB1 (fX10_gatesOf mY (mP 11 x15.toNatClampNeg)) fun v19 =>
        zLet (x14 + v19) fun x20 =>
        zLet (x15 + 1) fun x21 =>
        fX10_gatesFor_L62 mY mP x5 J118_12 n x20 x21
      )
    )) := rfl
theorem fX10_gatesFor_L7_s (mY : Rc) (mP : Rc) (p1 : Int32) (NN : Nat) (J124_3 : Int32 → Option (Int32)) (n : Nat) (x4 : Int32) (x5 : Int32) : fX10_gatesFor_L7 mY mP p1 NN J124_3 (n + 1) x4 x5 = (
    zGd (inb p1 12) <|
    if (((8 : Int32) * p1) + (mP 5 p1.toNatClampNeg)) ≤ x5 then (
      J124_3 x4
    ) else (
      zGd (inb x5 96) <|
      zJn (fun (t7 : Int32) =>
          zLet (x4 + t7) fun x9 =>
          zGd (inb x5 96) <|
          zLet (mP 9 x5.toNatClampNeg) fun x10 =>
          zJn (fun (x11 : Int32) =>
              zLet (x5 + 1) fun x13 =>
              fX10_gatesFor_L7 mY mP p1 NN J124_3 n x11 x13
            ) fun J118_12 =>
          fX10_gatesFor_L62 mY mP x5 J118_12 NN x9 x10
        ) fun J49_8 =>
      if (mP 7 x5.toNatClampNeg) = (-1 : Int32) then (
        J49_8 (0 : Int32)
      ) else (
        zB1 (fX10_gatesOf mY (8 : Int32)) fun v22 =>
        J49_8 v22
      )
    )) := rfl
theorem fX10_sumDepth_L12_s (mY : Rc) (mP : Rc) (p1 : Int32) (J155_3 : Rc → Option (Int32 × Rc)) (n : Nat) (x4 : Int32) (x5 : Int32) (mU_6 : Rc) : fX10_sumDepth_L12 mY mP p1 J155_3 (n + 1) x4 x5 mU_6 = (
    zGd (inb p1 96) <|
    if (mP 10 p1.toNatClampNeg) ≤ x5 then (
      J155_3 mU_6
    ) else (
      zGd (inb x5 700) <|
      zLet (mP 11 x5.toNatClampNeg) fun x8 =>
      zJn (fun (_ : Unit) =>
          zJn (fun (t10 : Int32) =>
              zGd (inb x4 700) <|
              zLet (rs mU_6 23 (upd (mU_6 23) x4.toNatClampNeg t10)) fun mU_12 =>
              zLet (x4 + 1) fun x13 =>
              zLet (x5 + 1) fun x14 =>
              fX10_sumDepth_L12 mY mP p1 J155_3 n x13 x14 mU_12
            ) fun J80_11 =>
          if x8 = (9 : Int32) then (
            zGd (inb x5 700) <|
            zGd (inb (mP 12 x5.toNatClampNeg) 8) <|
            J80_11 (mU_6 24 (mP 12 x5.toNatClampNeg).toNatClampNeg)
          ) else (
            J80_11 (0 : Int32)
          )
        ) fun J50_9 =>
      if x8 = (9 : Int32) then (
        J50_9 ()
      ) else (
        if x8 = (10 : Int32) then (
          J50_9 ()
        ) else (
          if x8 = (7 : Int32) then (
            zGd (inb (x4 - (1 : Int32)) 700) <|
            zB1 (fX10_depthOf mY (7 : Int32)) fun v20 =>
            zGd (inb (x4 - (1 : Int32)) 700) <|
            zLet (rs mU_6 23 (upd (mU_6 23) (x4 - (1 : Int32)).toNatClampNeg ((mU_6 23 (x4 - (1 : Int32)).toNatClampNeg) + v20))) fun mU_21 =>
            zLet (x5 + 1) fun x22 =>
            fX10_sumDepth_L12 mY mP p1 J155_3 n x4 x22 mU_21
          ) else (
            zLet (x4 + (-1)) fun x15 =>
            zGd (inb (x15 - (1 : Int32)) 700) <|
            zGd (inb x15 700) <|
            zLet (if (mU_6 23 (x15 - (1 : Int32)).toNatClampNeg) < (mU_6 23 x15.toNatClampNeg) then (mU_6 23 x15.toNatClampNeg) else (mU_6 23 (x15 - (1 : Int32)).toNatClampNeg)) fun x16 =>
            zB1 (fX10_depthOf mY x8) fun v17 =>
            zGd (inb (x15 - (1 : Int32)) 700) <|
            zLet (rs mU_6 23 (upd (mU_6 23) (x15 - (1 : Int32)).toNatClampNeg (x16 + v17))) fun mU_18 =>
            zLet (x5 + 1) fun x19 =>
            fX10_sumDepth_L12 mY mP p1 J155_3 n x15 x19 mU_18
          )
        )
      )
    )) := rfl
theorem fX10_depthFor_L28_s (mY : Rc) (mP : Rc) (p1 : Int32) (NN : Nat) (J137_6 : Int32 → Rc → Option (Int32 × Rc)) (n : Nat) (x7 : Int32) (x8 : Int32) (mU_9 : Rc) : fX10_depthFor_L28 mY mP p1 NN J137_6 (n + 1) x7 x8 mU_9 = (
    zGd (inb p1 12) <|
    if (((8 : Int32) * p1) + (mP 5 p1.toNatClampNeg)) ≤ x8 then (
      J137_6 x7 mU_9
    ) else (
      zB2 (fX10_sumDepth NN mY mU_9 mP x8) fun v11 mU_12 =>
      zGd (inb x8 96) <|
      zLet (mP 8 x8.toNatClampNeg) fun x13 =>
      zGd (inb x8 96) <|
      zJn (fun (x14 : Int32) =>
          zGd (inb x13 8) <|
          zLet (rs mU_12 24 (upd (mU_12 24) x13.toNatClampNeg x14)) fun mU_16 =>
          zLet (if x7 < x14 then x14 else x7) fun x17 =>
          zLet (x8 + 1) fun x18 =>
          fX10_depthFor_L28 mY mP p1 NN J137_6 n x17 x18 mU_16
        ) fun J115_15 =>
      if (mP 7 x8.toNatClampNeg) = (-1 : Int32) then (
        J115_15 v11
      ) else (
        zGd (inb x8 96) <|
        zGd (inb (mP 7 x8.toNatClampNeg) 8) <|
        zGd (inb x13 8) <|
        zLet (if (mU_12 24 (mP 7 x8.toNatClampNeg).toNatClampNeg) < (mU_12 24 x13.toNatClampNeg) then (mU_12 24 x13.toNatClampNeg) else (mU_12 24 (mP 7 x8.toNatClampNeg).toNatClampNeg)) fun x19 =>
        zLet (if v11 < x19 then x19 else v11) fun x20 =>
        zB1 (fX10_depthOf mY (8 : Int32)) fun v21 =>
        zLet (x20 + v21) fun x22 =>
        J115_15 x22
      )
    )) := rfl
theorem fX10_depthFor_L2_s (J21_2 : Rc → Option (Int32 × Rc)) (n : Nat) (x23 : Int32) (mU_24 : Rc) : fX10_depthFor_L2 J21_2 (n + 1) x23 mU_24 = (
    if (8 : Int32) ≤ x23 then (
      J21_2 mU_24
    ) else (
      zGd (inb x23 8) <|
      zLet (rs mU_24 24 (upd (mU_24 24) x23.toNatClampNeg (0 : Int32))) fun mU_26 =>
      zLet (x23 + 1) fun x27 =>
      fX10_depthFor_L2 J21_2 n x27 mU_26
    )) := rfl
theorem fX10_readsOf_L44_s (mP : Rc) (x6 : Int32) (J101_10 : Int32 → Option (Int32)) (n : Nat) (x19 : Int32) (x20 : Int32) : fX10_readsOf_L44 mP x6 J101_10 (n + 1) x19 x20 = (
    zGd (inb x6 96) <|
    if (mP 10 x6.toNatClampNeg) ≤ x20 then (
      J101_10 x19
    ) else (
      zGd (inb x20 700) <|
      if (mP 11 x20.toNatClampNeg) = (9 : Int32) then (
        zGd (inb x20 700) <|
        zLet (x19 ||| ((1 : Int32) <<< ((mP 12 x20.toNatClampNeg) &&& 31))) fun x24 =>
        zLet (x20 + 1) fun x25 =>
        fX10_readsOf_L44 mP x6 J101_10 n x24 x25
      ) else (
        zLet (x19 ||| (0 : Int32)) fun x22 =>
        zLet (x20 + 1) fun x23 =>
        fX10_readsOf_L44 mP x6 J101_10 n x22 x23
      )
    )) := rfl
theorem fX10_readsOf_L10_s (mP : Rc) (p1 : Int32) (NN : Nat) (J193_3 : Int32 → Option (Int32)) (n : Nat) (x4 : Int32) (x5 : Int32) (x6 : Int32) : fX10_readsOf_L10 mP p1 NN J193_3 (n + 1) x4 x5 x6 = (
    zGd (inb p1 12) <|
    if (((8 : Int32) * p1) + (mP 5 p1.toNatClampNeg)) ≤ x6 then (
      J193_3 x4
    ) else (
      zGd (inb x6 96) <|
      zLet (mP 9 x6.toNatClampNeg) fun x8 =>
      zJn (fun (x9 : Int32) =>
          zGd (inb x6 96) <|
          zJn (fun (x11 : Int32) =>
              zLet (x4 ||| (x11 &&& (x5 ^^^ (-1 : Int32)))) fun x13 =>
              zGd (inb x6 96) <|
              if (mP 7 x6.toNatClampNeg) = (-1 : Int32) then (
                zGd (inb x6 96) <|
                zLet (x5 ||| ((1 : Int32) <<< ((mP 8 x6.toNatClampNeg) &&& 31))) fun x16 =>
                zLet (x6 + 1) fun x17 =>
                fX10_readsOf_L10 mP p1 NN J193_3 n x13 x16 x17
              ) else (
                zLet (x5 ||| (0 : Int32)) fun x14 =>
                zLet (x6 + 1) fun x15 =>
                fX10_readsOf_L10 mP p1 NN J193_3 n x13 x14 x15
              )
            ) fun J145_12 =>
          if (mP 7 x6.toNatClampNeg) = (-1 : Int32) then (
            J145_12 x9
          ) else (
            zGd (inb x6 96) <|
            zGd (inb x6 96) <|
            zLet (x9 ||| (((1 : Int32) <<< ((mP 7 x6.toNatClampNeg) &&& 31)) ||| ((1 : Int32) <<< ((mP 8 x6.toNatClampNeg) &&& 31)))) fun x18 =>
            J145_12 x18
          )
        ) fun J101_10 =>
      fX10_readsOf_L44 mP x6 J101_10 NN (0 : Int32) x8
    )) := rfl
theorem fX10_writesOf_L7_s (mP : Rc) (p1 : Int32) (J45_3 : Int32 → Option (Int32)) (n : Nat) (x4 : Int32) (x5 : Int32) : fX10_writesOf_L7 mP p1 J45_3 (n + 1) x4 x5 = (
    zGd (inb p1 12) <|
    if (((8 : Int32) * p1) + (mP 5 p1.toNatClampNeg)) ≤ x5 then (
      J45_3 x4
    ) else (
      zGd (inb x5 96) <|
      zLet (x4 ||| ((1 : Int32) <<< ((mP 8 x5.toNatClampNeg) &&& 31))) fun x7 =>
      zLet (x5 + 1) fun x8 =>
      fX10_writesOf_L7 mP p1 J45_3 n x7 x8
    )) := rfl
theorem fX10_needs_L2_s (mY : Rc) (mP : Rc) (NN : Nat) (J74_3 : Rc → Rc → Option (Rc × Rc)) (n : Nat) (x4 : Int32) (mU_5 : Rc) (mJ_6 : Rc) : fX10_needs_L2 mY mP NN J74_3 (n + 1) x4 mU_5 mJ_6 = (
    if (mP 0 0) ≤ x4 then (
      J74_3 mU_5 mJ_6
    ) else (
      zB1 (fX10_codeTicks NN mY mP x4) fun v8 =>
      zGd (inb x4 12) <|
      zLet (rs mJ_6 25 (upd (mJ_6 25) x4.toNatClampNeg v8)) fun mJ_9 =>
      zB2 (fX10_circuitTicks NN mY mU_5 mP x4) fun v10 mU_11 =>
      zGd (inb x4 12) <|
      zLet (rs mJ_9 26 (upd (mJ_9 26) x4.toNatClampNeg v10)) fun mJ_12 =>
      zB1 (fX10_gatesFor NN mY mP x4) fun v13 =>
      zGd (inb x4 12) <|
      zLet (rs mJ_12 27 (upd (mJ_12 27) x4.toNatClampNeg v13)) fun mJ_14 =>
      zB1 (fX10_readsOf NN mP x4) fun v15 =>
      zGd (inb x4 12) <|
      zLet (rs mJ_14 28 (upd (mJ_14 28) x4.toNatClampNeg v15)) fun mJ_16 =>
      zB1 (fX10_writesOf NN mP x4) fun v17 =>
      zGd (inb x4 12) <|
      zLet (rs mJ_16 29 (upd (mJ_16 29) x4.toNatClampNeg v17)) fun mJ_18 =>
      zLet (x4 + 1) fun x19 =>
      fX10_needs_L2 mY mP NN J74_3 n x19 mU_11 mJ_18
    )) := rfl
theorem fX10_ticksOf_L22_s (mY : Rc) (mJ : Rc) (mP : Rc) (p1 : Int32) (NN : Nat) (J151_5 : Int32 → Rc → Option (Int32 × Rc)) (n : Nat) (x8 : Int32) (x9 : Int32) (mK_10 : Rc) : fX10_ticksOf_L22 mY mJ mP p1 NN J151_5 (n + 1) x8 x9 mK_10 = (
    if (mP 0 0) ≤ x9 then (
      J151_5 x8 mK_10
    ) else (
      zLet ((p1 >>> (x9 &&& 31)) &&& (1 : Int32)) fun x12 =>
      zGd (inb x9 12) <|
      zGd (inb x12 2) <|
      zLet ((mJ 28 x9.toNatClampNeg) &&& ((mK_10 31 x12.toNatClampNeg) ^^^ (-1 : Int32))) fun x13 =>
      zGd (inb x9 13) <|
      zLet (rs mK_10 30 (upd (mK_10 30) x9.toNatClampNeg x13)) fun mK_14 =>
      zGd (inb x12 2) <|
      zGd (inb x12 2) <|
      zLet (rs mK_14 31 (upd (mK_14 31) x12.toNatClampNeg ((mK_14 31 x12.toNatClampNeg) ||| x13))) fun mK_15 =>
      zGd (inb x12 2) <|
      zGd (inb x9 12) <|
      zGd (inb x12 2) <|
      zLet (rs mK_15 31 (upd (mK_15 31) x12.toNatClampNeg ((mK_15 31 x12.toNatClampNeg) ||| (mJ 29 x9.toNatClampNeg)))) fun mK_16 =>
      zGd (inb ((1 : Int32) - x12) 2) <|
      zGd (inb x9 12) <|
      zGd (inb ((1 : Int32) - x12) 2) <|
      zLet (rs mK_16 31 (upd (mK_16 31) ((1 : Int32) - x12).toNatClampNeg ((mK_16 31 ((1 : Int32) - x12).toNatClampNeg) &&& ((mJ 29 x9.toNatClampNeg) ^^^ (-1 : Int32))))) fun mK_17 =>
      zJn (fun (t18 : Int32) =>
          zB1 (fX10_bits NN x13) fun v20 =>
          zLet (x8 + (t18 + ((mY 6 0) * v20))) fun x21 =>
          zLet (x9 + 1) fun x22 =>
          fX10_ticksOf_L22 mY mJ mP p1 NN J151_5 n x21 x22 mK_17
        ) fun J132_19 =>
      if x12 = (1 : Int32) then (
        zGd (inb x9 12) <|
        J132_19 (mJ 26 x9.toNatClampNeg)
      ) else (
        zGd (inb x9 12) <|
        J132_19 (mJ 25 x9.toNatClampNeg)
      )
    )) := rfl
theorem fX10_gatesOfCut_L4_s (mJ : Rc) (mP : Rc) (p1 : Int32) (J43_2 : Int32 → Option (Int32)) (n : Nat) (x3 : Int32) (x4 : Int32) : fX10_gatesOfCut_L4 mJ mP p1 J43_2 (n + 1) x3 x4 = (
    if (mP 0 0) ≤ x4 then (
      J43_2 x3
    ) else (
      if ((p1 >>> (x4 &&& 31)) &&& (1 : Int32)) = (1 : Int32) then (
        zGd (inb x4 12) <|
        zLet (x3 + (mJ 27 x4.toNatClampNeg)) fun x8 =>
        zLet (x4 + 1) fun x9 =>
        fX10_gatesOfCut_L4 mJ mP p1 J43_2 n x8 x9
      ) else (
        zLet (x3 + (0 : Int32)) fun x6 =>
        zLet (x4 + 1) fun x7 =>
        fX10_gatesOfCut_L4 mJ mP p1 J43_2 n x6 x7
      )
    )) := rfl
theorem fX10_moved_L38_s (mP : Rc) (NN : Nat) (mK_6 : Rc) (J69_8 : Int32 → Option (Int32 × Rc × Rc × Rc × Rc)) (n : Nat) (x11 : Int32) (x12 : Int32) : fX10_moved_L38 mP NN mK_6 J69_8 (n + 1) x11 x12 = (
    if (mP 0 0) < x12 then (
      J69_8 x11
    ) else (
      zGd (inb x12 13) <|
      zB1 (fX10_bits NN (mK_6 30 x12.toNatClampNeg)) fun v14 =>
      zLet (x11 + v14) fun x15 =>
      zLet (x12 + 1) fun x16 =>
      fX10_moved_L38 mP NN mK_6 J69_8 n x15 x16
    )) := rfl
theorem fX10_room_L38_s (mP : Rc) (NN : Nat) (mK_6 : Rc) (J71_8 : Int32 → Option (Int32 × Rc × Rc × Rc × Rc)) (n : Nat) (x11 : Int32) (x12 : Int32) : fX10_room_L38 mP NN mK_6 J71_8 (n + 1) x11 x12 = (
    if (mP 0 0) < x12 then (
      J71_8 x11
    ) else (
      zGd (inb x12 13) <|
      zB1 (fX10_bits NN (mK_6 30 x12.toNatClampNeg)) fun v14 =>
      zLet (if x11 < v14 then v14 else x11) fun x15 =>
      zLet (x12 + 1) fun x16 =>
      fX10_room_L38 mP NN mK_6 J71_8 n x15 x16
    )) := rfl
theorem fX10_quickest_L53_s (mY : Rc) (mP : Rc) (p1 : Int32) (NN : Nat) (mJ_4 : Rc) (J130_9 : Int32 → Rc → Option (Int32 × Rc × Rc × Rc × Rc)) (n : Nat) (x12 : Int32) (x13 : Int32) (x14 : Int32) (x15 : Int32) (mK_16 : Rc) : fX10_quickest_L53 mY mP p1 NN mJ_4 J130_9 (n + 1) x12 x13 x14 x15 mK_16 = (
    if ((1 : Int32) <<< ((mP 0 0) &&& 31)) ≤ x15 then (
      J130_9 x12 mK_16
    ) else (
      zB1 (fX10_gatesOfCut NN mJ_4 mP x15) fun v18 =>
      if v18 ≤ p1 then (
        zB2 (fX10_ticksOf NN mY mJ_4 mK_16 mP x15) fun v19 mK_20 =>
        if x13 < v19 then (
          zLet (x15 + 1) fun x21 =>
          fX10_quickest_L53 mY mP p1 NN mJ_4 J130_9 n x12 x13 x14 x21 mK_20
        ) else (
          zJn (fun (_ : Unit) =>
              zLet (x15 + 1) fun x23 =>
              fX10_quickest_L53 mY mP p1 NN mJ_4 J130_9 n x15 v19 v18 x23 mK_20
            ) fun J114_22 =>
          if v19 = x13 then (
            if v18 < x14 then (
              J114_22 ()
            ) else (
              zLet (x15 + 1) fun x24 =>
              fX10_quickest_L53 mY mP p1 NN mJ_4 J130_9 n x12 x13 x14 x24 mK_20
            )
          ) else (
            J114_22 ()
          )
        )
      ) else (
        zLet (x15 + 1) fun x25 =>
        fX10_quickest_L53 mY mP p1 NN mJ_4 J130_9 n x12 x13 x14 x25 mK_16
      )
    )) := rfl
theorem fX10_fewest_L37_s (mY : Rc) (mP : Rc) (p1 : Int32) (NN : Nat) (mJ_3 : Rc) (J93_6 : Int32 → Rc → Option (Int32 × Rc × Rc × Rc × Rc)) (n : Nat) (x9 : Int32) (x10 : Int32) (mK_11 : Rc) : fX10_fewest_L37 mY mP p1 NN mJ_3 J93_6 (n + 1) x9 x10 mK_11 = (
    if ((1 : Int32) <<< ((mP 0 0) &&& 31)) ≤ x10 then (
      J93_6 x9 mK_11
    ) else (
      zB2 (fX10_ticksOf NN mY mJ_3 mK_11 mP x10) fun v13 mK_14 =>
      if v13 ≤ p1 then (
        zB1 (fX10_gatesOfCut NN mJ_3 mP x10) fun v15 =>
        if x9 = (-2 : Int32) then (
          zLet (x10 + 1) fun x18 =>
          fX10_fewest_L37 mY mP p1 NN mJ_3 J93_6 n v15 x18 mK_14
        ) else (
          zLet (if v15 < x9 then v15 else x9) fun x16 =>
          zLet (x10 + 1) fun x17 =>
          fX10_fewest_L37 mY mP p1 NN mJ_3 J93_6 n x16 x17 mK_14
        )
      ) else (
        zLet (x10 + 1) fun x19 =>
        fX10_fewest_L37 mY mP p1 NN mJ_3 J93_6 n x9 x19 mK_14
      )
    )) := rfl
theorem fX10_edges_L88_s (x4 : Int32) (mA_6 : Rc) (x13 : Int32) (J175_18 : Int32 → Option (Int32 × Rc × Rc × Rc × Rc × Rc × Rc)) (n : Nat) (x24 : Int32) (x25 : Int32) : fX10_edges_L88 x4 mA_6 x13 J175_18 (n + 1) x24 x25 = (
    if x4 ≤ x25 then (
      J175_18 x24
    ) else (
      zGd (inb x25 4096) <|
      if (mA_6 33 x25.toNatClampNeg) < x13 then (
        if x24 = (-1 : Int32) then (
          zLet (x25 + 1) fun x27 =>
          fX10_edges_L88 x4 mA_6 x13 J175_18 n x25 x27
        ) else (
          zGd (inb x25 4096) <|
          zGd (inb x24 4096) <|
          if (mA_6 34 x25.toNatClampNeg) < (mA_6 34 x24.toNatClampNeg) then (
            zLet (x25 + 1) fun x28 =>
            fX10_edges_L88 x4 mA_6 x13 J175_18 n x25 x28
          ) else (
            zGd (inb x25 4096) <|
            zGd (inb x24 4096) <|
            if (mA_6 34 x25.toNatClampNeg) = (mA_6 34 x24.toNatClampNeg) then (
              zGd (inb x25 4096) <|
              zGd (inb x24 4096) <|
              if (mA_6 33 x24.toNatClampNeg) ≤ (mA_6 33 x25.toNatClampNeg) then (
                zLet (x25 + 1) fun x30 =>
                fX10_edges_L88 x4 mA_6 x13 J175_18 n x24 x30
              ) else (
                zLet (x25 + 1) fun x31 =>
                fX10_edges_L88 x4 mA_6 x13 J175_18 n x25 x31
              )
            ) else (
              zLet (x25 + 1) fun x29 =>
              fX10_edges_L88 x4 mA_6 x13 J175_18 n x24 x29
            )
          )
        )
      ) else (
        zLet (x25 + 1) fun x32 =>
        fX10_edges_L88 x4 mA_6 x13 J175_18 n x24 x32
      )
    )) := rfl
theorem fX10_edges_L78_s (NN : Nat) (x4 : Int32) (mA_6 : Rc) (J226_10 : Rc → Option (Int32 × Rc × Rc × Rc × Rc × Rc × Rc)) (n : Nat) (x13 : Int32) (x14 : Int32) (mG_15 : Rc) : fX10_edges_L78 NN x4 mA_6 J226_10 (n + 1) x13 x14 mG_15 = (
    if x14 = 0 then (
      J226_10 mG_15
    ) else (
      zJn (fun (x17 : Int32) =>
          zJn (fun (t19 : Int32) =>
              if t19 = 0 then (
                fX10_edges_L78 NN x4 mA_6 J226_10 n x13 t19 mG_15
              ) else (
                zGd (inb (mG_15 35 0) 4096) <|
                zLet (rs mG_15 32 (upd (mG_15 32) (mG_15 35 0).toNatClampNeg x17)) fun mG_21 =>
                zLet (rs mG_21 35 (fun _ => ((mG_21 35 0) + (1 : Int32)))) fun mG_22 =>
                zGd (inb x17 4096) <|
                zLet (mA_6 33 x17.toNatClampNeg) fun x23 =>
                fX10_edges_L78 NN x4 mA_6 J226_10 n x23 t19 mG_22
              )
            ) fun J186_20 =>
          if x17 = (-1 : Int32) then (
            J186_20 (0 : Int32)
          ) else (
            J186_20 (1 : Int32)
          )
        ) fun J175_18 =>
      fX10_edges_L88 x4 mA_6 x13 J175_18 NN (-1 : Int32) (0 : Int32)
    )) := rfl
theorem fX10_edges_L34_s (mY : Rc) (mP : Rc) (NN : Nat) (mJ_3 : Rc) (x4 : Int32) (J67_7 : Rc → Rc → Option (Int32 × Rc × Rc × Rc × Rc × Rc × Rc)) (n : Nat) (x33 : Int32) (mK_34 : Rc) (mA_35 : Rc) : fX10_edges_L34 mY mP NN mJ_3 x4 J67_7 (n + 1) x33 mK_34 mA_35 = (
    if x4 ≤ x33 then (
      J67_7 mK_34 mA_35
    ) else (
      zB2 (fX10_ticksOf NN mY mJ_3 mK_34 mP x33) fun v37 mK_38 =>
      zGd (inb x33 4096) <|
      zLet (rs mA_35 33 (upd (mA_35 33) x33.toNatClampNeg v37)) fun mA_39 =>
      zB1 (fX10_gatesOfCut NN mJ_3 mP x33) fun v40 =>
      zGd (inb x33 4096) <|
      zLet (rs mA_39 34 (upd (mA_39 34) x33.toNatClampNeg v40)) fun mA_41 =>
      zLet (x33 + 1) fun x42 =>
      fX10_edges_L34 mY mP NN mJ_3 x4 J67_7 n x42 mK_38 mA_41
    )) := rfl
theorem fX10_worked_L13_s (mY : Rc) (mP : Rc) (mR : Ar) (p1 : Int32) (J267_3 : Rc → Option (Int32 × Rc)) (n : Nat) (x4 : Int32) (x5 : Int32) (mU_6 : Rc) : fX10_worked_L13 mY mP mR p1 J267_3 (n + 1) x4 x5 mU_6 = (
    zGd (inb p1 96) <|
    if (mP 10 p1.toNatClampNeg) ≤ x5 then (
      J267_3 mU_6
    ) else (
      zGd (inb x5 700) <|
      zLet (mP 11 x5.toNatClampNeg) fun x8 =>
      zJn (fun (_ : Unit) =>
          zJn (fun (t10 : Int32) =>
              zGd (inb x4 700) <|
              zLet (rs mU_6 23 (upd (mU_6 23) x4.toNatClampNeg t10)) fun mU_12 =>
              zLet (x4 + 1) fun x13 =>
              zLet (x5 + 1) fun x14 =>
              fX10_worked_L13 mY mP mR p1 J267_3 n x13 x14 mU_12
            ) fun J94_11 =>
          if x8 = (9 : Int32) then (
            zGd (inb x5 700) <|
            zGd (inb (mP 12 x5.toNatClampNeg) 8) <|
            J94_11 (mR (mP 12 x5.toNatClampNeg).toNatClampNeg)
          ) else (
            zGd (inb x5 700) <|
            zB1 (fX10_low mY (mP 12 x5.toNatClampNeg)) fun v15 =>
            J94_11 v15
          )
        ) fun J53_9 =>
      if x8 = (9 : Int32) then (
        J53_9 ()
      ) else (
        if x8 = (10 : Int32) then (
          J53_9 ()
        ) else (
          if x8 = (7 : Int32) then (
            zGd (inb (x4 - (1 : Int32)) 700) <|
            zB1 (fX10_low mY ((mU_6 23 (x4 - (1 : Int32)).toNatClampNeg) ^^^ (-1 : Int32))) fun v24 =>
            zGd (inb (x4 - (1 : Int32)) 700) <|
            zLet (rs mU_6 23 (upd (mU_6 23) (x4 - (1 : Int32)).toNatClampNeg v24)) fun mU_25 =>
            zLet (x5 + 1) fun x26 =>
            fX10_worked_L13 mY mP mR p1 J267_3 n x4 x26 mU_25
          ) else (
            zLet (x4 + (-1)) fun x16 =>
            zGd (inb (x16 - (1 : Int32)) 700) <|
            zLet (mU_6 23 (x16 - (1 : Int32)).toNatClampNeg) fun x17 =>
            zGd (inb x16 700) <|
            zLet (mU_6 23 x16.toNatClampNeg) fun x18 =>
            zJn (fun (t19 : Int32) =>
                zB1 (fX10_low mY t19) fun v21 =>
                zGd (inb (x16 - (1 : Int32)) 700) <|
                zLet (rs mU_6 23 (upd (mU_6 23) (x16 - (1 : Int32)).toNatClampNeg v21)) fun mU_22 =>
                zLet (x5 + 1) fun x23 =>
                fX10_worked_L13 mY mP mR p1 J267_3 n x16 x23 mU_22
              ) fun J257_20 =>
            if x8 = 0 then (
              J257_20 (x17 + x18)
            ) else (
              if x8 = (1 : Int32) then (
                J257_20 (x17 - x18)
              ) else (
                if x8 = (2 : Int32) then (
                  J257_20 (x17 * x18)
                ) else (
                  if x8 = (3 : Int32) then (
                    J257_20 (x17 &&& x18)
                  ) else (
                    if x8 = (4 : Int32) then (
                      J257_20 (x17 ||| x18)
                    ) else (
                      if x8 = (5 : Int32) then (
                        J257_20 (x17 ^^^ x18)
                      ) else (
                        if x18 ≤ x17 then (
                          J257_20 (0 : Int32)
                        ) else (
                          J257_20 (1 : Int32)
                        )
                      )
                    )
                  )
                )
              )
            )
          )
        )
      )
    )) := rfl
theorem fX10_does_L5_s (mY : Rc) (mP : Rc) (p1 : Int32) (NN : Nat) (J76_4 : Rc → Ar → Option (Rc × Ar)) (n : Nat) (x5 : Int32) (mU_6 : Rc) (mR_7 : Ar) : fX10_does_L5 mY mP p1 NN J76_4 (n + 1) x5 mU_6 mR_7 = (
    zGd (inb p1 12) <|
    if (((8 : Int32) * p1) + (mP 5 p1.toNatClampNeg)) ≤ x5 then (
      J76_4 mU_6 mR_7
    ) else (
      zGd (inb x5 96) <|
      zJn (fun (_ : Unit) =>
          zGd (inb x5 96) <|
          zB2 (fX10_worked NN mY mU_6 mP mR_7 x5) fun v10 mU_11 =>
          zGd (inb (mP 8 x5.toNatClampNeg) 8) <|
          zLet (upd mR_7 (mP 8 x5.toNatClampNeg).toNatClampNeg v10) fun mR_12 =>
          zLet (x5 + 1) fun x13 =>
          fX10_does_L5 mY mP p1 NN J76_4 n x13 mU_11 mR_12
        ) fun J53_9 =>
      if (mP 7 x5.toNatClampNeg) = (-1 : Int32) then (
        J53_9 ()
      ) else (
        zGd (inb x5 96) <|
        zGd (inb (mP 7 x5.toNatClampNeg) 8) <|
        if (mR_7 (mP 7 x5.toNatClampNeg).toNatClampNeg) = 0 then (
          zLet (x5 + 1) fun x14 =>
          fX10_does_L5 mY mP p1 NN J76_4 n x14 mU_6 mR_7
        ) else (
          J53_9 ()
        )
      )
    )) := rfl
theorem fX10_run_L42_s (mY : Rc) (mP : Rc) (NN : Nat) (x12 : Int32) (J70_18 : Rc → Ar → Option (Int32 × Rc × Rc × Rc × Rc × Ar)) (n : Nat) (x20 : Int32) (mU_21 : Rc) (mN_22 : Ar) : fX10_run_L42 mY mP NN x12 J70_18 (n + 1) x20 mU_21 mN_22 = (
    zGd (inb x12 12) <|
    if (mP 4 x12.toNatClampNeg) ≤ x20 then (
      J70_18 mU_21 mN_22
    ) else (
      zB2 (fX10_does NN mY mU_21 mP mN_22 x12) fun mU_24 mN_25 =>
      zLet (x20 + 1) fun x26 =>
      fX10_run_L42 mY mP NN x12 J70_18 n x26 mU_24 mN_25
    )) := rfl
theorem fX10_run_L29_s (mY : Rc) (mP : Rc) (NN : Nat) (J76_7 : Rc → Ar → Option (Int32 × Rc × Rc × Rc × Rc × Ar)) (n : Nat) (x12 : Int32) (mU_13 : Rc) (mN_14 : Ar) : fX10_run_L29 mY mP NN J76_7 (n + 1) x12 mU_13 mN_14 = (
    if (mP 0 0) ≤ x12 then (
      J76_7 mU_13 mN_14
    ) else (
      zJn (fun (mU_16 : Rc) (mN_17 : Ar) =>
          zLet (x12 + 1) fun x19 =>
          fX10_run_L29 mY mP NN J76_7 n x19 mU_16 mN_17
        ) fun J70_18 =>
      fX10_run_L42 mY mP NN x12 J70_18 NN (0 : Int32) mU_13 mN_14
    )) := rfl
theorem fX10_tries_L2_s (mN : Ar) (J26_2 : Ar → Option (Rc × Ar)) (n : Nat) (x5 : Int32) (mO_6 : Ar) : fX10_tries_L2 mN J26_2 (n + 1) x5 mO_6 = (
    if (8 : Int32) ≤ x5 then (
      J26_2 mO_6
    ) else (
      zGd (inb x5 8) <|
      zGd (inb x5 8) <|
      zLet (upd mO_6 x5.toNatClampNeg (mN x5.toNatClampNeg)) fun mO_8 =>
      zLet (x5 + 1) fun x9 =>
      fX10_tries_L2 mN J26_2 n x9 mO_8
    )) := rfl
theorem fX10_still_L32_s (mN : Ar) (mO_4 : Ar) (J69_6 : Int32 → Option (Int32 × Rc × Rc × Ar)) (n : Nat) (x11 : Int32) (x12 : Int32) : fX10_still_L32 mN mO_4 J69_6 (n + 1) x11 x12 = (
    if (8 : Int32) ≤ x12 then (
      J69_6 x11
    ) else (
      if x11 = 0 then (
        zLet (x12 + 1) fun x14 =>
        fX10_still_L32 mN mO_4 J69_6 n (0 : Int32) x14
      ) else (
        zGd (inb x12 8) <|
        zGd (inb x12 8) <|
        if (mO_4 x12.toNatClampNeg) = (mN x12.toNatClampNeg) then (
          zLet (x12 + 1) fun x16 =>
          fX10_still_L32 mN mO_4 J69_6 n (1 : Int32) x16
        ) else (
          zLet (x12 + 1) fun x15 =>
          fX10_still_L32 mN mO_4 J69_6 n (0 : Int32) x15
        )
      )
    )) := rfl
theorem fX10_readSum_L24_s (part : Rc → Rc → Rc → Rc → Option (Int32 × Rc × Rc × Rc)) (mB : Rc) (NN : Nat) (t5 : Int32) (J84_10 : Rc → Rc → Rc → Option (Int32 × Rc × Rc × Rc)) (n : Nat) (mL_11 : Rc) (mS_12 : Rc) (mW_13 : Rc) : fX10_readSum_L24 part mB NN t5 J84_10 (n + 1) mL_11 mS_12 mW_13 = (
    if (mL_11 15 0) = (4 : Int32) then (
      zB1 (fX10_signOf (mL_11 17 0)) fun v15 =>
      if v15 = (-1 : Int32) then (
        J84_10 mL_11 mS_12 mW_13
      ) else (
        zB1 (fX10_signOf (mL_11 17 0)) fun v16 =>
        if v16 = t5 then (
          zB3 (fX10_op mL_11 mS_12 mW_13) fun fl17 mS_18 mW_19 =>
          if fl17 = 1 then (
            some ((1 : Int32), mL_11, mS_18, mW_19)
          ) else (
            zB1 (fX10_next NN mB mL_11) fun mL_20 =>
            zB4 (part mB mL_20 mS_18 mW_19) fun fl21 mL_22 mS_23 mW_24 =>
            if fl21 = 1 then (
              some ((1 : Int32), mL_22, mS_23, mW_24)
            ) else (
              zB1 (fX8_put mS_23 t5 (0 : Int32)) fun mS_25 =>
              fX10_readSum_L24 part mB NN t5 J84_10 n mL_22 mS_25 mW_24
            )
          )
        ) else (
          zB1 (fX10_stop mL_11 mW_13 (1 : Int32)) fun mW_26 =>
          some ((1 : Int32), mL_11, mS_12, mW_26)
        )
      )
    ) else (
      J84_10 mL_11 mS_12 mW_13
    )) := rfl
theorem fX10_readPart_L148_s (x1 : Int32) (J169_12 : Rc → Option (Int32 × Rc × Rc × Rc)) (n : Nat) (x13 : Int32) (mS_14 : Rc) : fX10_readPart_L148 x1 J169_12 (n + 1) x13 mS_14 = (
    if x1 ≤ x13 then (
      J169_12 mS_14
    ) else (
      zB1 (fX8_put mS_14 (7 : Int32) (0 : Int32)) fun mS_16 =>
      zLet (x13 + 1) fun x17 =>
      fX10_readPart_L148 x1 J169_12 n x17 mS_16
    )) := rfl
theorem fX10_readPart_L2_s (mB : Rc) (NN : Nat) (J25_5 : Int32 → Rc → Rc → Rc → Option (Int32 × Rc × Rc × Rc)) (n : Nat) (x37 : Int32) (mL_38 : Rc) (mS_39 : Rc) (mW_40 : Rc) : fX10_readPart_L2 mB NN J25_5 (n + 1) x37 mL_38 mS_39 mW_40 = (
    zB1 (fX10_is mL_38 (126 : Int32)) fun v42 =>
    if v42 = 0 then (
      J25_5 x37 mL_38 mS_39 mW_40
    ) else (
      zB3 (fX10_op mL_38 mS_39 mW_40) fun fl43 mS_44 mW_45 =>
      if fl43 = 1 then (
        some ((1 : Int32), mL_38, mS_44, mW_45)
      ) else (
        zLet (x37 + 1) fun x46 =>
        zB1 (fX10_next NN mB mL_38) fun mL_47 =>
        fX10_readPart_L2 mB NN J25_5 n x46 mL_47 mS_44 mW_45
      )
    )) := rfl
theorem fX10_readBlock_L199_s (mB : Rc) (NN : Nat) (x2 : Int32) (J226_17 : Rc → Rc → Rc → Option (Int32 × Rc × Rc × Rc)) (n : Nat) (x22 : Int32) (mL_23 : Rc) (mS_24 : Rc) (mW_25 : Rc) : fX10_readBlock_L199 mB NN x2 J226_17 (n + 1) x22 mL_23 mS_24 mW_25 = (
    if x22 = 0 then (
      J226_17 mL_23 mS_24 mW_25
    ) else (
      zB4 (fX10_readLine NN mB mL_23 mS_24 mW_25 x2) fun fl27 mL_28 mS_29 mW_30 =>
      if fl27 = 1 then (
        some ((1 : Int32), mL_28, mS_29, mW_30)
      ) else (
        zB1 (fX10_is mL_28 (59 : Int32)) fun v31 =>
        if v31 = 0 then (
          fX10_readBlock_L199 mB NN x2 J226_17 n v31 mL_28 mS_29 mW_30
        ) else (
          zB1 (fX10_next NN mB mL_28) fun mL_32 =>
          fX10_readBlock_L199 mB NN x2 J226_17 n v31 mL_32 mS_29 mW_30
        )
      )
    )) := rfl
theorem fX10_readBlock_L88_s (mB : Rc) (mL : Rc) (x2 : Int32) (J127_5 : Rc → Option (Int32 × Rc × Rc × Rc)) (n : Nat) (x35 : Int32) (mS_36 : Rc) : fX10_readBlock_L88 mB mL x2 J127_5 (n + 1) x35 mS_36 = (
    if (mL 19 0) ≤ x35 then (
      J127_5 mS_36
    ) else (
      zGd (inb ((mL 16 0) + x35) 600) <|
      zGd (inb (((8 : Int32) * x2) + x35) 96) <|
      zLet (rs mS_36 6 (upd (mS_36 6) (((8 : Int32) * x2) + x35).toNatClampNeg (vp_nar .byte (mB 11 ((mL 16 0) + x35).toNatClampNeg)))) fun mS_38 =>
      zLet (x35 + 1) fun x39 =>
      fX10_readBlock_L88 mB mL x2 J127_5 n x39 mS_38
    )) := rfl
theorem fX10_readBlock_L16_s (mB : Rc) (mL : Rc) (mS : Rc) (mW : Rc) (NN : Nat) (J47_1 : Unit → Option (Int32 × Rc × Rc × Rc)) (n : Nat) (x41 : Int32) : fX10_readBlock_L16 mB mL mS mW NN J47_1 (n + 1) x41 = (
    if (mS 0 0) ≤ x41 then (
      J47_1 ()
    ) else (
      zB1 (fX10_isName NN mB mL mS x41) fun v43 =>
      if v43 = 0 then (
        zLet (x41 + 1) fun x44 =>
        fX10_readBlock_L16 mB mL mS mW NN J47_1 n x44
      ) else (
        zB1 (fX10_stop mL mW (3 : Int32)) fun mW_45 =>
        some ((1 : Int32), mL, mS, mW_45)
      )
    )) := rfl
theorem fX10_reads_L35_s (mB : Rc) (NN : Nat) (J60_9 : Rc → Rc → Rc → Option (Int32 × Rc × Rc × Rc)) (n : Nat) (x10 : Int32) (mL_11 : Rc) (mS_12 : Rc) (mW_13 : Rc) : fX10_reads_L35 mB NN J60_9 (n + 1) x10 mL_11 mS_12 mW_13 = (
    if x10 = 0 then (
      J60_9 mL_11 mS_12 mW_13
    ) else (
      zB4 (fX10_readBlock NN mB mL_11 mS_12 mW_13) fun fl15 mL_16 mS_17 mW_18 =>
      if fl15 = 1 then (
        some ((1 : Int32), mL_16, mS_17, mW_18)
      ) else (
        if (mL_16 15 0) = (1 : Int32) then (
          fX10_reads_L35 mB NN J60_9 n (0 : Int32) mL_16 mS_17 mW_18
        ) else (
          fX10_reads_L35 mB NN J60_9 n (1 : Int32) mL_16 mS_17 mW_18
        )
      )
    )) := rfl
