def fX10_readLine (NN : Nat) (mB : Rc) (mL : Rc) (mS : Rc) (mW : Rc) (p1 : Int32) : Option (Int32 × Rc × Rc × Rc) :=
  if (mL 15 0) = (2 : Int32) then (
    zB1 (fX10_isIf mB mL) fun v1 =>
    zJn (fun (mW_2 : Rc) =>
        zGd (inb p1 12) <|
        if (mS 5 p1.toNatClampNeg) = (8 : Int32) then (
          zB1 (fX10_stop mL mW_2 (5 : Int32)) fun mW_35 =>
          some ((1 : Int32), mL, mS, mW_35)
        ) else (
          zGd (inb p1 12) <|
          zLet (((8 : Int32) * p1) + (mS 5 p1.toNatClampNeg)) fun x4 =>
          zGd (inb x4 96) <|
          zLet (rs mS 7 (upd (mS 7) x4.toNatClampNeg (-1 : Int32))) fun mS_5 =>
          zB1 (fX10_isIf mB mL) fun v6 =>
          zJn (fun (mL_7 : Rc) (mS_8 : Rc) (mW_9 : Rc) =>
              zB3 (fX10_nameHere mB mL_7 mW_9) fun fl11 v12 mW_13 =>
              if fl11 = 1 then (
                some ((1 : Int32), mL_7, mS_8, mW_13)
              ) else (
                zGd (inb x4 96) <|
                zLet (rs mS_8 8 (upd (mS_8 8) x4.toNatClampNeg v12)) fun mS_14 =>
                zB1 (fX10_next NN mB mL_7) fun mL_15 =>
                zB3 (fX10_need NN mB mL_15 mW_13 (61 : Int32)) fun fl16 mL_17 mW_18 =>
                if fl16 = 1 then (
                  some ((1 : Int32), mL_17, mS_14, mW_18)
                ) else (
                  zGd (inb x4 96) <|
                  zLet (rs mS_14 9 (upd (mS_14 9) x4.toNatClampNeg (mS_14 1 0))) fun mS_19 =>
                  zB4 (fX10_readSum NN mB mL_17 mS_19 mW_18) fun fl20 mL_21 mS_22 mW_23 =>
                  if fl20 = 1 then (
                    some ((1 : Int32), mL_21, mS_22, mW_23)
                  ) else (
                    zGd (inb x4 96) <|
                    zLet (rs mS_22 10 (upd (mS_22 10) x4.toNatClampNeg (mS_22 1 0))) fun mS_24 =>
                    zGd (inb p1 12) <|
                    zGd (inb p1 12) <|
                    zLet (rs mS_24 5 (upd (mS_24 5) p1.toNatClampNeg ((mS_24 5 p1.toNatClampNeg) + (1 : Int32)))) fun mS_25 =>
                    some ((0 : Int32), mL_21, mS_25, mW_23)
                  )
                )
              )
            ) fun J103_10 =>
          if v6 = 0 then (
            J103_10 mL mS_5 mW_2
          ) else (
            zB3 (fX10_op mL mS_5 mW_2) fun fl26 mS_27 mW_28 =>
            if fl26 = 1 then (
              some ((1 : Int32), mL, mS_27, mW_28)
            ) else (
              zB1 (fX10_next NN mB mL) fun mL_29 =>
              zB3 (fX10_nameHere mB mL_29 mW_28) fun fl30 v31 mW_32 =>
              if fl30 = 1 then (
                some ((1 : Int32), mL_29, mS_27, mW_32)
              ) else (
                zGd (inb x4 96) <|
                zLet (rs mS_27 7 (upd (mS_27 7) x4.toNatClampNeg v31)) fun mS_33 =>
                zB1 (fX10_next NN mB mL_29) fun mL_34 =>
                J103_10 mL_34 mS_33 mW_32
              )
            )
          )
        )
      ) fun J26_3 =>
    if v1 = 0 then (
      zB3 (fX10_nameHere mB mL mW) fun fl36 v37 mW_38 =>
      if fl36 = 1 then (
        some ((1 : Int32), mL, mS, mW_38)
      ) else (
        J26_3 mW_38
      )
    ) else (
      J26_3 mW
    )
  ) else (
    zB1 (fX10_stop mL mW (1 : Int32)) fun mW_39 =>
    some ((1 : Int32), mL, mS, mW_39)
  )
abbrev rX10_readLine : Room := { frames := 30, cells := 0, slots := 0, locals := 729 }
set_option maxHeartbeats 4000000 in
set_option maxRecDepth 100000 in
theorem mtX10_readLine (l : Launch) (dC : Nat → ClassId) (dI : Nat → Nat → Nat) (cI cB : ClassId) (bV bP bS bW bN bO : Nat → Nat) (sz : Nat) (NN : Nat) (mZ : Rc) (mY : Rc) (mB : Rc) (mL : Rc) (mU : Rc) (mJ : Rc) (mK : Rc) (mG : Rc) (mA : Rc) (mS : Rc) (mW : Rc) (p1 : Int32) {of : Int32} {mL' : Rc} {mS' : Rc} {mW' : Rc} (hf : fX10_readLine NN mB mL mS mW p1 = some (of, mL', mS', mW')) : zTv l yX10_readLine (Cond.code yX10_readLine cX10_readLine 3 none :: lw_g) rX10_readLine (dC, dI) [(cI, .int), (cB, .byte)] [.ref (bV 0), .int p1] sz (kX10 cI cB bV (bP 0) (bS 0) (bW 0) (bN 0) (bO 0) mZ mY mB mL mU mJ mK mG mA ++ kX8 cI cB bS mS ++ kX9 cI cB bW mW) (bW 0) of (kX10 cI cB bV (bP 0) (bS 0) (bW 0) (bN 0) (bO 0) mZ mY mB mL' mU mJ mK mG mA ++ kX8 cI cB bS mS' ++ kX9 cI cB bW mW') := by
  refine zStT (cc := cX10_readLine) (maxL := 3) (ret := none) (own := RX10) (fun A => zTQv (dC, dI) [(cI, .int), (cB, .byte)] A of (kX10 cI cB bV (bP 0) (bS 0) (bW 0) (bN 0) (bO 0) mZ mY mB mL' mU mJ mK mG mA ++ kX8 cI cB bS mS' ++ kX9 cI cB bW mW')) (fun A => zXq (dC, dI) [(cI, .int), (cB, .byte)] A (bW 0) of (kX10 cI cB bV (bP 0) (bS 0) (bW 0) (bN 0) (bO 0) mZ mY mB mL' mU mJ mK mG mA ++ kX8 cI cB bS mS' ++ kX9 cI cB bW mW')) (by decide) rfl rfl (Nat.le_of_ble_eq_true rfl) ?_
  intro p e s m below meth c ls A H locs C ht hK hA hP hD hS hl
  generalize hQ : vy_MQ below (zTQv (dC, dI) [(cI, .int), (cB, .byte)] A of (kX10 cI cB bV (bP 0) (bS 0) (bW 0) (bN 0) (bO 0) mZ mY mB mL' mU mJ mK mG mA ++ kX8 cI cB bS mS' ++ kX9 cI cB bW mW')) (zXq (dC, dI) [(cI, .int), (cB, .byte)] A (bW 0) of (kX10 cI cB bV (bP 0) (bS 0) (bW 0) (bN 0) (bO 0) mZ mY mB mL' mU mJ mK mG mA ++ kX8 cI cB bS mS' ++ kX9 cI cB bW mW')) _ s 0 0 A = QQ
  generalize ([.ref (bV 0), .int p1] : List Value).toArray = args at C hQ ⊢
  have hl : lv_has ls 3 [(0, .ref (bV 0)), (1, .int p1)] := hl
  unfold fX10_readLine at hf
  refine lv_aload_n C.1.1 C.1.2.1 dX10_readLine_0 rfl (lv_at hl 0 rfl) ?_
  refine zGet (.int (mL 15 0)) C.1 wuX10 hK hP 0 rfl rfl 15 (by decide) wfX10_112 rfl rfl dX10_readLine_1 ?_
  refine lv_iconst (v := 2) C.1.1 C.1.2.1 dX10_readLine_4 (by decide) ?_
  refine lv_icmp_eq (tgt := 14) C.1.1 C.1.2.1 dX10_readLine_5 (by decide) (fun hc => ?_) (fun hc => ?_)
  · replace hf := zIf_t hf hc
    refine lv_aload_n C.1.1 C.1.2.1 dX10_readLine_14 rfl (lv_at hl 0 rfl) ?_
    obtain ⟨v1, hg, hf⟩ := zB1_el hf
    refine zCVi (As := []) (rest := []) (wr := (kX8 cI cB bS mS ++ kX9 cI cB bW mW)) (wn := (kX10 cI cB bV (bP 0) (bS 0) (bW 0) (bN 0) (bO 0) mZ mY mB mL mU mJ mK mG mA ++ kX8 cI cB bS mS ++ kX9 cI cB bW mW)) C.1 hK hA hP hD hS [0, 1, 2, 3, 4, 5, 6, 7, 8, 9, 10, 11, 12, 13] [14, 15, 16, 17, 18, 19, 20, 21, 22, 23, 24, 25] [12, 13, 14, 15, 16, 17, 18, 19, 20, 21, 22, 23, 24, 25, 0, 1, 2, 3, 4, 5, 6, 7, 8, 9, 10, 11] 0 (mtX10_isIf l dC dI cI cB bV bP bS bW bN bO H.size mZ mY mB mL mU mJ mK mG mA hg) (zCwV 0 C.1 wlX10_184 wiX10_isIf ws_X10_isIf wnX10 wkX10_isIf rfl rfl (by decide +kernel) ⟨Nat.le_of_ble_eq_true rfl, Nat.le_of_ble_eq_true rfl⟩) rfl rfl (by decide +kernel) rfl rfl rfl rfl hl.1 (Nat.le_of_ble_eq_true rfl) dX10_readLine_15 ⟨Nat.zero_le _, Nat.zero_le _⟩ rfl (fun H locs hP hD hS => ?_)
    obtain ⟨J26_3, eJ26_3, hf⟩ := zJn_el hf
    have hJ26_3 : ∀ (mW_2 : Rc), J26_3 mW_2 = some (of, mL', mS', mW') → ∀ (H : Heap) (locs : List Loc), va_P (dC, dI) vwCl (kX10 cI cB bV (bP 0) (bS 0) (bW 0) (bN 0) (bO 0) mZ mY mB mL mU mJ mK mG mA ++ kX8 cI cB bS mS ++ kX9 cI cB bW mW_2) H → va_D A (kX10 cI cB bV (bP 0) (bS 0) (bW 0) (bN 0) (bO 0) mZ mY mB mL mU mJ mK mG mA ++ kX8 cI cB bS mS ++ kX9 cI cB bW mW_2) → va_S A s.heap H locs → ∀ (ls : Array Slot), lv_has ls 3 [(0, .ref (bV 0)), (1, .int p1)] → W p l e rX10_readLine s m args below meth c H locs 0 0 QQ (F0 m 26 ls []) := by
      intro mW_2 hf H locs hP hD hS ls hl
      rw [eJ26_3] at hf
      refine lv_aload_n C.1.1 C.1.2.1 dX10_readLine_26 rfl (lv_at hl 0 rfl) ?_
      refine zGet (.ref (bS 0)) C.1 wuX10 hK hP 0 rfl rfl 8 (by decide) wfX10_29 rfl rfl dX10_readLine_27 ?_
      refine zGetN (.ref (bS 3)) C.1 wuX8 hK hP 14 rfl rfl 5 (by decide) nfX10_174 rfl rfl dX10_readLine_30 ?_
      refine lv_iload_n C.1.1 C.1.2.1 dX10_readLine_33 rfl (lv_at hl 1 rfl) ?_
      obtain ⟨hib, hf⟩ := zGd_el hf
      refine va_iald C.1.1 C.1.2.1 hK.1 hP 17 0 rfl rfl hib dX10_readLine_34 ?_
      refine lv_bipush (v := 8) C.1.1 C.1.2.1 dX10_readLine_35 (by decide) ?_
      refine lv_icmp_ne (tgt := 46) C.1.1 C.1.2.1 dX10_readLine_37 (by decide) (fun hc => ?_) (fun hc => ?_)
      · replace hf := zIf_f hf hc
        refine lv_bipush (v := 8) C.1.1 C.1.2.1 dX10_readLine_46 (by decide) ?_
        refine lv_iload_n C.1.1 C.1.2.1 dX10_readLine_48 rfl (lv_at hl 1 rfl) ?_
        refine lv_imul C.1.1 C.1.2.1 dX10_readLine_49 ?_
        refine lv_aload_n C.1.1 C.1.2.1 dX10_readLine_50 rfl (lv_at hl 0 rfl) ?_
        refine zGet (.ref (bS 0)) C.1 wuX10 hK hP 0 rfl rfl 8 (by decide) wfX10_29 rfl rfl dX10_readLine_51 ?_
        refine zGetN (.ref (bS 3)) C.1 wuX8 hK hP 14 rfl rfl 5 (by decide) nfX10_174 rfl rfl dX10_readLine_54 ?_
        refine lv_iload_n C.1.1 C.1.2.1 dX10_readLine_57 rfl (lv_at hl 1 rfl) ?_
        obtain ⟨hib, hf⟩ := zGd_el hf
        refine va_iald C.1.1 C.1.2.1 hK.1 hP 17 0 rfl rfl hib dX10_readLine_58 ?_
        refine lv_iadd C.1.1 C.1.2.1 dX10_readLine_59 ?_
        refine lv_topi (fun x4 ex4 => ?_)
        replace hf := zLet_at hf ex4
        refine lv_istore_n (lv' := [(2, .int x4), (0, .ref (bV 0)), (1, .int p1)]) C.1.1 C.1.2.1 dX10_readLine_60 rfl hl (by decide) rfl (fun ls hl => ?_)
        refine lv_aload_n C.1.1 C.1.2.1 dX10_readLine_61 rfl (lv_at hl 1 rfl) ?_
        refine zGet (.ref (bS 0)) C.1 wuX10 hK hP 0 rfl rfl 8 (by decide) wfX10_29 rfl rfl dX10_readLine_62 ?_
        refine zGetN (.ref (bS 5)) C.1 wuX8 hK hP 14 rfl rfl 7 (by decide) nfX10_192 rfl rfl dX10_readLine_65 ?_
        refine lv_iload_n C.1.1 C.1.2.1 dX10_readLine_68 rfl (lv_at hl 0 rfl) ?_
        refine lv_iconst (v := (-1)) C.1.1 C.1.2.1 dX10_readLine_69 (by decide) ?_
        obtain ⟨hib, hf⟩ := zGd_el hf
        obtain ⟨mS_5, emS_5, hf⟩ := zLet_el hf
        refine zIast (kX10 cI cB bV (bP 0) (bS 0) (bW 0) (bN 0) (bO 0) mZ mY mB mL mU mJ mK mG mA ++ kX8 cI cB bS mS_5 ++ kX9 cI cB bW mW_2) C.1 hK hP hD hS 19 0 rfl rfl hib dX10_readLine_70 (by rw [emS_5]; rfl) (fun H locs hP hD hS => ?_)
        refine lv_aload_n C.1.1 C.1.2.1 dX10_readLine_71 rfl (lv_at hl 1 rfl) ?_
        obtain ⟨v6, hg, hf⟩ := zB1_el hf
        refine zCVi (As := []) (rest := []) (wr := (kX8 cI cB bS mS_5 ++ kX9 cI cB bW mW_2)) (wn := (kX10 cI cB bV (bP 0) (bS 0) (bW 0) (bN 0) (bO 0) mZ mY mB mL mU mJ mK mG mA ++ kX8 cI cB bS mS_5 ++ kX9 cI cB bW mW_2)) C.1 hK hA hP hD hS [0, 1, 2, 3, 4, 5, 6, 7, 8, 9, 10, 11, 12, 13] [14, 15, 16, 17, 18, 19, 20, 21, 22, 23, 24, 25] [12, 13, 14, 15, 16, 17, 18, 19, 20, 21, 22, 23, 24, 25, 0, 1, 2, 3, 4, 5, 6, 7, 8, 9, 10, 11] 0 (mtX10_isIf l dC dI cI cB bV bP bS bW bN bO H.size mZ mY mB mL mU mJ mK mG mA hg) (zCwV 0 C.1 wlX10_184 wiX10_isIf ws_X10_isIf wnX10 wkX10_isIf rfl rfl (by decide +kernel) ⟨Nat.le_of_ble_eq_true rfl, Nat.le_of_ble_eq_true rfl⟩) rfl rfl (by decide +kernel) rfl rfl rfl rfl hl.1 (Nat.le_of_ble_eq_true rfl) dX10_readLine_72 ⟨Nat.zero_le _, Nat.zero_le _⟩ rfl (fun H locs hP hD hS => ?_)
        obtain ⟨J103_10, eJ103_10, hf⟩ := zJn_el hf
        have hJ103_10 : ∀ (mL_7 : Rc) (mS_8 : Rc) (mW_9 : Rc), J103_10 mL_7 mS_8 mW_9 = some (of, mL', mS', mW') → ∀ (H : Heap) (locs : List Loc), va_P (dC, dI) vwCl (kX10 cI cB bV (bP 0) (bS 0) (bW 0) (bN 0) (bO 0) mZ mY mB mL_7 mU mJ mK mG mA ++ kX8 cI cB bS mS_8 ++ kX9 cI cB bW mW_9) H → va_D A (kX10 cI cB bV (bP 0) (bS 0) (bW 0) (bN 0) (bO 0) mZ mY mB mL_7 mU mJ mK mG mA ++ kX8 cI cB bS mS_8 ++ kX9 cI cB bW mW_9) → va_S A s.heap H locs → ∀ (ls : Array Slot), lv_has ls 3 [(0, .ref (bV 0)), (1, .int p1), (2, .int x4)] → W p l e rX10_readLine s m args below meth c H locs 0 0 QQ (F0 m 103 ls []) := by
          intro mL_7 mS_8 mW_9 hf H locs hP hD hS ls hl
          rw [eJ103_10] at hf
          refine lv_aload_n C.1.1 C.1.2.1 dX10_readLine_103 rfl (lv_at hl 0 rfl) ?_
          refine zGet (.ref (bS 0)) C.1 wuX10 hK hP 0 rfl rfl 8 (by decide) wfX10_29 rfl rfl dX10_readLine_104 ?_
          refine zGetN (.ref (bS 6)) C.1 wuX8 hK hP 14 rfl rfl 8 (by decide) nfX10_198 rfl rfl dX10_readLine_107 ?_
          refine lv_iload_n C.1.1 C.1.2.1 dX10_readLine_110 rfl (lv_at hl 2 rfl) ?_
          refine lv_aload_n C.1.1 C.1.2.1 dX10_readLine_111 rfl (lv_at hl 0 rfl) ?_
          obtain ⟨fl11, v12, mW_13, hg, hf⟩ := zB3_el hf
          refine zCTi (As := []) (rest := [.int x4, .ref (bS 6)]) (wr := (kX8 cI cB bS mS_8)) (wn := (kX10 cI cB bV (bP 0) (bS 0) (bW 0) (bN 0) (bO 0) mZ mY mB mL_7 mU mJ mK mG mA ++ kX8 cI cB bS mS_8 ++ kX9 cI cB bW mW_13)) C.1 hK hA hP hD hS [0, 1, 2, 3, 4, 5, 6, 7, 8, 9, 10, 11, 12, 13, 25] [14, 15, 16, 17, 18, 19, 20, 21, 22, 23, 24] [11, 12, 13, 14, 15, 16, 17, 18, 19, 20, 21, 22, 23, 24, 0, 1, 2, 3, 4, 5, 6, 7, 8, 9, 10, 25] 0 (mtX10_nameHere l dC dI cI cB bV bP bS bW bN bO H.size mZ mY mB mL_7 mU mJ mK mG mA mW_9 hg) (zCwV 0 C.1 wlX10_188 wiX10_nameHere ws_X10_nameHere wnX10 wkX10_nameHere rfl rfl (by decide +kernel) ⟨Nat.le_of_ble_eq_true rfl, Nat.le_of_ble_eq_true rfl⟩) rfl rfl (by decide +kernel) rfl rfl rfl rfl hl.1 (Nat.le_of_ble_eq_true rfl) dX10_readLine_112 ⟨Nat.zero_le _, Nat.zero_le _⟩ rfl (fun hfl H locs ce hP hD hS g1 g2 g3 => ?_) (fun hfl H locs hP hD hS => ?_)
          · replace hf := zIf_t hf hfl
            cases hf
            rw [← hQ]
            exact zOut rfl C ht hK hP hD hS g1 g2 g3
          · replace hf := zIf_f hf (by rw [hfl]; decide)
            obtain ⟨hib, hf⟩ := zGd_el hf
            obtain ⟨mS_14, emS_14, hf⟩ := zLet_el hf
            refine zIast (kX10 cI cB bV (bP 0) (bS 0) (bW 0) (bN 0) (bO 0) mZ mY mB mL_7 mU mJ mK mG mA ++ kX8 cI cB bS mS_14 ++ kX9 cI cB bW mW_13) C.1 hK hP hD hS 20 0 rfl rfl hib dX10_readLine_115 (by rw [emS_14]; rfl) (fun H locs hP hD hS => ?_)
            refine lv_aload_n C.1.1 C.1.2.1 dX10_readLine_116 rfl (lv_at hl 0 rfl) ?_
            obtain ⟨mL_15, hg, hf⟩ := zB1_el hf
            refine zCVv (As := []) (rest := []) (wr := (kX8 cI cB bS mS_14 ++ kX9 cI cB bW mW_13)) (wn := (kX10 cI cB bV (bP 0) (bS 0) (bW 0) (bN 0) (bO 0) mZ mY mB mL_15 mU mJ mK mG mA ++ kX8 cI cB bS mS_14 ++ kX9 cI cB bW mW_13)) C.1 hK hA hP hD hS [0, 1, 2, 3, 4, 5, 6, 7, 8, 9, 10, 11, 12, 13] [14, 15, 16, 17, 18, 19, 20, 21, 22, 23, 24, 25] [12, 13, 14, 15, 16, 17, 18, 19, 20, 21, 22, 23, 24, 25, 0, 1, 2, 3, 4, 5, 6, 7, 8, 9, 10, 11] 0 (mtX10_next l dC dI cI cB bV bP bS bW bN bO H.size NN mZ mY mB mL_7 mU mJ mK mG mA hg) (zCwV 0 C.1 wlX10_140 wiX10_next ws_X10_next wnX10 wkX10_next rfl rfl (by decide +kernel) ⟨Nat.le_of_ble_eq_true rfl, Nat.le_of_ble_eq_true rfl⟩) rfl rfl (by decide +kernel) rfl rfl rfl rfl hl.1 (Nat.le_of_ble_eq_true rfl) dX10_readLine_117 ⟨Nat.zero_le _, Nat.zero_le _⟩ rfl (fun H locs hP hD hS => ?_)
            refine lv_aload_n C.1.1 C.1.2.1 dX10_readLine_120 rfl (lv_at hl 0 rfl) ?_
            refine lv_bipush (v := 61) C.1.1 C.1.2.1 dX10_readLine_121 (by decide) ?_
            obtain ⟨fl16, mL_17, mW_18, hg, hf⟩ := zB3_el hf
            refine zCTv (As := [.int (61 : Int32)]) (rest := []) (wr := (kX8 cI cB bS mS_14)) (wn := (kX10 cI cB bV (bP 0) (bS 0) (bW 0) (bN 0) (bO 0) mZ mY mB mL_17 mU mJ mK mG mA ++ kX8 cI cB bS mS_14 ++ kX9 cI cB bW mW_18)) C.1 hK hA hP hD hS [0, 1, 2, 3, 4, 5, 6, 7, 8, 9, 10, 11, 12, 13, 25] [14, 15, 16, 17, 18, 19, 20, 21, 22, 23, 24] [11, 12, 13, 14, 15, 16, 17, 18, 19, 20, 21, 22, 23, 24, 0, 1, 2, 3, 4, 5, 6, 7, 8, 9, 10, 25] 0 (mtX10_need l dC dI cI cB bV bP bS bW bN bO H.size NN mZ mY mB mL_15 mU mJ mK mG mA mW_13 (61 : Int32) hg) (zCwV 1 C.1 wlX10_177 wiX10_need ws_X10_need wnX10 wkX10_need rfl rfl (by decide +kernel) ⟨Nat.le_of_ble_eq_true rfl, Nat.le_of_ble_eq_true rfl⟩) rfl rfl (by decide +kernel) rfl rfl rfl rfl hl.1 (Nat.le_of_ble_eq_true rfl) dX10_readLine_123 ⟨Nat.zero_le _, Nat.zero_le _⟩ rfl (fun hfl H locs ce hP hD hS g1 g2 g3 => ?_) (fun hfl H locs hP hD hS => ?_)
            · replace hf := zIf_t hf hfl
              cases hf
              rw [← hQ]
              exact zOut rfl C ht hK hP hD hS g1 g2 g3
            · replace hf := zIf_f hf (by rw [hfl]; decide)
              refine lv_aload_n C.1.1 C.1.2.1 dX10_readLine_126 rfl (lv_at hl 0 rfl) ?_
              refine zGet (.ref (bS 0)) C.1 wuX10 hK hP 0 rfl rfl 8 (by decide) wfX10_29 rfl rfl dX10_readLine_127 ?_
              refine zGetN (.ref (bS 7)) C.1 wuX8 hK hP 14 rfl rfl 9 (by decide) nfX10_201 rfl rfl dX10_readLine_130 ?_
              refine lv_iload_n C.1.1 C.1.2.1 dX10_readLine_133 rfl (lv_at hl 2 rfl) ?_
              refine lv_aload_n C.1.1 C.1.2.1 dX10_readLine_134 rfl (lv_at hl 0 rfl) ?_
              refine zGet (.ref (bS 0)) C.1 wuX10 hK hP 0 rfl rfl 8 (by decide) wfX10_29 rfl rfl dX10_readLine_135 ?_
              refine zGetN (.int (mS_14 1 0)) C.1 wuX8 hK hP 14 rfl rfl 1 (by decide) nfX10_149 rfl rfl dX10_readLine_138 ?_
              obtain ⟨hib, hf⟩ := zGd_el hf
              obtain ⟨mS_19, emS_19, hf⟩ := zLet_el hf
              refine zIast (kX10 cI cB bV (bP 0) (bS 0) (bW 0) (bN 0) (bO 0) mZ mY mB mL_17 mU mJ mK mG mA ++ kX8 cI cB bS mS_19 ++ kX9 cI cB bW mW_18) C.1 hK hP hD hS 21 0 rfl rfl hib dX10_readLine_141 (by rw [emS_19]; rfl) (fun H locs hP hD hS => ?_)
              refine lv_aload_n C.1.1 C.1.2.1 dX10_readLine_142 rfl (lv_at hl 0 rfl) ?_
              obtain ⟨fl20, mL_21, mS_22, mW_23, hg, hf⟩ := zB4_el hf
              refine zCTv (As := []) (rest := []) (wr := ([] : va_W)) (wn := (kX10 cI cB bV (bP 0) (bS 0) (bW 0) (bN 0) (bO 0) mZ mY mB mL_21 mU mJ mK mG mA ++ kX8 cI cB bS mS_22 ++ kX9 cI cB bW mW_23)) C.1 hK hA hP hD hS [0, 1, 2, 3, 4, 5, 6, 7, 8, 9, 10, 11, 12, 13, 14, 15, 16, 17, 18, 19, 20, 21, 22, 23, 24, 25] [] [0, 1, 2, 3, 4, 5, 6, 7, 8, 9, 10, 11, 12, 13, 14, 15, 16, 17, 18, 19, 20, 21, 22, 23, 24, 25] 0 (mtX10_readSum l dC dI cI cB bV bP bS bW bN bO H.size NN mZ mY mB mL_17 mU mJ mK mG mA mS_19 mW_18 hg) (zCwV 0 C.1 wlX10_204 wiX10_readSum ws_X10_readSum wnX10 wkX10_readSum rfl rfl (by decide +kernel) ⟨Nat.le_of_ble_eq_true rfl, Nat.le_of_ble_eq_true rfl⟩) rfl rfl (by decide +kernel) rfl rfl rfl rfl hl.1 (Nat.le_of_ble_eq_true rfl) dX10_readLine_143 ⟨Nat.zero_le _, Nat.zero_le _⟩ rfl (fun hfl H locs ce hP hD hS g1 g2 g3 => ?_) (fun hfl H locs hP hD hS => ?_)
              · replace hf := zIf_t hf hfl
                cases hf
                rw [← hQ]
                exact zOut rfl C ht hK hP hD hS g1 g2 g3
              · replace hf := zIf_f hf (by rw [hfl]; decide)
                refine lv_aload_n C.1.1 C.1.2.1 dX10_readLine_146 rfl (lv_at hl 0 rfl) ?_
                refine zGet (.ref (bS 0)) C.1 wuX10 hK hP 0 rfl rfl 8 (by decide) wfX10_29 rfl rfl dX10_readLine_147 ?_
                refine zGetN (.ref (bS 8)) C.1 wuX8 hK hP 14 rfl rfl 10 (by decide) nfX10_207 rfl rfl dX10_readLine_150 ?_
                refine lv_iload_n C.1.1 C.1.2.1 dX10_readLine_153 rfl (lv_at hl 2 rfl) ?_
                refine lv_aload_n C.1.1 C.1.2.1 dX10_readLine_154 rfl (lv_at hl 0 rfl) ?_
                refine zGet (.ref (bS 0)) C.1 wuX10 hK hP 0 rfl rfl 8 (by decide) wfX10_29 rfl rfl dX10_readLine_155 ?_
                refine zGetN (.int (mS_22 1 0)) C.1 wuX8 hK hP 14 rfl rfl 1 (by decide) nfX10_149 rfl rfl dX10_readLine_158 ?_
                obtain ⟨hib, hf⟩ := zGd_el hf
                obtain ⟨mS_24, emS_24, hf⟩ := zLet_el hf
                refine zIast (kX10 cI cB bV (bP 0) (bS 0) (bW 0) (bN 0) (bO 0) mZ mY mB mL_21 mU mJ mK mG mA ++ kX8 cI cB bS mS_24 ++ kX9 cI cB bW mW_23) C.1 hK hP hD hS 22 0 rfl rfl hib dX10_readLine_161 (by rw [emS_24]; rfl) (fun H locs hP hD hS => ?_)
                refine lv_aload_n C.1.1 C.1.2.1 dX10_readLine_162 rfl (lv_at hl 0 rfl) ?_
                refine zGet (.ref (bS 0)) C.1 wuX10 hK hP 0 rfl rfl 8 (by decide) wfX10_29 rfl rfl dX10_readLine_163 ?_
                refine zGetN (.ref (bS 3)) C.1 wuX8 hK hP 14 rfl rfl 5 (by decide) nfX10_174 rfl rfl dX10_readLine_166 ?_
                refine lv_iload_n C.1.1 C.1.2.1 dX10_readLine_169 rfl (lv_at hl 1 rfl) ?_
                refine lv_dup2_11 C.1.1 C.1.2.1 dX10_readLine_170 rfl rfl ?_
                obtain ⟨hib, hf⟩ := zGd_el hf
                refine va_iald C.1.1 C.1.2.1 hK.1 hP 17 0 rfl rfl hib dX10_readLine_171 ?_
                refine lv_iconst (v := 1) C.1.1 C.1.2.1 dX10_readLine_172 (by decide) ?_
                refine lv_iadd C.1.1 C.1.2.1 dX10_readLine_173 ?_
                obtain ⟨hib, hf⟩ := zGd_el hf
                obtain ⟨mS_25, emS_25, hf⟩ := zLet_el hf
                refine zIast (kX10 cI cB bV (bP 0) (bS 0) (bW 0) (bN 0) (bO 0) mZ mY mB mL_21 mU mJ mK mG mA ++ kX8 cI cB bS mS_25 ++ kX9 cI cB bW mW_23) C.1 hK hP hD hS 17 0 rfl rfl hib dX10_readLine_174 (by rw [emS_25]; rfl) (fun H locs hP hD hS => ?_)
                cases hf
                rw [← hQ]
                exact zRTv rfl C hK hP hD hS dX10_readLine_175
        refine lv_if_eq (tgt := 103) C.1.1 C.1.2.1 dX10_readLine_75 (by decide) (fun hc => ?_) (fun hc => ?_)
        · replace hf := zIf_t hf hc
          exact hJ103_10 mL mS_5 mW_2 hf H locs hP hD hS ls (lv_sub hl [1, 2, 0] rfl)
        · replace hf := zIf_f hf hc
          refine lv_aload_n C.1.1 C.1.2.1 dX10_readLine_78 rfl (lv_at hl 1 rfl) ?_
          obtain ⟨fl26, mS_27, mW_28, hg, hf⟩ := zB3_el hf
          refine zCTv (As := []) (rest := []) (wr := ([] : va_W)) (wn := (kX10 cI cB bV (bP 0) (bS 0) (bW 0) (bN 0) (bO 0) mZ mY mB mL mU mJ mK mG mA ++ kX8 cI cB bS mS_27 ++ kX9 cI cB bW mW_28)) C.1 hK hA hP hD hS [0, 1, 2, 3, 4, 5, 6, 7, 8, 9, 10, 11, 12, 13, 14, 15, 16, 17, 18, 19, 20, 21, 22, 23, 24, 25] [] [0, 1, 2, 3, 4, 5, 6, 7, 8, 9, 10, 11, 12, 13, 14, 15, 16, 17, 18, 19, 20, 21, 22, 23, 24, 25] 0 (mtX10_op l dC dI cI cB bV bP bS bW bN bO H.size mZ mY mB mL mU mJ mK mG mA mS_5 mW_2 hg) (zCwV 0 C.1 wlX10_195 wiX10_op ws_X10_op wnX10 wkX10_op rfl rfl (by decide +kernel) ⟨Nat.le_of_ble_eq_true rfl, Nat.le_of_ble_eq_true rfl⟩) rfl rfl (by decide +kernel) rfl rfl rfl rfl hl.1 (Nat.le_of_ble_eq_true rfl) dX10_readLine_79 ⟨Nat.zero_le _, Nat.zero_le _⟩ rfl (fun hfl H locs ce hP hD hS g1 g2 g3 => ?_) (fun hfl H locs hP hD hS => ?_)
          · replace hf := zIf_t hf hfl
            cases hf
            rw [← hQ]
            exact zOut rfl C ht hK hP hD hS g1 g2 g3
          · replace hf := zIf_f hf (by rw [hfl]; decide)
            refine lv_aload_n C.1.1 C.1.2.1 dX10_readLine_82 rfl (lv_at hl 1 rfl) ?_
            obtain ⟨mL_29, hg, hf⟩ := zB1_el hf
            refine zCVv (As := []) (rest := []) (wr := (kX8 cI cB bS mS_27 ++ kX9 cI cB bW mW_28)) (wn := (kX10 cI cB bV (bP 0) (bS 0) (bW 0) (bN 0) (bO 0) mZ mY mB mL_29 mU mJ mK mG mA ++ kX8 cI cB bS mS_27 ++ kX9 cI cB bW mW_28)) C.1 hK hA hP hD hS [0, 1, 2, 3, 4, 5, 6, 7, 8, 9, 10, 11, 12, 13] [14, 15, 16, 17, 18, 19, 20, 21, 22, 23, 24, 25] [12, 13, 14, 15, 16, 17, 18, 19, 20, 21, 22, 23, 24, 25, 0, 1, 2, 3, 4, 5, 6, 7, 8, 9, 10, 11] 0 (mtX10_next l dC dI cI cB bV bP bS bW bN bO H.size NN mZ mY mB mL mU mJ mK mG mA hg) (zCwV 0 C.1 wlX10_140 wiX10_next ws_X10_next wnX10 wkX10_next rfl rfl (by decide +kernel) ⟨Nat.le_of_ble_eq_true rfl, Nat.le_of_ble_eq_true rfl⟩) rfl rfl (by decide +kernel) rfl rfl rfl rfl hl.1 (Nat.le_of_ble_eq_true rfl) dX10_readLine_83 ⟨Nat.zero_le _, Nat.zero_le _⟩ rfl (fun H locs hP hD hS => ?_)
            refine lv_aload_n C.1.1 C.1.2.1 dX10_readLine_86 rfl (lv_at hl 1 rfl) ?_
            refine zGet (.ref (bS 0)) C.1 wuX10 hK hP 0 rfl rfl 8 (by decide) wfX10_29 rfl rfl dX10_readLine_87 ?_
            refine zGetN (.ref (bS 5)) C.1 wuX8 hK hP 14 rfl rfl 7 (by decide) nfX10_192 rfl rfl dX10_readLine_90 ?_
            refine lv_iload_n C.1.1 C.1.2.1 dX10_readLine_93 rfl (lv_at hl 0 rfl) ?_
            refine lv_aload_n C.1.1 C.1.2.1 dX10_readLine_94 rfl (lv_at hl 1 rfl) ?_
            obtain ⟨fl30, v31, mW_32, hg, hf⟩ := zB3_el hf
            refine zCTi (As := []) (rest := [.int x4, .ref (bS 5)]) (wr := (kX8 cI cB bS mS_27)) (wn := (kX10 cI cB bV (bP 0) (bS 0) (bW 0) (bN 0) (bO 0) mZ mY mB mL_29 mU mJ mK mG mA ++ kX8 cI cB bS mS_27 ++ kX9 cI cB bW mW_32)) C.1 hK hA hP hD hS [0, 1, 2, 3, 4, 5, 6, 7, 8, 9, 10, 11, 12, 13, 25] [14, 15, 16, 17, 18, 19, 20, 21, 22, 23, 24] [11, 12, 13, 14, 15, 16, 17, 18, 19, 20, 21, 22, 23, 24, 0, 1, 2, 3, 4, 5, 6, 7, 8, 9, 10, 25] 0 (mtX10_nameHere l dC dI cI cB bV bP bS bW bN bO H.size mZ mY mB mL_29 mU mJ mK mG mA mW_28 hg) (zCwV 0 C.1 wlX10_188 wiX10_nameHere ws_X10_nameHere wnX10 wkX10_nameHere rfl rfl (by decide +kernel) ⟨Nat.le_of_ble_eq_true rfl, Nat.le_of_ble_eq_true rfl⟩) rfl rfl (by decide +kernel) rfl rfl rfl rfl hl.1 (Nat.le_of_ble_eq_true rfl) dX10_readLine_95 ⟨Nat.zero_le _, Nat.zero_le _⟩ rfl (fun hfl H locs ce hP hD hS g1 g2 g3 => ?_) (fun hfl H locs hP hD hS => ?_)
            · replace hf := zIf_t hf hfl
              cases hf
              rw [← hQ]
              exact zOut rfl C ht hK hP hD hS g1 g2 g3
            · replace hf := zIf_f hf (by rw [hfl]; decide)
              obtain ⟨hib, hf⟩ := zGd_el hf
              obtain ⟨mS_33, emS_33, hf⟩ := zLet_el hf
              refine zIast (kX10 cI cB bV (bP 0) (bS 0) (bW 0) (bN 0) (bO 0) mZ mY mB mL_29 mU mJ mK mG mA ++ kX8 cI cB bS mS_33 ++ kX9 cI cB bW mW_32) C.1 hK hP hD hS 19 0 rfl rfl hib dX10_readLine_98 (by rw [emS_33]; rfl) (fun H locs hP hD hS => ?_)
              refine lv_aload_n C.1.1 C.1.2.1 dX10_readLine_99 rfl (lv_at hl 1 rfl) ?_
              obtain ⟨mL_34, hg, hf⟩ := zB1_el hf
              refine zCVv (As := []) (rest := []) (wr := (kX8 cI cB bS mS_33 ++ kX9 cI cB bW mW_32)) (wn := (kX10 cI cB bV (bP 0) (bS 0) (bW 0) (bN 0) (bO 0) mZ mY mB mL_34 mU mJ mK mG mA ++ kX8 cI cB bS mS_33 ++ kX9 cI cB bW mW_32)) C.1 hK hA hP hD hS [0, 1, 2, 3, 4, 5, 6, 7, 8, 9, 10, 11, 12, 13] [14, 15, 16, 17, 18, 19, 20, 21, 22, 23, 24, 25] [12, 13, 14, 15, 16, 17, 18, 19, 20, 21, 22, 23, 24, 25, 0, 1, 2, 3, 4, 5, 6, 7, 8, 9, 10, 11] 0 (mtX10_next l dC dI cI cB bV bP bS bW bN bO H.size NN mZ mY mB mL_29 mU mJ mK mG mA hg) (zCwV 0 C.1 wlX10_140 wiX10_next ws_X10_next wnX10 wkX10_next rfl rfl (by decide +kernel) ⟨Nat.le_of_ble_eq_true rfl, Nat.le_of_ble_eq_true rfl⟩) rfl rfl (by decide +kernel) rfl rfl rfl rfl hl.1 (Nat.le_of_ble_eq_true rfl) dX10_readLine_100 ⟨Nat.zero_le _, Nat.zero_le _⟩ rfl (fun H locs hP hD hS => ?_)
              exact hJ103_10 mL_34 mS_33 mW_32 hf H locs hP hD hS ls (lv_sub hl [1, 2, 0] rfl)
      · replace hf := zIf_t hf hc
        refine lv_aload_n C.1.1 C.1.2.1 dX10_readLine_40 rfl (lv_at hl 0 rfl) ?_
        refine lv_iconst (v := 5) C.1.1 C.1.2.1 dX10_readLine_41 (by decide) ?_
        obtain ⟨mW_35, hg, hf⟩ := zB1_el hf
        refine zCVr (As := [.int (5 : Int32)]) (rest := []) (wr := (kX8 cI cB bS mS)) (wn := (kX10 cI cB bV (bP 0) (bS 0) (bW 0) (bN 0) (bO 0) mZ mY mB mL mU mJ mK mG mA ++ kX8 cI cB bS mS ++ kX9 cI cB bW mW_35)) C.1 hK hA hP hD hS [0, 1, 2, 3, 4, 5, 6, 7, 8, 9, 10, 11, 12, 13, 25] [14, 15, 16, 17, 18, 19, 20, 21, 22, 23, 24] [11, 12, 13, 14, 15, 16, 17, 18, 19, 20, 21, 22, 23, 24, 0, 1, 2, 3, 4, 5, 6, 7, 8, 9, 10, 25] 0 (mtX10_stop l dC dI cI cB bV bP bS bW bN bO H.size mZ mY mB mL mU mJ mK mG mA mW_2 (5 : Int32) hg) (zCwV 1 C.1 wlX10_137 wiX10_stop ws_X10_stop wnX10 wkX10_stop rfl rfl (by decide +kernel) ⟨Nat.le_of_ble_eq_true rfl, Nat.le_of_ble_eq_true rfl⟩) rfl rfl (by decide +kernel) rfl rfl rfl rfl hl.1 (Nat.le_of_ble_eq_true rfl) dX10_readLine_42 ⟨Nat.zero_le _, Nat.zero_le _⟩ rfl (fun H locs hP hD hS => ?_)
        cases hf
        rw [← hQ]
        exact zThr 25 rfl C ht hK hP hD hS rfl dX10_readLine_45
    refine lv_if_ne (tgt := 26) C.1.1 C.1.2.1 dX10_readLine_18 (by decide) (fun hc => ?_) (fun hc => ?_)
    · replace hf := zIf_f hf hc
      exact hJ26_3 mW hf H locs hP hD hS ls (lv_sub hl [0, 1] rfl)
    · replace hf := zIf_t hf hc
      refine lv_aload_n C.1.1 C.1.2.1 dX10_readLine_21 rfl (lv_at hl 0 rfl) ?_
      obtain ⟨fl36, v37, mW_38, hg, hf⟩ := zB3_el hf
      refine zCTi (As := []) (rest := []) (wr := (kX8 cI cB bS mS)) (wn := (kX10 cI cB bV (bP 0) (bS 0) (bW 0) (bN 0) (bO 0) mZ mY mB mL mU mJ mK mG mA ++ kX8 cI cB bS mS ++ kX9 cI cB bW mW_38)) C.1 hK hA hP hD hS [0, 1, 2, 3, 4, 5, 6, 7, 8, 9, 10, 11, 12, 13, 25] [14, 15, 16, 17, 18, 19, 20, 21, 22, 23, 24] [11, 12, 13, 14, 15, 16, 17, 18, 19, 20, 21, 22, 23, 24, 0, 1, 2, 3, 4, 5, 6, 7, 8, 9, 10, 25] 0 (mtX10_nameHere l dC dI cI cB bV bP bS bW bN bO H.size mZ mY mB mL mU mJ mK mG mA mW hg) (zCwV 0 C.1 wlX10_188 wiX10_nameHere ws_X10_nameHere wnX10 wkX10_nameHere rfl rfl (by decide +kernel) ⟨Nat.le_of_ble_eq_true rfl, Nat.le_of_ble_eq_true rfl⟩) rfl rfl (by decide +kernel) rfl rfl rfl rfl hl.1 (Nat.le_of_ble_eq_true rfl) dX10_readLine_22 ⟨Nat.zero_le _, Nat.zero_le _⟩ rfl (fun hfl H locs ce hP hD hS g1 g2 g3 => ?_) (fun hfl H locs hP hD hS => ?_)
      · replace hf := zIf_t hf hfl
        cases hf
        rw [← hQ]
        exact zOut rfl C ht hK hP hD hS g1 g2 g3
      · replace hf := zIf_f hf (by rw [hfl]; decide)
        refine lv_istore_n (lv' := [(2, .int v37), (0, .ref (bV 0)), (1, .int p1)]) C.1.1 C.1.2.1 dX10_readLine_25 rfl hl (by decide) rfl (fun ls hl => ?_)
        exact hJ26_3 mW_38 hf H locs hP hD hS ls (lv_sub hl [1, 2] rfl)
  · replace hf := zIf_f hf hc
    refine lv_aload_n C.1.1 C.1.2.1 dX10_readLine_8 rfl (lv_at hl 0 rfl) ?_
    refine lv_iconst (v := 1) C.1.1 C.1.2.1 dX10_readLine_9 (by decide) ?_
    obtain ⟨mW_39, hg, hf⟩ := zB1_el hf
    refine zCVr (As := [.int (1 : Int32)]) (rest := []) (wr := (kX8 cI cB bS mS)) (wn := (kX10 cI cB bV (bP 0) (bS 0) (bW 0) (bN 0) (bO 0) mZ mY mB mL mU mJ mK mG mA ++ kX8 cI cB bS mS ++ kX9 cI cB bW mW_39)) C.1 hK hA hP hD hS [0, 1, 2, 3, 4, 5, 6, 7, 8, 9, 10, 11, 12, 13, 25] [14, 15, 16, 17, 18, 19, 20, 21, 22, 23, 24] [11, 12, 13, 14, 15, 16, 17, 18, 19, 20, 21, 22, 23, 24, 0, 1, 2, 3, 4, 5, 6, 7, 8, 9, 10, 25] 0 (mtX10_stop l dC dI cI cB bV bP bS bW bN bO H.size mZ mY mB mL mU mJ mK mG mA mW (1 : Int32) hg) (zCwV 1 C.1 wlX10_137 wiX10_stop ws_X10_stop wnX10 wkX10_stop rfl rfl (by decide +kernel) ⟨Nat.le_of_ble_eq_true rfl, Nat.le_of_ble_eq_true rfl⟩) rfl rfl (by decide +kernel) rfl rfl rfl rfl hl.1 (Nat.le_of_ble_eq_true rfl) dX10_readLine_10 ⟨Nat.zero_le _, Nat.zero_le _⟩ rfl (fun H locs hP hD hS => ?_)
    cases hf
    rw [← hQ]
    exact zThr 25 rfl C ht hK hP hD hS rfl dX10_readLine_13
def fX10_readBlock_L199 (mB : Rc) (NN : Nat) (x2 : Int32) (J226_17 : Rc → Rc → Rc → Option (Int32 × Rc × Rc × Rc)) (n : Nat) (x22 : Int32) (mL_23 : Rc) (mS_24 : Rc) (mW_25 : Rc) : Option (Int32 × Rc × Rc × Rc) := zLp4 (fun (go26 : Int32 → Rc → Rc → Rc → Option (Int32 × Rc × Rc × Rc)) (x22 : Int32) (mL_23 : Rc) (mS_24 : Rc) (mW_25 : Rc) =>
    if x22 = 0 then (
      J226_17 mL_23 mS_24 mW_25
    ) else (
      zB4 (fX10_readLine NN mB mL_23 mS_24 mW_25 x2) fun fl27 mL_28 mS_29 mW_30 =>
      if fl27 = 1 then (
        some ((1 : Int32), mL_28, mS_29, mW_30)
      ) else (
        zB1 (fX10_is mL_28 (59 : Int32)) fun v31 =>
        if v31 = 0 then (
          go26 v31 mL_28 mS_29 mW_30
        ) else (
          zB1 (fX10_next NN mB mL_28) fun mL_32 =>
          go26 v31 mL_32 mS_29 mW_30
        )
      )
    )
  ) n x22 mL_23 mS_24 mW_25
def fX10_readBlock_L88 (mB : Rc) (mL : Rc) (x2 : Int32) (J127_5 : Rc → Option (Int32 × Rc × Rc × Rc)) (n : Nat) (x35 : Int32) (mS_36 : Rc) : Option (Int32 × Rc × Rc × Rc) := zLp2 (fun (go37 : Int32 → Rc → Option (Int32 × Rc × Rc × Rc)) (x35 : Int32) (mS_36 : Rc) =>
    if (mL 19 0) ≤ x35 then (
      J127_5 mS_36
    ) else (
      zGd (inb ((mL 16 0) + x35) 600) <|
      zGd (inb (((8 : Int32) * x2) + x35) 96) <|
      zLet (rs mS_36 6 (upd (mS_36 6) (((8 : Int32) * x2) + x35).toNatClampNeg (vp_nar .byte (mB 11 ((mL 16 0) + x35).toNatClampNeg)))) fun mS_38 =>
      zLet (x35 + 1) fun x39 =>
      go37 x39 mS_38
    )
  ) n x35 mS_36
def fX10_readBlock_L16 (mB : Rc) (mL : Rc) (mS : Rc) (mW : Rc) (NN : Nat) (J47_1 : Unit → Option (Int32 × Rc × Rc × Rc)) (n : Nat) (x41 : Int32) : Option (Int32 × Rc × Rc × Rc) := zLp1 (fun (go42 : Int32 → Option (Int32 × Rc × Rc × Rc)) (x41 : Int32) =>
    if (mS 0 0) ≤ x41 then (
      J47_1 ()
    ) else (
      zB1 (fX10_isName NN mB mL mS x41) fun v43 =>
      if v43 = 0 then (
        zLet (x41 + 1) fun x44 =>
        go42 x44
      ) else (
        zB1 (fX10_stop mL mW (3 : Int32)) fun mW_45 =>
        some ((1 : Int32), mL, mS, mW_45)
      )
    )
  ) n x41
def fX10_readBlock (NN : Nat) (mB : Rc) (mL : Rc) (mS : Rc) (mW : Rc) : Option (Int32 × Rc × Rc × Rc) :=
  if (mL 15 0) = (2 : Int32) then (
    zJn (fun (_ : Unit) =>
        if (mS 0 0) = (12 : Int32) then (
          zB1 (fX10_stop mL mW (5 : Int32)) fun mW_40 =>
          some ((1 : Int32), mL, mS, mW_40)
        ) else (
          zLet (mS 0 0) fun x2 =>
          zGd (inb x2 12) <|
          zLet (rs mS 3 (upd (mS 3) x2.toNatClampNeg (mL 19 0))) fun mS_3 =>
          zJn (fun (mS_4 : Rc) =>
              zB1 (fX10_next NN mB mL) fun mL_6 =>
              if (mL_6 15 0) = (3 : Int32) then (
                zB1 (fX10_in (mL_6 18 0) (1 : Int32) (50 : Int32)) fun v7 =>
                if v7 = 0 then (
                  zB1 (fX10_stop mL_6 mW (4 : Int32)) fun mW_33 =>
                  some ((1 : Int32), mL_6, mS_4, mW_33)
                ) else (
                  zGd (inb x2 12) <|
                  zLet (rs mS_4 4 (upd (mS_4 4) x2.toNatClampNeg (mL_6 18 0))) fun mS_8 =>
                  zGd (inb x2 12) <|
                  zLet (rs mS_8 5 (upd (mS_8 5) x2.toNatClampNeg (0 : Int32))) fun mS_9 =>
                  zB1 (fX10_next NN mB mL_6) fun mL_10 =>
                  zB3 (fX10_need NN mB mL_10 mW (123 : Int32)) fun fl11 mL_12 mW_13 =>
                  if fl11 = 1 then (
                    some ((1 : Int32), mL_12, mS_9, mW_13)
                  ) else (
                    zJn (fun (mL_14 : Rc) (mS_15 : Rc) (mW_16 : Rc) =>
                        zB3 (fX10_need NN mB mL_14 mW_16 (125 : Int32)) fun fl18 mL_19 mW_20 =>
                        if fl18 = 1 then (
                          some ((1 : Int32), mL_19, mS_15, mW_20)
                        ) else (
                          zLet (rs mS_15 0 (fun _ => ((mS_15 0 0) + (1 : Int32)))) fun mS_21 =>
                          some ((0 : Int32), mL_19, mS_21, mW_20)
                        )
                      ) fun J226_17 =>
                    fX10_readBlock_L199 mB NN x2 J226_17 NN (1 : Int32) mL_12 mS_9 mW_13
                  )
                )
              ) else (
                zB1 (fX10_stop mL_6 mW (1 : Int32)) fun mW_34 =>
                some ((1 : Int32), mL_6, mS_4, mW_34)
              )
            ) fun J127_5 =>
          fX10_readBlock_L88 mB mL x2 J127_5 NN (0 : Int32) mS_3
        )
      ) fun J47_1 =>
    fX10_readBlock_L16 mB mL mS mW NN J47_1 NN (0 : Int32)
  ) else (
    zB1 (fX10_stop mL mW (1 : Int32)) fun mW_46 =>
    some ((1 : Int32), mL, mS, mW_46)
  )
abbrev rX10_readBlock : Room := { frames := 31, cells := 0, slots := 0, locals := 751 }
set_option maxHeartbeats 4000000 in
set_option maxRecDepth 100000 in
theorem mtX10_readBlock (l : Launch) (dC : Nat → ClassId) (dI : Nat → Nat → Nat) (cI cB : ClassId) (bV bP bS bW bN bO : Nat → Nat) (sz : Nat) (NN : Nat) (mZ : Rc) (mY : Rc) (mB : Rc) (mL : Rc) (mU : Rc) (mJ : Rc) (mK : Rc) (mG : Rc) (mA : Rc) (mS : Rc) (mW : Rc) {of : Int32} {mL' : Rc} {mS' : Rc} {mW' : Rc} (hf : fX10_readBlock NN mB mL mS mW = some (of, mL', mS', mW')) : zTv l yX10_readBlock (Cond.code yX10_readBlock cX10_readBlock 3 none :: lw_g) rX10_readBlock (dC, dI) [(cI, .int), (cB, .byte)] [.ref (bV 0)] sz (kX10 cI cB bV (bP 0) (bS 0) (bW 0) (bN 0) (bO 0) mZ mY mB mL mU mJ mK mG mA ++ kX8 cI cB bS mS ++ kX9 cI cB bW mW) (bW 0) of (kX10 cI cB bV (bP 0) (bS 0) (bW 0) (bN 0) (bO 0) mZ mY mB mL' mU mJ mK mG mA ++ kX8 cI cB bS mS' ++ kX9 cI cB bW mW') := by
  refine zStT (cc := cX10_readBlock) (maxL := 3) (ret := none) (own := RX10) (fun A => zTQv (dC, dI) [(cI, .int), (cB, .byte)] A of (kX10 cI cB bV (bP 0) (bS 0) (bW 0) (bN 0) (bO 0) mZ mY mB mL' mU mJ mK mG mA ++ kX8 cI cB bS mS' ++ kX9 cI cB bW mW')) (fun A => zXq (dC, dI) [(cI, .int), (cB, .byte)] A (bW 0) of (kX10 cI cB bV (bP 0) (bS 0) (bW 0) (bN 0) (bO 0) mZ mY mB mL' mU mJ mK mG mA ++ kX8 cI cB bS mS' ++ kX9 cI cB bW mW')) (by decide) rfl rfl (Nat.le_of_ble_eq_true rfl) ?_
  intro p e s m below meth c ls A H locs C ht hK hA hP hD hS hl
  generalize hQ : vy_MQ below (zTQv (dC, dI) [(cI, .int), (cB, .byte)] A of (kX10 cI cB bV (bP 0) (bS 0) (bW 0) (bN 0) (bO 0) mZ mY mB mL' mU mJ mK mG mA ++ kX8 cI cB bS mS' ++ kX9 cI cB bW mW')) (zXq (dC, dI) [(cI, .int), (cB, .byte)] A (bW 0) of (kX10 cI cB bV (bP 0) (bS 0) (bW 0) (bN 0) (bO 0) mZ mY mB mL' mU mJ mK mG mA ++ kX8 cI cB bS mS' ++ kX9 cI cB bW mW')) _ s 0 0 A = QQ
  generalize ([.ref (bV 0)] : List Value).toArray = args at C hQ ⊢
  have hl : lv_has ls 3 [(0, .ref (bV 0))] := hl
  unfold fX10_readBlock at hf
  refine lv_aload_n C.1.1 C.1.2.1 dX10_readBlock_0 rfl (lv_at hl 0 rfl) ?_
  refine zGet (.int (mL 15 0)) C.1 wuX10 hK hP 0 rfl rfl 15 (by decide) wfX10_112 rfl rfl dX10_readBlock_1 ?_
  refine lv_iconst (v := 2) C.1.1 C.1.2.1 dX10_readBlock_4 (by decide) ?_
  refine lv_icmp_eq (tgt := 14) C.1.1 C.1.2.1 dX10_readBlock_5 (by decide) (fun hc => ?_) (fun hc => ?_)
  · replace hf := zIf_t hf hc
    refine lv_iconst (v := 0) C.1.1 C.1.2.1 dX10_readBlock_14 (by decide) ?_
    refine lv_istore_n (lv' := [(1, .int (0 : Int32)), (0, .ref (bV 0))]) C.1.1 C.1.2.1 dX10_readBlock_15 rfl hl (by decide) rfl (fun ls hl => ?_)
    obtain ⟨J47_1, eJ47_1, hf⟩ := zJn_el hf
    have hJ47_1 : ∀ (u : Unit), J47_1 u = some (of, mL', mS', mW') → ∀ (H : Heap) (locs : List Loc), va_P (dC, dI) vwCl (kX10 cI cB bV (bP 0) (bS 0) (bW 0) (bN 0) (bO 0) mZ mY mB mL mU mJ mK mG mA ++ kX8 cI cB bS mS ++ kX9 cI cB bW mW) H → va_D A (kX10 cI cB bV (bP 0) (bS 0) (bW 0) (bN 0) (bO 0) mZ mY mB mL mU mJ mK mG mA ++ kX8 cI cB bS mS ++ kX9 cI cB bW mW) → va_S A s.heap H locs → ∀ (ls : Array Slot), lv_has ls 3 [(0, .ref (bV 0))] → W p l e rX10_readBlock s m args below meth c H locs 0 0 QQ (F0 m 47 ls []) := by
      intro u hf H locs hP hD hS ls hl
      rw [eJ47_1] at hf
      refine lv_aload_n C.1.1 C.1.2.1 dX10_readBlock_47 rfl (lv_at hl 0 rfl) ?_
      refine zGet (.ref (bS 0)) C.1 wuX10 hK hP 0 rfl rfl 8 (by decide) wfX10_29 rfl rfl dX10_readBlock_48 ?_
      refine zGetN (.int (mS 0 0)) C.1 wuX8 hK hP 14 rfl rfl 0 (by decide) nfX10_146 rfl rfl dX10_readBlock_51 ?_
      refine lv_bipush (v := 12) C.1.1 C.1.2.1 dX10_readBlock_54 (by decide) ?_
      refine lv_icmp_ne (tgt := 65) C.1.1 C.1.2.1 dX10_readBlock_56 (by decide) (fun hc => ?_) (fun hc => ?_)
      · replace hf := zIf_f hf hc
        refine lv_aload_n C.1.1 C.1.2.1 dX10_readBlock_65 rfl (lv_at hl 0 rfl) ?_
        refine zGet (.ref (bS 0)) C.1 wuX10 hK hP 0 rfl rfl 8 (by decide) wfX10_29 rfl rfl dX10_readBlock_66 ?_
        refine zGetN (.int (mS 0 0)) C.1 wuX8 hK hP 14 rfl rfl 0 (by decide) nfX10_146 rfl rfl dX10_readBlock_69 ?_
        refine lv_topi (fun x2 ex2 => ?_)
        replace hf := zLet_at hf ex2
        refine lv_istore_n (lv' := [(1, .int x2), (0, .ref (bV 0))]) C.1.1 C.1.2.1 dX10_readBlock_72 rfl hl (by decide) rfl (fun ls hl => ?_)
        refine lv_aload_n C.1.1 C.1.2.1 dX10_readBlock_73 rfl (lv_at hl 1 rfl) ?_
        refine zGet (.ref (bS 0)) C.1 wuX10 hK hP 0 rfl rfl 8 (by decide) wfX10_29 rfl rfl dX10_readBlock_74 ?_
        refine zGetN (.ref (bS 1)) C.1 wuX8 hK hP 14 rfl rfl 3 (by decide) nfX10_158 rfl rfl dX10_readBlock_77 ?_
        refine lv_iload_n C.1.1 C.1.2.1 dX10_readBlock_80 rfl (lv_at hl 0 rfl) ?_
        refine lv_aload_n C.1.1 C.1.2.1 dX10_readBlock_81 rfl (lv_at hl 1 rfl) ?_
        refine zGet (.int (mL 19 0)) C.1 wuX10 hK hP 0 rfl rfl 19 (by decide) wfX10_122 rfl rfl dX10_readBlock_82 ?_
        obtain ⟨hib, hf⟩ := zGd_el hf
        obtain ⟨mS_3, emS_3, hf⟩ := zLet_el hf
        refine zIast (kX10 cI cB bV (bP 0) (bS 0) (bW 0) (bN 0) (bO 0) mZ mY mB mL mU mJ mK mG mA ++ kX8 cI cB bS mS_3 ++ kX9 cI cB bW mW) C.1 hK hP hD hS 15 0 rfl rfl hib dX10_readBlock_85 (by rw [emS_3]; rfl) (fun H locs hP hD hS => ?_)
        refine lv_iconst (v := 0) C.1.1 C.1.2.1 dX10_readBlock_86 (by decide) ?_
        refine lv_istore_n (lv' := [(2, .int (0 : Int32)), (1, .int x2), (0, .ref (bV 0))]) C.1.1 C.1.2.1 dX10_readBlock_87 rfl hl (by decide) rfl (fun ls hl => ?_)
        obtain ⟨J127_5, eJ127_5, hf⟩ := zJn_el hf
        have hJ127_5 : ∀ (mS_4 : Rc), J127_5 mS_4 = some (of, mL', mS', mW') → ∀ (H : Heap) (locs : List Loc), va_P (dC, dI) vwCl (kX10 cI cB bV (bP 0) (bS 0) (bW 0) (bN 0) (bO 0) mZ mY mB mL mU mJ mK mG mA ++ kX8 cI cB bS mS_4 ++ kX9 cI cB bW mW) H → va_D A (kX10 cI cB bV (bP 0) (bS 0) (bW 0) (bN 0) (bO 0) mZ mY mB mL mU mJ mK mG mA ++ kX8 cI cB bS mS_4 ++ kX9 cI cB bW mW) → va_S A s.heap H locs → ∀ (ls : Array Slot), lv_has ls 3 [(0, .ref (bV 0)), (1, .int x2)] → W p l e rX10_readBlock s m args below meth c H locs 0 0 QQ (F0 m 127 ls []) := by
          intro mS_4 hf H locs hP hD hS ls hl
          rw [eJ127_5] at hf
          refine lv_aload_n C.1.1 C.1.2.1 dX10_readBlock_127 rfl (lv_at hl 0 rfl) ?_
          obtain ⟨mL_6, hg, hf⟩ := zB1_el hf
          refine zCVv (As := []) (rest := []) (wr := (kX8 cI cB bS mS_4 ++ kX9 cI cB bW mW)) (wn := (kX10 cI cB bV (bP 0) (bS 0) (bW 0) (bN 0) (bO 0) mZ mY mB mL_6 mU mJ mK mG mA ++ kX8 cI cB bS mS_4 ++ kX9 cI cB bW mW)) C.1 hK hA hP hD hS [0, 1, 2, 3, 4, 5, 6, 7, 8, 9, 10, 11, 12, 13] [14, 15, 16, 17, 18, 19, 20, 21, 22, 23, 24, 25] [12, 13, 14, 15, 16, 17, 18, 19, 20, 21, 22, 23, 24, 25, 0, 1, 2, 3, 4, 5, 6, 7, 8, 9, 10, 11] 0 (mtX10_next l dC dI cI cB bV bP bS bW bN bO H.size NN mZ mY mB mL mU mJ mK mG mA hg) (zCwV 0 C.1 wlX10_140 wiX10_next ws_X10_next wnX10 wkX10_next rfl rfl (by decide +kernel) ⟨Nat.le_of_ble_eq_true rfl, Nat.le_of_ble_eq_true rfl⟩) rfl rfl (by decide +kernel) rfl rfl rfl rfl hl.1 (Nat.le_of_ble_eq_true rfl) dX10_readBlock_128 ⟨Nat.zero_le _, Nat.zero_le _⟩ rfl (fun H locs hP hD hS => ?_)
          refine lv_aload_n C.1.1 C.1.2.1 dX10_readBlock_131 rfl (lv_at hl 0 rfl) ?_
          refine zGet (.int (mL_6 15 0)) C.1 wuX10 hK hP 0 rfl rfl 15 (by decide) wfX10_112 rfl rfl dX10_readBlock_132 ?_
          refine lv_iconst (v := 3) C.1.1 C.1.2.1 dX10_readBlock_135 (by decide) ?_
          refine lv_icmp_eq (tgt := 145) C.1.1 C.1.2.1 dX10_readBlock_136 (by decide) (fun hc => ?_) (fun hc => ?_)
          · replace hf := zIf_t hf hc
            refine lv_aload_n C.1.1 C.1.2.1 dX10_readBlock_145 rfl (lv_at hl 0 rfl) ?_
            refine zGet (.int (mL_6 18 0)) C.1 wuX10 hK hP 0 rfl rfl 18 (by decide) wfX10_128 rfl rfl dX10_readBlock_146 ?_
            refine lv_iconst (v := 1) C.1.1 C.1.2.1 dX10_readBlock_149 (by decide) ?_
            refine lv_bipush (v := 50) C.1.1 C.1.2.1 dX10_readBlock_150 (by decide) ?_
            obtain ⟨v7, hg, hf⟩ := zB1_el hf
            refine zCSi (As := [.int (mL_6 18 0), .int (1 : Int32), .int (50 : Int32)]) (rest := []) (wr := (kX10 cI cB bV (bP 0) (bS 0) (bW 0) (bN 0) (bO 0) mZ mY mB mL_6 mU mJ mK mG mA ++ kX8 cI cB bS mS_4 ++ kX9 cI cB bW mW)) (wn := (kX10 cI cB bV (bP 0) (bS 0) (bW 0) (bN 0) (bO 0) mZ mY mB mL_6 mU mJ mK mG mA ++ kX8 cI cB bS mS_4 ++ kX9 cI cB bW mW)) C.1 hK hA hP hD hS [] [0, 1, 2, 3, 4, 5, 6, 7, 8, 9, 10, 11, 12, 13, 14, 15, 16, 17, 18, 19, 20, 21, 22, 23, 24, 25] [0, 1, 2, 3, 4, 5, 6, 7, 8, 9, 10, 11, 12, 13, 14, 15, 16, 17, 18, 19, 20, 21, 22, 23, 24, 25] (mtX10_in l dC dI cI cB H.size (mL_6 18 0) (1 : Int32) (50 : Int32) hg) (zCwS 3 C.1 wlX10_167 wtX10_in wnX10 wkX10_in rfl rfl (by decide +kernel) ⟨Nat.le_of_ble_eq_true rfl, Nat.le_of_ble_eq_true rfl⟩) rfl rfl (by decide +kernel) rfl rfl hl.1 (Nat.le_of_ble_eq_true rfl) dX10_readBlock_152 ⟨Nat.zero_le _, Nat.zero_le _⟩ rfl (fun H locs hP hD hS => ?_)
            refine lv_if_ne (tgt := 164) C.1.1 C.1.2.1 dX10_readBlock_155 (by decide) (fun hc => ?_) (fun hc => ?_)
            · replace hf := zIf_f hf hc
              refine lv_aload_n C.1.1 C.1.2.1 dX10_readBlock_164 rfl (lv_at hl 0 rfl) ?_
              refine zGet (.ref (bS 0)) C.1 wuX10 hK hP 0 rfl rfl 8 (by decide) wfX10_29 rfl rfl dX10_readBlock_165 ?_
              refine zGetN (.ref (bS 2)) C.1 wuX8 hK hP 14 rfl rfl 4 (by decide) nfX10_171 rfl rfl dX10_readBlock_168 ?_
              refine lv_iload_n C.1.1 C.1.2.1 dX10_readBlock_171 rfl (lv_at hl 1 rfl) ?_
              refine lv_aload_n C.1.1 C.1.2.1 dX10_readBlock_172 rfl (lv_at hl 0 rfl) ?_
              refine zGet (.int (mL_6 18 0)) C.1 wuX10 hK hP 0 rfl rfl 18 (by decide) wfX10_128 rfl rfl dX10_readBlock_173 ?_
              obtain ⟨hib, hf⟩ := zGd_el hf
              obtain ⟨mS_8, emS_8, hf⟩ := zLet_el hf
              refine zIast (kX10 cI cB bV (bP 0) (bS 0) (bW 0) (bN 0) (bO 0) mZ mY mB mL_6 mU mJ mK mG mA ++ kX8 cI cB bS mS_8 ++ kX9 cI cB bW mW) C.1 hK hP hD hS 16 0 rfl rfl hib dX10_readBlock_176 (by rw [emS_8]; rfl) (fun H locs hP hD hS => ?_)
              refine lv_aload_n C.1.1 C.1.2.1 dX10_readBlock_177 rfl (lv_at hl 0 rfl) ?_
              refine zGet (.ref (bS 0)) C.1 wuX10 hK hP 0 rfl rfl 8 (by decide) wfX10_29 rfl rfl dX10_readBlock_178 ?_
              refine zGetN (.ref (bS 3)) C.1 wuX8 hK hP 14 rfl rfl 5 (by decide) nfX10_174 rfl rfl dX10_readBlock_181 ?_
              refine lv_iload_n C.1.1 C.1.2.1 dX10_readBlock_184 rfl (lv_at hl 1 rfl) ?_
              refine lv_iconst (v := 0) C.1.1 C.1.2.1 dX10_readBlock_185 (by decide) ?_
              obtain ⟨hib, hf⟩ := zGd_el hf
              obtain ⟨mS_9, emS_9, hf⟩ := zLet_el hf
              refine zIast (kX10 cI cB bV (bP 0) (bS 0) (bW 0) (bN 0) (bO 0) mZ mY mB mL_6 mU mJ mK mG mA ++ kX8 cI cB bS mS_9 ++ kX9 cI cB bW mW) C.1 hK hP hD hS 17 0 rfl rfl hib dX10_readBlock_186 (by rw [emS_9]; rfl) (fun H locs hP hD hS => ?_)
              refine lv_aload_n C.1.1 C.1.2.1 dX10_readBlock_187 rfl (lv_at hl 0 rfl) ?_
              obtain ⟨mL_10, hg, hf⟩ := zB1_el hf
              refine zCVv (As := []) (rest := []) (wr := (kX8 cI cB bS mS_9 ++ kX9 cI cB bW mW)) (wn := (kX10 cI cB bV (bP 0) (bS 0) (bW 0) (bN 0) (bO 0) mZ mY mB mL_10 mU mJ mK mG mA ++ kX8 cI cB bS mS_9 ++ kX9 cI cB bW mW)) C.1 hK hA hP hD hS [0, 1, 2, 3, 4, 5, 6, 7, 8, 9, 10, 11, 12, 13] [14, 15, 16, 17, 18, 19, 20, 21, 22, 23, 24, 25] [12, 13, 14, 15, 16, 17, 18, 19, 20, 21, 22, 23, 24, 25, 0, 1, 2, 3, 4, 5, 6, 7, 8, 9, 10, 11] 0 (mtX10_next l dC dI cI cB bV bP bS bW bN bO H.size NN mZ mY mB mL_6 mU mJ mK mG mA hg) (zCwV 0 C.1 wlX10_140 wiX10_next ws_X10_next wnX10 wkX10_next rfl rfl (by decide +kernel) ⟨Nat.le_of_ble_eq_true rfl, Nat.le_of_ble_eq_true rfl⟩) rfl rfl (by decide +kernel) rfl rfl rfl rfl hl.1 (Nat.le_of_ble_eq_true rfl) dX10_readBlock_188 ⟨Nat.zero_le _, Nat.zero_le _⟩ rfl (fun H locs hP hD hS => ?_)
              refine lv_aload_n C.1.1 C.1.2.1 dX10_readBlock_191 rfl (lv_at hl 0 rfl) ?_
              refine lv_bipush (v := 123) C.1.1 C.1.2.1 dX10_readBlock_192 (by decide) ?_
              obtain ⟨fl11, mL_12, mW_13, hg, hf⟩ := zB3_el hf
              refine zCTv (As := [.int (123 : Int32)]) (rest := []) (wr := (kX8 cI cB bS mS_9)) (wn := (kX10 cI cB bV (bP 0) (bS 0) (bW 0) (bN 0) (bO 0) mZ mY mB mL_12 mU mJ mK mG mA ++ kX8 cI cB bS mS_9 ++ kX9 cI cB bW mW_13)) C.1 hK hA hP hD hS [0, 1, 2, 3, 4, 5, 6, 7, 8, 9, 10, 11, 12, 13, 25] [14, 15, 16, 17, 18, 19, 20, 21, 22, 23, 24] [11, 12, 13, 14, 15, 16, 17, 18, 19, 20, 21, 22, 23, 24, 0, 1, 2, 3, 4, 5, 6, 7, 8, 9, 10, 25] 0 (mtX10_need l dC dI cI cB bV bP bS bW bN bO H.size NN mZ mY mB mL_10 mU mJ mK mG mA mW (123 : Int32) hg) (zCwV 1 C.1 wlX10_177 wiX10_need ws_X10_need wnX10 wkX10_need rfl rfl (by decide +kernel) ⟨Nat.le_of_ble_eq_true rfl, Nat.le_of_ble_eq_true rfl⟩) rfl rfl (by decide +kernel) rfl rfl rfl rfl hl.1 (Nat.le_of_ble_eq_true rfl) dX10_readBlock_194 ⟨Nat.zero_le _, Nat.zero_le _⟩ rfl (fun hfl H locs ce hP hD hS g1 g2 g3 => ?_) (fun hfl H locs hP hD hS => ?_)
              · replace hf := zIf_t hf hfl
                cases hf
                rw [← hQ]
                exact zOut rfl C ht hK hP hD hS g1 g2 g3
              · replace hf := zIf_f hf (by rw [hfl]; decide)
                refine lv_iconst (v := 1) C.1.1 C.1.2.1 dX10_readBlock_197 (by decide) ?_
                refine lv_istore_n (lv' := [(2, .int (1 : Int32)), (0, .ref (bV 0)), (1, .int x2)]) C.1.1 C.1.2.1 dX10_readBlock_198 rfl hl (by decide) rfl (fun ls hl => ?_)
                obtain ⟨J226_17, eJ226_17, hf⟩ := zJn_el hf
                have hJ226_17 : ∀ (mL_14 : Rc) (mS_15 : Rc) (mW_16 : Rc), J226_17 mL_14 mS_15 mW_16 = some (of, mL', mS', mW') → ∀ (H : Heap) (locs : List Loc), va_P (dC, dI) vwCl (kX10 cI cB bV (bP 0) (bS 0) (bW 0) (bN 0) (bO 0) mZ mY mB mL_14 mU mJ mK mG mA ++ kX8 cI cB bS mS_15 ++ kX9 cI cB bW mW_16) H → va_D A (kX10 cI cB bV (bP 0) (bS 0) (bW 0) (bN 0) (bO 0) mZ mY mB mL_14 mU mJ mK mG mA ++ kX8 cI cB bS mS_15 ++ kX9 cI cB bW mW_16) → va_S A s.heap H locs → ∀ (ls : Array Slot), lv_has ls 3 [(0, .ref (bV 0))] → W p l e rX10_readBlock s m args below meth c H locs 0 0 QQ (F0 m 226 ls []) := by
                  intro mL_14 mS_15 mW_16 hf H locs hP hD hS ls hl
                  rw [eJ226_17] at hf
                  refine lv_aload_n C.1.1 C.1.2.1 dX10_readBlock_226 rfl (lv_at hl 0 rfl) ?_
                  refine lv_bipush (v := 125) C.1.1 C.1.2.1 dX10_readBlock_227 (by decide) ?_
                  obtain ⟨fl18, mL_19, mW_20, hg, hf⟩ := zB3_el hf
                  refine zCTv (As := [.int (125 : Int32)]) (rest := []) (wr := (kX8 cI cB bS mS_15)) (wn := (kX10 cI cB bV (bP 0) (bS 0) (bW 0) (bN 0) (bO 0) mZ mY mB mL_19 mU mJ mK mG mA ++ kX8 cI cB bS mS_15 ++ kX9 cI cB bW mW_20)) C.1 hK hA hP hD hS [0, 1, 2, 3, 4, 5, 6, 7, 8, 9, 10, 11, 12, 13, 25] [14, 15, 16, 17, 18, 19, 20, 21, 22, 23, 24] [11, 12, 13, 14, 15, 16, 17, 18, 19, 20, 21, 22, 23, 24, 0, 1, 2, 3, 4, 5, 6, 7, 8, 9, 10, 25] 0 (mtX10_need l dC dI cI cB bV bP bS bW bN bO H.size NN mZ mY mB mL_14 mU mJ mK mG mA mW_16 (125 : Int32) hg) (zCwV 1 C.1 wlX10_177 wiX10_need ws_X10_need wnX10 wkX10_need rfl rfl (by decide +kernel) ⟨Nat.le_of_ble_eq_true rfl, Nat.le_of_ble_eq_true rfl⟩) rfl rfl (by decide +kernel) rfl rfl rfl rfl hl.1 (Nat.le_of_ble_eq_true rfl) dX10_readBlock_229 ⟨Nat.zero_le _, Nat.zero_le _⟩ rfl (fun hfl H locs ce hP hD hS g1 g2 g3 => ?_) (fun hfl H locs hP hD hS => ?_)
                  · replace hf := zIf_t hf hfl
                    cases hf
                    rw [← hQ]
                    exact zOut rfl C ht hK hP hD hS g1 g2 g3
                  · replace hf := zIf_f hf (by rw [hfl]; decide)
                    refine lv_aload_n C.1.1 C.1.2.1 dX10_readBlock_232 rfl (lv_at hl 0 rfl) ?_
                    refine zGet (.ref (bS 0)) C.1 wuX10 hK hP 0 rfl rfl 8 (by decide) wfX10_29 rfl rfl dX10_readBlock_233 ?_
                    refine lv_dup C.1.1 C.1.2.1 dX10_readBlock_236 rfl ?_
                    refine zGetN (.int (mS_15 0 0)) C.1 wuX8 hK hP 14 rfl rfl 0 (by decide) nfX10_146 rfl rfl dX10_readBlock_237 ?_
                    refine lv_iconst (v := 1) C.1.1 C.1.2.1 dX10_readBlock_240 (by decide) ?_
                    refine lv_iadd C.1.1 C.1.2.1 dX10_readBlock_241 ?_
                    obtain ⟨mS_21, emS_21, hf⟩ := zLet_el hf
                    refine zPutN (ty := .int) (kX10 cI cB bV (bP 0) (bS 0) (bW 0) (bN 0) (bO 0) mZ mY mB mL_19 mU mJ mK mG mA ++ kX8 cI cB bS mS_21 ++ kX9 cI cB bW mW_20) C.1 wuX8 tyX8 tyX8_ok nmX8 hK hP hD hS 14 rfl rfl 0 (by decide) nfX10_146 rfl rfl (by decide +kernel) rfl rfl (Nat.le_of_ble_eq_true rfl) dX10_readBlock_242 (by rw [emS_21]; rfl) (fun H locs hP hD hS => ?_)
                    cases hf
                    rw [← hQ]
                    exact zRTv rfl C hK hP hD hS dX10_readBlock_245
                refine zLp4_ind (o := (of, mL', mS', mW')) (P := fun (x22 : Int32) (mL_23 : Rc) (mS_24 : Rc) (mW_25 : Rc) => ∀ (H : Heap) (locs : List Loc), va_P (dC, dI) vwCl (kX10 cI cB bV (bP 0) (bS 0) (bW 0) (bN 0) (bO 0) mZ mY mB mL_23 mU mJ mK mG mA ++ kX8 cI cB bS mS_24 ++ kX9 cI cB bW mW_25) H → va_D A (kX10 cI cB bV (bP 0) (bS 0) (bW 0) (bN 0) (bO 0) mZ mY mB mL_23 mU mJ mK mG mA ++ kX8 cI cB bS mS_24 ++ kX9 cI cB bW mW_25) → va_S A s.heap H locs → ∀ (ls : Array Slot), lv_has ls 3 [(0, .ref (bV 0)), (1, .int x2), (2, .int x22)] → W p l e rX10_readBlock s m args below meth c H locs 0 0 QQ (F0 m 199 ls [])) (fun go26 ihgo26 x22 mL_23 mS_24 mW_25 hf H locs hP hD hS ls hl => ?_) _ (1 : Int32) mL_12 mS_9 mW_13 hf H locs hP hD hS ls (lv_sub hl [1, 2, 0] rfl)
                refine lv_iload_n C.1.1 C.1.2.1 dX10_readBlock_199 rfl (lv_at hl 2 rfl) ?_
                refine lv_if_eq (tgt := 226) C.1.1 C.1.2.1 dX10_readBlock_200 (by decide) (fun hc => ?_) (fun hc => ?_)
                · replace hf := zIf_t hf hc
                  exact hJ226_17 mL_23 mS_24 mW_25 hf H locs hP hD hS ls (lv_sub hl [0] rfl)
                · replace hf := zIf_f hf hc
                  refine lv_aload_n C.1.1 C.1.2.1 dX10_readBlock_203 rfl (lv_at hl 0 rfl) ?_
                  refine lv_iload_n C.1.1 C.1.2.1 dX10_readBlock_204 rfl (lv_at hl 1 rfl) ?_
                  obtain ⟨fl27, mL_28, mS_29, mW_30, hg, hf⟩ := zB4_el hf
                  refine zCTv (As := [.int x2]) (rest := []) (wr := ([] : va_W)) (wn := (kX10 cI cB bV (bP 0) (bS 0) (bW 0) (bN 0) (bO 0) mZ mY mB mL_28 mU mJ mK mG mA ++ kX8 cI cB bS mS_29 ++ kX9 cI cB bW mW_30)) C.1 hK hA hP hD hS [0, 1, 2, 3, 4, 5, 6, 7, 8, 9, 10, 11, 12, 13, 14, 15, 16, 17, 18, 19, 20, 21, 22, 23, 24, 25] [] [0, 1, 2, 3, 4, 5, 6, 7, 8, 9, 10, 11, 12, 13, 14, 15, 16, 17, 18, 19, 20, 21, 22, 23, 24, 25] 0 (mtX10_readLine l dC dI cI cB bV bP bS bW bN bO H.size NN mZ mY mB mL_23 mU mJ mK mG mA mS_24 mW_25 x2 hg) (zCwV 1 C.1 wlX10_181 wiX10_readLine ws_X10_readLine wnX10 wkX10_readLine rfl rfl (by decide +kernel) ⟨Nat.le_of_ble_eq_true rfl, Nat.le_of_ble_eq_true rfl⟩) rfl rfl (by decide +kernel) rfl rfl rfl rfl hl.1 (Nat.le_of_ble_eq_true rfl) dX10_readBlock_205 ⟨Nat.zero_le _, Nat.zero_le _⟩ rfl (fun hfl H locs ce hP hD hS g1 g2 g3 => ?_) (fun hfl H locs hP hD hS => ?_)
                  · replace hf := zIf_t hf hfl
                    cases hf
                    rw [← hQ]
                    exact zOut rfl C ht hK hP hD hS g1 g2 g3
                  · replace hf := zIf_f hf (by rw [hfl]; decide)
                    refine lv_aload_n C.1.1 C.1.2.1 dX10_readBlock_208 rfl (lv_at hl 0 rfl) ?_
                    refine lv_bipush (v := 59) C.1.1 C.1.2.1 dX10_readBlock_209 (by decide) ?_
                    obtain ⟨v31, hg, hf⟩ := zB1_el hf
                    refine zCVi (As := [.int (59 : Int32)]) (rest := []) (wr := (kX8 cI cB bS mS_29 ++ kX9 cI cB bW mW_30)) (wn := (kX10 cI cB bV (bP 0) (bS 0) (bW 0) (bN 0) (bO 0) mZ mY mB mL_28 mU mJ mK mG mA ++ kX8 cI cB bS mS_29 ++ kX9 cI cB bW mW_30)) C.1 hK hA hP hD hS [0, 1, 2, 3, 4, 5, 6, 7, 8, 9, 10, 11, 12, 13] [14, 15, 16, 17, 18, 19, 20, 21, 22, 23, 24, 25] [12, 13, 14, 15, 16, 17, 18, 19, 20, 21, 22, 23, 24, 25, 0, 1, 2, 3, 4, 5, 6, 7, 8, 9, 10, 11] 0 (mtX10_is l dC dI cI cB bV bP bS bW bN bO H.size mZ mY mB mL_28 mU mJ mK mG mA (59 : Int32) hg) (zCwV 1 C.1 wlX10_134 wiX10_is ws_X10_is wnX10 wkX10_is rfl rfl (by decide +kernel) ⟨Nat.le_of_ble_eq_true rfl, Nat.le_of_ble_eq_true rfl⟩) rfl rfl (by decide +kernel) rfl rfl rfl rfl hl.1 (Nat.le_of_ble_eq_true rfl) dX10_readBlock_211 ⟨Nat.zero_le _, Nat.zero_le _⟩ rfl (fun H locs hP hD hS => ?_)
                    refine lv_istore_n (lv' := [(2, .int v31), (0, .ref (bV 0)), (1, .int x2)]) C.1.1 C.1.2.1 dX10_readBlock_214 rfl hl (by decide) rfl (fun ls hl => ?_)
                    refine lv_iload_n C.1.1 C.1.2.1 dX10_readBlock_215 rfl (lv_at hl 0 rfl) ?_
                    refine lv_if_eq (tgt := 199) C.1.1 C.1.2.1 dX10_readBlock_216 (by decide) (fun hc => ?_) (fun hc => ?_)
                    · replace hf := zIf_t hf hc
                      exact ihgo26 v31 mL_28 mS_29 mW_30 hf H locs hP hD hS ls (lv_sub hl [1, 2, 0] rfl)
                    · replace hf := zIf_f hf hc
                      refine lv_aload_n C.1.1 C.1.2.1 dX10_readBlock_219 rfl (lv_at hl 1 rfl) ?_
                      obtain ⟨mL_32, hg, hf⟩ := zB1_el hf
                      refine zCVv (As := []) (rest := []) (wr := (kX8 cI cB bS mS_29 ++ kX9 cI cB bW mW_30)) (wn := (kX10 cI cB bV (bP 0) (bS 0) (bW 0) (bN 0) (bO 0) mZ mY mB mL_32 mU mJ mK mG mA ++ kX8 cI cB bS mS_29 ++ kX9 cI cB bW mW_30)) C.1 hK hA hP hD hS [0, 1, 2, 3, 4, 5, 6, 7, 8, 9, 10, 11, 12, 13] [14, 15, 16, 17, 18, 19, 20, 21, 22, 23, 24, 25] [12, 13, 14, 15, 16, 17, 18, 19, 20, 21, 22, 23, 24, 25, 0, 1, 2, 3, 4, 5, 6, 7, 8, 9, 10, 11] 0 (mtX10_next l dC dI cI cB bV bP bS bW bN bO H.size NN mZ mY mB mL_28 mU mJ mK mG mA hg) (zCwV 0 C.1 wlX10_140 wiX10_next ws_X10_next wnX10 wkX10_next rfl rfl (by decide +kernel) ⟨Nat.le_of_ble_eq_true rfl, Nat.le_of_ble_eq_true rfl⟩) rfl rfl (by decide +kernel) rfl rfl rfl rfl hl.1 (Nat.le_of_ble_eq_true rfl) dX10_readBlock_220 ⟨Nat.zero_le _, Nat.zero_le _⟩ rfl (fun H locs hP hD hS => ?_)
                      refine lv_goto (tgt := 199) C.1.1 C.1.2.1 dX10_readBlock_223 (by decide) ?_
                      exact ihgo26 v31 mL_32 mS_29 mW_30 hf H locs hP hD hS ls (lv_sub hl [1, 2, 0] rfl)
            · replace hf := zIf_t hf hc
              refine lv_aload_n C.1.1 C.1.2.1 dX10_readBlock_158 rfl (lv_at hl 0 rfl) ?_
              refine lv_iconst (v := 4) C.1.1 C.1.2.1 dX10_readBlock_159 (by decide) ?_
              obtain ⟨mW_33, hg, hf⟩ := zB1_el hf
              refine zCVr (As := [.int (4 : Int32)]) (rest := []) (wr := (kX8 cI cB bS mS_4)) (wn := (kX10 cI cB bV (bP 0) (bS 0) (bW 0) (bN 0) (bO 0) mZ mY mB mL_6 mU mJ mK mG mA ++ kX8 cI cB bS mS_4 ++ kX9 cI cB bW mW_33)) C.1 hK hA hP hD hS [0, 1, 2, 3, 4, 5, 6, 7, 8, 9, 10, 11, 12, 13, 25] [14, 15, 16, 17, 18, 19, 20, 21, 22, 23, 24] [11, 12, 13, 14, 15, 16, 17, 18, 19, 20, 21, 22, 23, 24, 0, 1, 2, 3, 4, 5, 6, 7, 8, 9, 10, 25] 0 (mtX10_stop l dC dI cI cB bV bP bS bW bN bO H.size mZ mY mB mL_6 mU mJ mK mG mA mW (4 : Int32) hg) (zCwV 1 C.1 wlX10_137 wiX10_stop ws_X10_stop wnX10 wkX10_stop rfl rfl (by decide +kernel) ⟨Nat.le_of_ble_eq_true rfl, Nat.le_of_ble_eq_true rfl⟩) rfl rfl (by decide +kernel) rfl rfl rfl rfl hl.1 (Nat.le_of_ble_eq_true rfl) dX10_readBlock_160 ⟨Nat.zero_le _, Nat.zero_le _⟩ rfl (fun H locs hP hD hS => ?_)
              cases hf
              rw [← hQ]
              exact zThr 25 rfl C ht hK hP hD hS rfl dX10_readBlock_163
          · replace hf := zIf_f hf hc
            refine lv_aload_n C.1.1 C.1.2.1 dX10_readBlock_139 rfl (lv_at hl 0 rfl) ?_
            refine lv_iconst (v := 1) C.1.1 C.1.2.1 dX10_readBlock_140 (by decide) ?_
            obtain ⟨mW_34, hg, hf⟩ := zB1_el hf
            refine zCVr (As := [.int (1 : Int32)]) (rest := []) (wr := (kX8 cI cB bS mS_4)) (wn := (kX10 cI cB bV (bP 0) (bS 0) (bW 0) (bN 0) (bO 0) mZ mY mB mL_6 mU mJ mK mG mA ++ kX8 cI cB bS mS_4 ++ kX9 cI cB bW mW_34)) C.1 hK hA hP hD hS [0, 1, 2, 3, 4, 5, 6, 7, 8, 9, 10, 11, 12, 13, 25] [14, 15, 16, 17, 18, 19, 20, 21, 22, 23, 24] [11, 12, 13, 14, 15, 16, 17, 18, 19, 20, 21, 22, 23, 24, 0, 1, 2, 3, 4, 5, 6, 7, 8, 9, 10, 25] 0 (mtX10_stop l dC dI cI cB bV bP bS bW bN bO H.size mZ mY mB mL_6 mU mJ mK mG mA mW (1 : Int32) hg) (zCwV 1 C.1 wlX10_137 wiX10_stop ws_X10_stop wnX10 wkX10_stop rfl rfl (by decide +kernel) ⟨Nat.le_of_ble_eq_true rfl, Nat.le_of_ble_eq_true rfl⟩) rfl rfl (by decide +kernel) rfl rfl rfl rfl hl.1 (Nat.le_of_ble_eq_true rfl) dX10_readBlock_141 ⟨Nat.zero_le _, Nat.zero_le _⟩ rfl (fun H locs hP hD hS => ?_)
            cases hf
            rw [← hQ]
            exact zThr 25 rfl C ht hK hP hD hS rfl dX10_readBlock_144
        refine zLp2_ind (o := (of, mL', mS', mW')) (P := fun (x35 : Int32) (mS_36 : Rc) => ∀ (H : Heap) (locs : List Loc), va_P (dC, dI) vwCl (kX10 cI cB bV (bP 0) (bS 0) (bW 0) (bN 0) (bO 0) mZ mY mB mL mU mJ mK mG mA ++ kX8 cI cB bS mS_36 ++ kX9 cI cB bW mW) H → va_D A (kX10 cI cB bV (bP 0) (bS 0) (bW 0) (bN 0) (bO 0) mZ mY mB mL mU mJ mK mG mA ++ kX8 cI cB bS mS_36 ++ kX9 cI cB bW mW) → va_S A s.heap H locs → ∀ (ls : Array Slot), lv_has ls 3 [(0, .ref (bV 0)), (1, .int x2), (2, .int x35)] → W p l e rX10_readBlock s m args below meth c H locs 0 0 QQ (F0 m 88 ls [])) (fun go37 ihgo37 x35 mS_36 hf H locs hP hD hS ls hl => ?_) _ (0 : Int32) mS_3 hf H locs hP hD hS ls (lv_sub hl [2, 1, 0] rfl)
        refine lv_iload_n C.1.1 C.1.2.1 dX10_readBlock_88 rfl (lv_at hl 2 rfl) ?_
        refine lv_aload_n C.1.1 C.1.2.1 dX10_readBlock_89 rfl (lv_at hl 0 rfl) ?_
        refine zGet (.int (mL 19 0)) C.1 wuX10 hK hP 0 rfl rfl 19 (by decide) wfX10_122 rfl rfl dX10_readBlock_90 ?_
        refine lv_icmp_ge (tgt := 127) C.1.1 C.1.2.1 dX10_readBlock_93 (by decide) (fun hc => ?_) (fun hc => ?_)
        · replace hf := zIf_t hf hc
          exact hJ127_5 mS_36 hf H locs hP hD hS ls (lv_sub hl [0, 1] rfl)
        · replace hf := zIf_f hf hc
          refine lv_aload_n C.1.1 C.1.2.1 dX10_readBlock_96 rfl (lv_at hl 0 rfl) ?_
          refine zGet (.ref (bS 0)) C.1 wuX10 hK hP 0 rfl rfl 8 (by decide) wfX10_29 rfl rfl dX10_readBlock_97 ?_
          refine zGetN (.ref (bS 4)) C.1 wuX8 hK hP 14 rfl rfl 6 (by decide) nfX10_161 rfl rfl dX10_readBlock_100 ?_
          refine lv_bipush (v := 8) C.1.1 C.1.2.1 dX10_readBlock_103 (by decide) ?_
          refine lv_iload_n C.1.1 C.1.2.1 dX10_readBlock_105 rfl (lv_at hl 1 rfl) ?_
          refine lv_imul C.1.1 C.1.2.1 dX10_readBlock_106 ?_
          refine lv_iload_n C.1.1 C.1.2.1 dX10_readBlock_107 rfl (lv_at hl 2 rfl) ?_
          refine lv_iadd C.1.1 C.1.2.1 dX10_readBlock_108 ?_
          refine lv_aload_n C.1.1 C.1.2.1 dX10_readBlock_109 rfl (lv_at hl 0 rfl) ?_
          refine zGet (.ref (bV 1)) C.1 wuX10 hK hP 0 rfl rfl 11 (by decide) wfX10_39 rfl rfl dX10_readBlock_110 ?_
          refine lv_aload_n C.1.1 C.1.2.1 dX10_readBlock_113 rfl (lv_at hl 0 rfl) ?_
          refine zGet (.int (mL 16 0)) C.1 wuX10 hK hP 0 rfl rfl 16 (by decide) wfX10_95 rfl rfl dX10_readBlock_114 ?_
          refine lv_iload_n C.1.1 C.1.2.1 dX10_readBlock_117 rfl (lv_at hl 2 rfl) ?_
          refine lv_iadd C.1.1 C.1.2.1 dX10_readBlock_118 ?_
          obtain ⟨hib, hf⟩ := zGd_el hf
          refine va_bald C.1.1 C.1.2.1 hK.1 hP 1 1 rfl rfl hib dX10_readBlock_119 ?_
          obtain ⟨hib, hf⟩ := zGd_el hf
          obtain ⟨mS_38, emS_38, hf⟩ := zLet_el hf
          refine zBast (kX10 cI cB bV (bP 0) (bS 0) (bW 0) (bN 0) (bO 0) mZ mY mB mL mU mJ mK mG mA ++ kX8 cI cB bS mS_38 ++ kX9 cI cB bW mW) C.1 hK hP hD hS 18 1 rfl rfl hib dX10_readBlock_120 (by rw [emS_38]; rfl) (fun H locs hP hD hS => ?_)
          obtain ⟨x39, ex39, hf⟩ := zLet_el hf
          refine lv_iinc (v := x39) (lv' := [(2, .int x39), (0, .ref (bV 0)), (1, .int x2)]) C.1.1 C.1.2.1 dX10_readBlock_121 hl (k := 2) rfl (by rw [ex39]; rfl) (by decide) rfl (fun ls hl => ?_)
          refine lv_goto (tgt := 88) C.1.1 C.1.2.1 dX10_readBlock_124 (by decide) ?_
          exact ihgo37 x39 mS_38 hf H locs hP hD hS ls (lv_sub hl [1, 2, 0] rfl)
      · replace hf := zIf_t hf hc
        refine lv_aload_n C.1.1 C.1.2.1 dX10_readBlock_59 rfl (lv_at hl 0 rfl) ?_
        refine lv_iconst (v := 5) C.1.1 C.1.2.1 dX10_readBlock_60 (by decide) ?_
        obtain ⟨mW_40, hg, hf⟩ := zB1_el hf
        refine zCVr (As := [.int (5 : Int32)]) (rest := []) (wr := (kX8 cI cB bS mS)) (wn := (kX10 cI cB bV (bP 0) (bS 0) (bW 0) (bN 0) (bO 0) mZ mY mB mL mU mJ mK mG mA ++ kX8 cI cB bS mS ++ kX9 cI cB bW mW_40)) C.1 hK hA hP hD hS [0, 1, 2, 3, 4, 5, 6, 7, 8, 9, 10, 11, 12, 13, 25] [14, 15, 16, 17, 18, 19, 20, 21, 22, 23, 24] [11, 12, 13, 14, 15, 16, 17, 18, 19, 20, 21, 22, 23, 24, 0, 1, 2, 3, 4, 5, 6, 7, 8, 9, 10, 25] 0 (mtX10_stop l dC dI cI cB bV bP bS bW bN bO H.size mZ mY mB mL mU mJ mK mG mA mW (5 : Int32) hg) (zCwV 1 C.1 wlX10_137 wiX10_stop ws_X10_stop wnX10 wkX10_stop rfl rfl (by decide +kernel) ⟨Nat.le_of_ble_eq_true rfl, Nat.le_of_ble_eq_true rfl⟩) rfl rfl (by decide +kernel) rfl rfl rfl rfl hl.1 (Nat.le_of_ble_eq_true rfl) dX10_readBlock_61 ⟨Nat.zero_le _, Nat.zero_le _⟩ rfl (fun H locs hP hD hS => ?_)
        cases hf
        rw [← hQ]
        exact zThr 25 rfl C ht hK hP hD hS rfl dX10_readBlock_64
    refine zLp1_ind (o := (of, mL', mS', mW')) (P := fun (x41 : Int32) => ∀ (H : Heap) (locs : List Loc), va_P (dC, dI) vwCl (kX10 cI cB bV (bP 0) (bS 0) (bW 0) (bN 0) (bO 0) mZ mY mB mL mU mJ mK mG mA ++ kX8 cI cB bS mS ++ kX9 cI cB bW mW) H → va_D A (kX10 cI cB bV (bP 0) (bS 0) (bW 0) (bN 0) (bO 0) mZ mY mB mL mU mJ mK mG mA ++ kX8 cI cB bS mS ++ kX9 cI cB bW mW) → va_S A s.heap H locs → ∀ (ls : Array Slot), lv_has ls 3 [(0, .ref (bV 0)), (1, .int x41)] → W p l e rX10_readBlock s m args below meth c H locs 0 0 QQ (F0 m 16 ls [])) (fun go42 ihgo42 x41 hf H locs hP hD hS ls hl => ?_) _ (0 : Int32) hf H locs hP hD hS ls (lv_sub hl [1, 0] rfl)
    refine lv_iload_n C.1.1 C.1.2.1 dX10_readBlock_16 rfl (lv_at hl 1 rfl) ?_
    refine lv_aload_n C.1.1 C.1.2.1 dX10_readBlock_17 rfl (lv_at hl 0 rfl) ?_
    refine zGet (.ref (bS 0)) C.1 wuX10 hK hP 0 rfl rfl 8 (by decide) wfX10_29 rfl rfl dX10_readBlock_18 ?_
    refine zGetN (.int (mS 0 0)) C.1 wuX8 hK hP 14 rfl rfl 0 (by decide) nfX10_146 rfl rfl dX10_readBlock_21 ?_
    refine lv_icmp_ge (tgt := 47) C.1.1 C.1.2.1 dX10_readBlock_24 (by decide) (fun hc => ?_) (fun hc => ?_)
    · replace hf := zIf_t hf hc
      exact hJ47_1 () hf H locs hP hD hS ls (lv_sub hl [0] rfl)
    · replace hf := zIf_f hf hc
      refine lv_aload_n C.1.1 C.1.2.1 dX10_readBlock_27 rfl (lv_at hl 0 rfl) ?_
      refine lv_iload_n C.1.1 C.1.2.1 dX10_readBlock_28 rfl (lv_at hl 1 rfl) ?_
      obtain ⟨v43, hg, hf⟩ := zB1_el hf
      refine zCVi (As := [.int x41]) (rest := []) (wr := (kX9 cI cB bW mW)) (wn := (kX10 cI cB bV (bP 0) (bS 0) (bW 0) (bN 0) (bO 0) mZ mY mB mL mU mJ mK mG mA ++ kX8 cI cB bS mS ++ kX9 cI cB bW mW)) C.1 hK hA hP hD hS [0, 1, 2, 3, 4, 5, 6, 7, 8, 9, 10, 11, 12, 13, 14, 15, 16, 17, 18, 19, 20, 21, 22, 23, 24] [25] [1, 2, 3, 4, 5, 6, 7, 8, 9, 10, 11, 12, 13, 14, 15, 16, 17, 18, 19, 20, 21, 22, 23, 24, 25, 0] 0 (mtX10_isName l dC dI cI cB bV bP bS bW bN bO H.size NN mZ mY mB mL mU mJ mK mG mA mS x41 hg) (zCwV 1 C.1 wlX10_164 wiX10_isName ws_X10_isName wnX10 wkX10_isName rfl rfl (by decide +kernel) ⟨Nat.le_of_ble_eq_true rfl, Nat.le_of_ble_eq_true rfl⟩) rfl rfl (by decide +kernel) rfl rfl rfl rfl hl.1 (Nat.le_of_ble_eq_true rfl) dX10_readBlock_29 ⟨Nat.zero_le _, Nat.zero_le _⟩ rfl (fun H locs hP hD hS => ?_)
      refine lv_if_eq (tgt := 41) C.1.1 C.1.2.1 dX10_readBlock_32 (by decide) (fun hc => ?_) (fun hc => ?_)
      · replace hf := zIf_t hf hc
        obtain ⟨x44, ex44, hf⟩ := zLet_el hf
        refine lv_iinc (v := x44) (lv' := [(1, .int x44), (0, .ref (bV 0))]) C.1.1 C.1.2.1 dX10_readBlock_41 hl (k := 1) rfl (by rw [ex44]; rfl) (by decide) rfl (fun ls hl => ?_)
        refine lv_goto (tgt := 16) C.1.1 C.1.2.1 dX10_readBlock_44 (by decide) ?_
        exact ihgo42 x44 hf H locs hP hD hS ls (lv_sub hl [1, 0] rfl)
      · replace hf := zIf_f hf hc
        refine lv_aload_n C.1.1 C.1.2.1 dX10_readBlock_35 rfl (lv_at hl 0 rfl) ?_
        refine lv_iconst (v := 3) C.1.1 C.1.2.1 dX10_readBlock_36 (by decide) ?_
        obtain ⟨mW_45, hg, hf⟩ := zB1_el hf
        refine zCVr (As := [.int (3 : Int32)]) (rest := []) (wr := (kX8 cI cB bS mS)) (wn := (kX10 cI cB bV (bP 0) (bS 0) (bW 0) (bN 0) (bO 0) mZ mY mB mL mU mJ mK mG mA ++ kX8 cI cB bS mS ++ kX9 cI cB bW mW_45)) C.1 hK hA hP hD hS [0, 1, 2, 3, 4, 5, 6, 7, 8, 9, 10, 11, 12, 13, 25] [14, 15, 16, 17, 18, 19, 20, 21, 22, 23, 24] [11, 12, 13, 14, 15, 16, 17, 18, 19, 20, 21, 22, 23, 24, 0, 1, 2, 3, 4, 5, 6, 7, 8, 9, 10, 25] 0 (mtX10_stop l dC dI cI cB bV bP bS bW bN bO H.size mZ mY mB mL mU mJ mK mG mA mW (3 : Int32) hg) (zCwV 1 C.1 wlX10_137 wiX10_stop ws_X10_stop wnX10 wkX10_stop rfl rfl (by decide +kernel) ⟨Nat.le_of_ble_eq_true rfl, Nat.le_of_ble_eq_true rfl⟩) rfl rfl (by decide +kernel) rfl rfl rfl rfl hl.1 (Nat.le_of_ble_eq_true rfl) dX10_readBlock_37 ⟨Nat.zero_le _, Nat.zero_le _⟩ rfl (fun H locs hP hD hS => ?_)
        cases hf
        rw [← hQ]
        exact zThr 25 rfl C ht hK hP hD hS rfl dX10_readBlock_40
  · replace hf := zIf_f hf hc
    refine lv_aload_n C.1.1 C.1.2.1 dX10_readBlock_8 rfl (lv_at hl 0 rfl) ?_
    refine lv_iconst (v := 1) C.1.1 C.1.2.1 dX10_readBlock_9 (by decide) ?_
    obtain ⟨mW_46, hg, hf⟩ := zB1_el hf
    refine zCVr (As := [.int (1 : Int32)]) (rest := []) (wr := (kX8 cI cB bS mS)) (wn := (kX10 cI cB bV (bP 0) (bS 0) (bW 0) (bN 0) (bO 0) mZ mY mB mL mU mJ mK mG mA ++ kX8 cI cB bS mS ++ kX9 cI cB bW mW_46)) C.1 hK hA hP hD hS [0, 1, 2, 3, 4, 5, 6, 7, 8, 9, 10, 11, 12, 13, 25] [14, 15, 16, 17, 18, 19, 20, 21, 22, 23, 24] [11, 12, 13, 14, 15, 16, 17, 18, 19, 20, 21, 22, 23, 24, 0, 1, 2, 3, 4, 5, 6, 7, 8, 9, 10, 25] 0 (mtX10_stop l dC dI cI cB bV bP bS bW bN bO H.size mZ mY mB mL mU mJ mK mG mA mW (1 : Int32) hg) (zCwV 1 C.1 wlX10_137 wiX10_stop ws_X10_stop wnX10 wkX10_stop rfl rfl (by decide +kernel) ⟨Nat.le_of_ble_eq_true rfl, Nat.le_of_ble_eq_true rfl⟩) rfl rfl (by decide +kernel) rfl rfl rfl rfl hl.1 (Nat.le_of_ble_eq_true rfl) dX10_readBlock_10 ⟨Nat.zero_le _, Nat.zero_le _⟩ rfl (fun H locs hP hD hS => ?_)
    cases hf
    rw [← hQ]
    exact zThr 25 rfl C ht hK hP hD hS rfl dX10_readBlock_13
def fX10_reads_L35 (mB : Rc) (NN : Nat) (J60_9 : Rc → Rc → Rc → Option (Int32 × Rc × Rc × Rc)) (n : Nat) (x10 : Int32) (mL_11 : Rc) (mS_12 : Rc) (mW_13 : Rc) : Option (Int32 × Rc × Rc × Rc) := zLp4 (fun (go14 : Int32 → Rc → Rc → Rc → Option (Int32 × Rc × Rc × Rc)) (x10 : Int32) (mL_11 : Rc) (mS_12 : Rc) (mW_13 : Rc) =>
    if x10 = 0 then (
      J60_9 mL_11 mS_12 mW_13
    ) else (
      zB4 (fX10_readBlock NN mB mL_11 mS_12 mW_13) fun fl15 mL_16 mS_17 mW_18 =>
      if fl15 = 1 then (
        some ((1 : Int32), mL_16, mS_17, mW_18)
      ) else (
        if (mL_16 15 0) = (1 : Int32) then (
          go14 (0 : Int32) mL_16 mS_17 mW_18
        ) else (
          go14 (1 : Int32) mL_16 mS_17 mW_18
        )
      )
    )
  ) n x10 mL_11 mS_12 mW_13
def fX10_reads (NN : Nat) (mB : Rc) (mL : Rc) (mS : Rc) (mW : Rc) : Option (Int32 × Rc × Rc × Rc) :=
  zLet (rs mS 0 (fun _ => (0 : Int32))) fun mS_1 =>
  zLet (rs mS_1 1 (fun _ => (0 : Int32))) fun mS_2 =>
  zLet (rs mS_2 2 (fun _ => (0 : Int32))) fun mS_3 =>
  zLet (rs mL 20 (fun _ => (0 : Int32))) fun mL_4 =>
  zB1 (fX10_next NN mB mL_4) fun mL_5 =>
  zJn (fun (mL_6 : Rc) (mS_7 : Rc) (mW_8 : Rc) =>
      some ((0 : Int32), mL_6, mS_7, mW_8)
    ) fun J60_9 =>
  fX10_reads_L35 mB NN J60_9 NN (1 : Int32) mL_5 mS_3 mW
abbrev rX10_reads : Room := { frames := 32, cells := 0, slots := 0, locals := 773 }
set_option maxHeartbeats 4000000 in
set_option maxRecDepth 100000 in
theorem mtX10_reads (l : Launch) (dC : Nat → ClassId) (dI : Nat → Nat → Nat) (cI cB : ClassId) (bV bP bS bW bN bO : Nat → Nat) (sz : Nat) (NN : Nat) (mZ : Rc) (mY : Rc) (mB : Rc) (mL : Rc) (mU : Rc) (mJ : Rc) (mK : Rc) (mG : Rc) (mA : Rc) (mS : Rc) (mW : Rc) {of : Int32} {mL' : Rc} {mS' : Rc} {mW' : Rc} (hf : fX10_reads NN mB mL mS mW = some (of, mL', mS', mW')) : zTv l yX10_reads (Cond.code yX10_reads cX10_reads 2 none :: lw_g) rX10_reads (dC, dI) [(cI, .int), (cB, .byte)] [.ref (bV 0)] sz (kX10 cI cB bV (bP 0) (bS 0) (bW 0) (bN 0) (bO 0) mZ mY mB mL mU mJ mK mG mA ++ kX8 cI cB bS mS ++ kX9 cI cB bW mW) (bW 0) of (kX10 cI cB bV (bP 0) (bS 0) (bW 0) (bN 0) (bO 0) mZ mY mB mL' mU mJ mK mG mA ++ kX8 cI cB bS mS' ++ kX9 cI cB bW mW') := by
  refine zStT (cc := cX10_reads) (maxL := 2) (ret := none) (own := RX10) (fun A => zTQv (dC, dI) [(cI, .int), (cB, .byte)] A of (kX10 cI cB bV (bP 0) (bS 0) (bW 0) (bN 0) (bO 0) mZ mY mB mL' mU mJ mK mG mA ++ kX8 cI cB bS mS' ++ kX9 cI cB bW mW')) (fun A => zXq (dC, dI) [(cI, .int), (cB, .byte)] A (bW 0) of (kX10 cI cB bV (bP 0) (bS 0) (bW 0) (bN 0) (bO 0) mZ mY mB mL' mU mJ mK mG mA ++ kX8 cI cB bS mS' ++ kX9 cI cB bW mW')) (by decide) rfl rfl (Nat.le_of_ble_eq_true rfl) ?_
  intro p e s m below meth c ls A H locs C ht hK hA hP hD hS hl
  generalize hQ : vy_MQ below (zTQv (dC, dI) [(cI, .int), (cB, .byte)] A of (kX10 cI cB bV (bP 0) (bS 0) (bW 0) (bN 0) (bO 0) mZ mY mB mL' mU mJ mK mG mA ++ kX8 cI cB bS mS' ++ kX9 cI cB bW mW')) (zXq (dC, dI) [(cI, .int), (cB, .byte)] A (bW 0) of (kX10 cI cB bV (bP 0) (bS 0) (bW 0) (bN 0) (bO 0) mZ mY mB mL' mU mJ mK mG mA ++ kX8 cI cB bS mS' ++ kX9 cI cB bW mW')) _ s 0 0 A = QQ
  generalize ([.ref (bV 0)] : List Value).toArray = args at C hQ ⊢
  have hl : lv_has ls 2 [(0, .ref (bV 0))] := hl
  unfold fX10_reads at hf
  refine lv_aload_n C.1.1 C.1.2.1 dX10_reads_0 rfl (lv_at hl 0 rfl) ?_
  refine zGet (.ref (bS 0)) C.1 wuX10 hK hP 0 rfl rfl 8 (by decide) wfX10_29 rfl rfl dX10_reads_1 ?_
  refine lv_iconst (v := 0) C.1.1 C.1.2.1 dX10_reads_4 (by decide) ?_
  obtain ⟨mS_1, emS_1, hf⟩ := zLet_el hf
  refine zPutN (ty := .int) (kX10 cI cB bV (bP 0) (bS 0) (bW 0) (bN 0) (bO 0) mZ mY mB mL mU mJ mK mG mA ++ kX8 cI cB bS mS_1 ++ kX9 cI cB bW mW) C.1 wuX8 tyX8 tyX8_ok nmX8 hK hP hD hS 14 rfl rfl 0 (by decide) nfX10_146 rfl rfl (by decide +kernel) rfl rfl (Nat.le_of_ble_eq_true rfl) dX10_reads_5 (by rw [emS_1]; rfl) (fun H locs hP hD hS => ?_)
  refine lv_aload_n C.1.1 C.1.2.1 dX10_reads_8 rfl (lv_at hl 0 rfl) ?_
  refine zGet (.ref (bS 0)) C.1 wuX10 hK hP 0 rfl rfl 8 (by decide) wfX10_29 rfl rfl dX10_reads_9 ?_
  refine lv_iconst (v := 0) C.1.1 C.1.2.1 dX10_reads_12 (by decide) ?_
  obtain ⟨mS_2, emS_2, hf⟩ := zLet_el hf
  refine zPutN (ty := .int) (kX10 cI cB bV (bP 0) (bS 0) (bW 0) (bN 0) (bO 0) mZ mY mB mL mU mJ mK mG mA ++ kX8 cI cB bS mS_2 ++ kX9 cI cB bW mW) C.1 wuX8 tyX8 tyX8_ok nmX8 hK hP hD hS 14 rfl rfl 1 (by decide) nfX10_149 rfl rfl (by decide +kernel) rfl rfl (Nat.le_of_ble_eq_true rfl) dX10_reads_13 (by rw [emS_2]; rfl) (fun H locs hP hD hS => ?_)
  refine lv_aload_n C.1.1 C.1.2.1 dX10_reads_16 rfl (lv_at hl 0 rfl) ?_
  refine zGet (.ref (bS 0)) C.1 wuX10 hK hP 0 rfl rfl 8 (by decide) wfX10_29 rfl rfl dX10_reads_17 ?_
  refine lv_iconst (v := 0) C.1.1 C.1.2.1 dX10_reads_20 (by decide) ?_
  obtain ⟨mS_3, emS_3, hf⟩ := zLet_el hf
  refine zPutN (ty := .int) (kX10 cI cB bV (bP 0) (bS 0) (bW 0) (bN 0) (bO 0) mZ mY mB mL mU mJ mK mG mA ++ kX8 cI cB bS mS_3 ++ kX9 cI cB bW mW) C.1 wuX8 tyX8 tyX8_ok nmX8 hK hP hD hS 14 rfl rfl 2 (by decide) nfX10_143 rfl rfl (by decide +kernel) rfl rfl (Nat.le_of_ble_eq_true rfl) dX10_reads_21 (by rw [emS_3]; rfl) (fun H locs hP hD hS => ?_)
  refine lv_aload_n C.1.1 C.1.2.1 dX10_reads_24 rfl (lv_at hl 0 rfl) ?_
  refine lv_iconst (v := 0) C.1.1 C.1.2.1 dX10_reads_25 (by decide) ?_
  obtain ⟨mL_4, emL_4, hf⟩ := zLet_el hf
  refine zPut (ty := .int) (kX10 cI cB bV (bP 0) (bS 0) (bW 0) (bN 0) (bO 0) mZ mY mB mL_4 mU mJ mK mG mA ++ kX8 cI cB bS mS_3 ++ kX9 cI cB bW mW) C.1 wuX10 tyX10 tyX10_ok nmX10 hK hP hD hS 0 rfl rfl 20 (by decide) wfX10_152 rfl rfl (by decide +kernel) rfl rfl (Nat.le_of_ble_eq_true rfl) dX10_reads_26 (by rw [emL_4]; rfl) (fun H locs hP hD hS => ?_)
  refine lv_aload_n C.1.1 C.1.2.1 dX10_reads_29 rfl (lv_at hl 0 rfl) ?_
  obtain ⟨mL_5, hg, hf⟩ := zB1_el hf
  refine zCVv (As := []) (rest := []) (wr := (kX8 cI cB bS mS_3 ++ kX9 cI cB bW mW)) (wn := (kX10 cI cB bV (bP 0) (bS 0) (bW 0) (bN 0) (bO 0) mZ mY mB mL_5 mU mJ mK mG mA ++ kX8 cI cB bS mS_3 ++ kX9 cI cB bW mW)) C.1 hK hA hP hD hS [0, 1, 2, 3, 4, 5, 6, 7, 8, 9, 10, 11, 12, 13] [14, 15, 16, 17, 18, 19, 20, 21, 22, 23, 24, 25] [12, 13, 14, 15, 16, 17, 18, 19, 20, 21, 22, 23, 24, 25, 0, 1, 2, 3, 4, 5, 6, 7, 8, 9, 10, 11] 0 (mtX10_next l dC dI cI cB bV bP bS bW bN bO H.size NN mZ mY mB mL_4 mU mJ mK mG mA hg) (zCwV 0 C.1 wlX10_140 wiX10_next ws_X10_next wnX10 wkX10_next rfl rfl (by decide +kernel) ⟨Nat.le_of_ble_eq_true rfl, Nat.le_of_ble_eq_true rfl⟩) rfl rfl (by decide +kernel) rfl rfl rfl rfl hl.1 (Nat.le_of_ble_eq_true rfl) dX10_reads_30 ⟨Nat.zero_le _, Nat.zero_le _⟩ rfl (fun H locs hP hD hS => ?_)
  refine lv_iconst (v := 1) C.1.1 C.1.2.1 dX10_reads_33 (by decide) ?_
  refine lv_istore_n (lv' := [(1, .int (1 : Int32)), (0, .ref (bV 0))]) C.1.1 C.1.2.1 dX10_reads_34 rfl hl (by decide) rfl (fun ls hl => ?_)
  obtain ⟨J60_9, eJ60_9, hf⟩ := zJn_el hf
  have hJ60_9 : ∀ (mL_6 : Rc) (mS_7 : Rc) (mW_8 : Rc), J60_9 mL_6 mS_7 mW_8 = some (of, mL', mS', mW') → ∀ (H : Heap) (locs : List Loc), va_P (dC, dI) vwCl (kX10 cI cB bV (bP 0) (bS 0) (bW 0) (bN 0) (bO 0) mZ mY mB mL_6 mU mJ mK mG mA ++ kX8 cI cB bS mS_7 ++ kX9 cI cB bW mW_8) H → va_D A (kX10 cI cB bV (bP 0) (bS 0) (bW 0) (bN 0) (bO 0) mZ mY mB mL_6 mU mJ mK mG mA ++ kX8 cI cB bS mS_7 ++ kX9 cI cB bW mW_8) → va_S A s.heap H locs → ∀ (ls : Array Slot), lv_has ls 2 [] → W p l e rX10_reads s m args below meth c H locs 0 0 QQ (F0 m 60 ls []) := by
    intro mL_6 mS_7 mW_8 hf H locs hP hD hS ls hl
    rw [eJ60_9] at hf
    cases hf
    rw [← hQ]
    exact zRTv rfl C hK hP hD hS dX10_reads_60
  refine zLp4_ind (o := (of, mL', mS', mW')) (P := fun (x10 : Int32) (mL_11 : Rc) (mS_12 : Rc) (mW_13 : Rc) => ∀ (H : Heap) (locs : List Loc), va_P (dC, dI) vwCl (kX10 cI cB bV (bP 0) (bS 0) (bW 0) (bN 0) (bO 0) mZ mY mB mL_11 mU mJ mK mG mA ++ kX8 cI cB bS mS_12 ++ kX9 cI cB bW mW_13) H → va_D A (kX10 cI cB bV (bP 0) (bS 0) (bW 0) (bN 0) (bO 0) mZ mY mB mL_11 mU mJ mK mG mA ++ kX8 cI cB bS mS_12 ++ kX9 cI cB bW mW_13) → va_S A s.heap H locs → ∀ (ls : Array Slot), lv_has ls 2 [(0, .ref (bV 0)), (1, .int x10)] → W p l e rX10_reads s m args below meth c H locs 0 0 QQ (F0 m 35 ls [])) (fun go14 ihgo14 x10 mL_11 mS_12 mW_13 hf H locs hP hD hS ls hl => ?_) _ (1 : Int32) mL_5 mS_3 mW hf H locs hP hD hS ls (lv_sub hl [1, 0] rfl)
  refine lv_iload_n C.1.1 C.1.2.1 dX10_reads_35 rfl (lv_at hl 1 rfl) ?_
  refine lv_if_eq (tgt := 60) C.1.1 C.1.2.1 dX10_reads_36 (by decide) (fun hc => ?_) (fun hc => ?_)
  · replace hf := zIf_t hf hc
    exact hJ60_9 mL_11 mS_12 mW_13 hf H locs hP hD hS ls (lv_sub hl [] rfl)
  · replace hf := zIf_f hf hc
    refine lv_aload_n C.1.1 C.1.2.1 dX10_reads_39 rfl (lv_at hl 0 rfl) ?_
    obtain ⟨fl15, mL_16, mS_17, mW_18, hg, hf⟩ := zB4_el hf
    refine zCTv (As := []) (rest := []) (wr := ([] : va_W)) (wn := (kX10 cI cB bV (bP 0) (bS 0) (bW 0) (bN 0) (bO 0) mZ mY mB mL_16 mU mJ mK mG mA ++ kX8 cI cB bS mS_17 ++ kX9 cI cB bW mW_18)) C.1 hK hA hP hD hS [0, 1, 2, 3, 4, 5, 6, 7, 8, 9, 10, 11, 12, 13, 14, 15, 16, 17, 18, 19, 20, 21, 22, 23, 24, 25] [] [0, 1, 2, 3, 4, 5, 6, 7, 8, 9, 10, 11, 12, 13, 14, 15, 16, 17, 18, 19, 20, 21, 22, 23, 24, 25] 0 (mtX10_readBlock l dC dI cI cB bV bP bS bW bN bO H.size NN mZ mY mB mL_11 mU mJ mK mG mA mS_12 mW_13 hg) (zCwV 0 C.1 wlX10_155 wiX10_readBlock ws_X10_readBlock wnX10 wkX10_readBlock rfl rfl (by decide +kernel) ⟨Nat.le_of_ble_eq_true rfl, Nat.le_of_ble_eq_true rfl⟩) rfl rfl (by decide +kernel) rfl rfl rfl rfl hl.1 (Nat.le_of_ble_eq_true rfl) dX10_reads_40 ⟨Nat.zero_le _, Nat.zero_le _⟩ rfl (fun hfl H locs ce hP hD hS g1 g2 g3 => ?_) (fun hfl H locs hP hD hS => ?_)
    · replace hf := zIf_t hf hfl
      cases hf
      rw [← hQ]
      exact zOut rfl C ht hK hP hD hS g1 g2 g3
    · replace hf := zIf_f hf (by rw [hfl]; decide)
      refine lv_aload_n C.1.1 C.1.2.1 dX10_reads_43 rfl (lv_at hl 0 rfl) ?_
      refine zGet (.int (mL_16 15 0)) C.1 wuX10 hK hP 0 rfl rfl 15 (by decide) wfX10_112 rfl rfl dX10_reads_44 ?_
      refine lv_iconst (v := 1) C.1.1 C.1.2.1 dX10_reads_47 (by decide) ?_
      refine lv_icmp_eq (tgt := 55) C.1.1 C.1.2.1 dX10_reads_48 (by decide) (fun hc => ?_) (fun hc => ?_)
      · replace hf := zIf_t hf hc
        refine lv_iconst (v := 0) C.1.1 C.1.2.1 dX10_reads_55 (by decide) ?_
        refine lv_istore_n (lv' := [(1, .int (0 : Int32)), (0, .ref (bV 0))]) C.1.1 C.1.2.1 dX10_reads_56 rfl hl (by decide) rfl (fun ls hl => ?_)
        refine lv_goto (tgt := 35) C.1.1 C.1.2.1 dX10_reads_57 (by decide) ?_
        exact ihgo14 (0 : Int32) mL_16 mS_17 mW_18 hf H locs hP hD hS ls (lv_sub hl [1, 0] rfl)
      · replace hf := zIf_f hf hc
        refine lv_iconst (v := 1) C.1.1 C.1.2.1 dX10_reads_51 (by decide) ?_
        refine lv_goto (tgt := 56) C.1.1 C.1.2.1 dX10_reads_52 (by decide) ?_
        refine lv_istore_n (lv' := [(1, .int (1 : Int32)), (0, .ref (bV 0))]) C.1.1 C.1.2.1 dX10_reads_56 rfl hl (by decide) rfl (fun ls hl => ?_)
        refine lv_goto (tgt := 35) C.1.1 C.1.2.1 dX10_reads_57 (by decide) ?_
        exact ihgo14 (1 : Int32) mL_16 mS_17 mW_18 hf H locs hP hD hS ls (lv_sub hl [1, 0] rfl)
