def fX10_depthOf (mY : Rc) (p1 : Int32) : Option (Int32) :=
  if p1 = 0 then (
    some ((2 : Int32) * (mY 4 0))
  ) else (
    if p1 = 1 then (
      some (((2 : Int32) * (mY 4 0)) + (1 : Int32))
    ) else (
      if p1 = 2 then (
        some ((4 : Int32) * (mY 4 0))
      ) else (
        if p1 = 3 then (
          some (1 : Int32)
        ) else (
          if p1 = 4 then (
            some (1 : Int32)
          ) else (
            if p1 = 5 then (
              some (1 : Int32)
            ) else (
              if p1 = 6 then (
                some (((2 : Int32) * (mY 4 0)) + (2 : Int32))
              ) else (
                if p1 = 7 then (
                  some (1 : Int32)
                ) else (
                  if p1 = 8 then (
                    some (5 : Int32)
                  ) else (
                    some (1 : Int32)
                  )
                )
              )
            )
          )
        )
      )
    )
  )
abbrev rX10_depthOf : Room := { frames := 0, cells := 0, slots := 0, locals := 0 }
set_option maxHeartbeats 4000000 in
set_option maxRecDepth 100000 in
theorem mtX10_depthOf (l : Launch) (dC : Nat → ClassId) (dI : Nat → Nat → Nat) (cI cB : ClassId) (bV bP bS bW bN bO : Nat → Nat) (sz : Nat) (mZ : Rc) (mY : Rc) (mB : Rc) (mL : Rc) (mU : Rc) (mJ : Rc) (mK : Rc) (mG : Rc) (mA : Rc) (p1 : Int32) {ov : Int32} (hf : fX10_depthOf mY p1 = some ov) : zMi l yX10_depthOf (Cond.code yX10_depthOf cX10_depthOf 2 (some .int) :: lw_g) rX10_depthOf (dC, dI) [(cI, .int), (cB, .byte)] [.ref (bV 0), .int p1] sz (kX10 cI cB bV (bP 0) (bS 0) (bW 0) (bN 0) (bO 0) mZ mY mB mL mU mJ mK mG mA) ov (kX10 cI cB bV (bP 0) (bS 0) (bW 0) (bN 0) (bO 0) mZ mY mB mL mU mJ mK mG mA) := by
  refine zSt (cc := cX10_depthOf) (maxL := 2) (ret := (some .int)) (own := RX10) (fun A => zQi (dC, dI) [(cI, .int), (cB, .byte)] A ov (kX10 cI cB bV (bP 0) (bS 0) (bW 0) (bN 0) (bO 0) mZ mY mB mL mU mJ mK mG mA)) (by decide) rfl rfl (Nat.le_of_ble_eq_true rfl) ?_
  intro p e s m below meth c ls A H locs C hK hA hP hD hS hl
  generalize hQ : MQ below (zQi (dC, dI) [(cI, .int), (cB, .byte)] A ov (kX10 cI cB bV (bP 0) (bS 0) (bW 0) (bN 0) (bO 0) mZ mY mB mL mU mJ mK mG mA)) _ s 0 0 A = QQ
  generalize ([.ref (bV 0), .int p1] : List Value).toArray = args at C hQ ⊢
  have hl : lv_has ls 2 [(0, .ref (bV 0)), (1, .int p1)] := hl
  unfold fX10_depthOf at hf
  refine lv_iload_n C.1.1 C.1.2.1 dX10_depthOf_0 rfl (lv_at hl 1 rfl) ?_
  rcases Classical.em (p1 = 0) with hk1 | hk1
  · replace hf := zIf_t hf hk1
    refine lv_tableIn (off := 51) (tgt := 52) C.1.1 C.1.2.1 dX10_depthOf_1 (by rw [hk1] <;> decide +kernel) (by rw [hk1] <;> decide +kernel) (by rw [hk1] <;> decide +kernel) (by decide) ?_
    refine lv_iconst (v := 2) C.1.1 C.1.2.1 dX10_depthOf_52 (by decide) ?_
    refine lv_aload_n C.1.1 C.1.2.1 dX10_depthOf_53 rfl (lv_at hl 0 rfl) ?_
    refine zGet (.int (mY 4 0)) C.1 wuX10 hK hP 0 rfl rfl 4 (by decide) wfX10_13 rfl rfl dX10_depthOf_54 ?_
    refine lv_imul C.1.1 C.1.2.1 dX10_depthOf_57 ?_
    cases hf
    rw [← hQ]
    exact zRi C hK hP hD hS dX10_depthOf_58
  · replace hf := zIf_f hf hk1
    rcases Classical.em (p1 = 1) with hk2 | hk2
    · replace hf := zIf_t hf hk2
      refine lv_tableIn (off := 58) (tgt := 59) C.1.1 C.1.2.1 dX10_depthOf_1 (by rw [hk2] <;> decide +kernel) (by rw [hk2] <;> decide +kernel) (by rw [hk2] <;> decide +kernel) (by decide) ?_
      refine lv_iconst (v := 2) C.1.1 C.1.2.1 dX10_depthOf_59 (by decide) ?_
      refine lv_aload_n C.1.1 C.1.2.1 dX10_depthOf_60 rfl (lv_at hl 0 rfl) ?_
      refine zGet (.int (mY 4 0)) C.1 wuX10 hK hP 0 rfl rfl 4 (by decide) wfX10_13 rfl rfl dX10_depthOf_61 ?_
      refine lv_imul C.1.1 C.1.2.1 dX10_depthOf_64 ?_
      refine lv_iconst (v := 1) C.1.1 C.1.2.1 dX10_depthOf_65 (by decide) ?_
      refine lv_iadd C.1.1 C.1.2.1 dX10_depthOf_66 ?_
      cases hf
      rw [← hQ]
      exact zRi C hK hP hD hS dX10_depthOf_67
    · replace hf := zIf_f hf hk2
      rcases Classical.em (p1 = 2) with hk3 | hk3
      · replace hf := zIf_t hf hk3
        refine lv_tableIn (off := 67) (tgt := 68) C.1.1 C.1.2.1 dX10_depthOf_1 (by rw [hk3] <;> decide +kernel) (by rw [hk3] <;> decide +kernel) (by rw [hk3] <;> decide +kernel) (by decide) ?_
        refine lv_iconst (v := 4) C.1.1 C.1.2.1 dX10_depthOf_68 (by decide) ?_
        refine lv_aload_n C.1.1 C.1.2.1 dX10_depthOf_69 rfl (lv_at hl 0 rfl) ?_
        refine zGet (.int (mY 4 0)) C.1 wuX10 hK hP 0 rfl rfl 4 (by decide) wfX10_13 rfl rfl dX10_depthOf_70 ?_
        refine lv_imul C.1.1 C.1.2.1 dX10_depthOf_73 ?_
        cases hf
        rw [← hQ]
        exact zRi C hK hP hD hS dX10_depthOf_74
      · replace hf := zIf_f hf hk3
        rcases Classical.em (p1 = 3) with hk4 | hk4
        · replace hf := zIf_t hf hk4
          refine lv_tableIn (off := 85) (tgt := 86) C.1.1 C.1.2.1 dX10_depthOf_1 (by rw [hk4] <;> decide +kernel) (by rw [hk4] <;> decide +kernel) (by rw [hk4] <;> decide +kernel) (by decide) ?_
          refine lv_iconst (v := 1) C.1.1 C.1.2.1 dX10_depthOf_86 (by decide) ?_
          cases hf
          rw [← hQ]
          exact zRi C hK hP hD hS dX10_depthOf_87
        · replace hf := zIf_f hf hk4
          rcases Classical.em (p1 = 4) with hk5 | hk5
          · replace hf := zIf_t hf hk5
            refine lv_tableIn (off := 85) (tgt := 86) C.1.1 C.1.2.1 dX10_depthOf_1 (by rw [hk5] <;> decide +kernel) (by rw [hk5] <;> decide +kernel) (by rw [hk5] <;> decide +kernel) (by decide) ?_
            refine lv_iconst (v := 1) C.1.1 C.1.2.1 dX10_depthOf_86 (by decide) ?_
            cases hf
            rw [← hQ]
            exact zRi C hK hP hD hS dX10_depthOf_87
          · replace hf := zIf_f hf hk5
            rcases Classical.em (p1 = 5) with hk6 | hk6
            · replace hf := zIf_t hf hk6
              refine lv_tableIn (off := 85) (tgt := 86) C.1.1 C.1.2.1 dX10_depthOf_1 (by rw [hk6] <;> decide +kernel) (by rw [hk6] <;> decide +kernel) (by rw [hk6] <;> decide +kernel) (by decide) ?_
              refine lv_iconst (v := 1) C.1.1 C.1.2.1 dX10_depthOf_86 (by decide) ?_
              cases hf
              rw [← hQ]
              exact zRi C hK hP hD hS dX10_depthOf_87
            · replace hf := zIf_f hf hk6
              rcases Classical.em (p1 = 6) with hk7 | hk7
              · replace hf := zIf_t hf hk7
                refine lv_tableIn (off := 74) (tgt := 75) C.1.1 C.1.2.1 dX10_depthOf_1 (by rw [hk7] <;> decide +kernel) (by rw [hk7] <;> decide +kernel) (by rw [hk7] <;> decide +kernel) (by decide) ?_
                refine lv_iconst (v := 2) C.1.1 C.1.2.1 dX10_depthOf_75 (by decide) ?_
                refine lv_aload_n C.1.1 C.1.2.1 dX10_depthOf_76 rfl (lv_at hl 0 rfl) ?_
                refine zGet (.int (mY 4 0)) C.1 wuX10 hK hP 0 rfl rfl 4 (by decide) wfX10_13 rfl rfl dX10_depthOf_77 ?_
                refine lv_imul C.1.1 C.1.2.1 dX10_depthOf_80 ?_
                refine lv_iconst (v := 2) C.1.1 C.1.2.1 dX10_depthOf_81 (by decide) ?_
                refine lv_iadd C.1.1 C.1.2.1 dX10_depthOf_82 ?_
                cases hf
                rw [← hQ]
                exact zRi C hK hP hD hS dX10_depthOf_83
              · replace hf := zIf_f hf hk7
                rcases Classical.em (p1 = 7) with hk8 | hk8
                · replace hf := zIf_t hf hk8
                  refine lv_tableIn (off := 85) (tgt := 86) C.1.1 C.1.2.1 dX10_depthOf_1 (by rw [hk8] <;> decide +kernel) (by rw [hk8] <;> decide +kernel) (by rw [hk8] <;> decide +kernel) (by decide) ?_
                  refine lv_iconst (v := 1) C.1.1 C.1.2.1 dX10_depthOf_86 (by decide) ?_
                  cases hf
                  rw [← hQ]
                  exact zRi C hK hP hD hS dX10_depthOf_87
                · replace hf := zIf_f hf hk8
                  rcases Classical.em (p1 = 8) with hk9 | hk9
                  · replace hf := zIf_t hf hk9
                    refine lv_tableIn (off := 83) (tgt := 84) C.1.1 C.1.2.1 dX10_depthOf_1 (by rw [hk9] <;> decide +kernel) (by rw [hk9] <;> decide +kernel) (by rw [hk9] <;> decide +kernel) (by decide) ?_
                    refine lv_iconst (v := 5) C.1.1 C.1.2.1 dX10_depthOf_84 (by decide) ?_
                    cases hf
                    rw [← hQ]
                    exact zRi C hK hP hD hS dX10_depthOf_85
                  · replace hf := zIf_f hf hk9
                    have nhk1 := lv_neT hk1 (a := 0) (by decide)
                    have nhk2 := lv_neT hk2 (a := 1) (by decide)
                    have nhk3 := lv_neT hk3 (a := 2) (by decide)
                    have nhk4 := lv_neT hk4 (a := 3) (by decide)
                    have nhk5 := lv_neT hk5 (a := 4) (by decide)
                    have nhk6 := lv_neT hk6 (a := 5) (by decide)
                    have nhk7 := lv_neT hk7 (a := 6) (by decide)
                    have nhk8 := lv_neT hk8 (a := 7) (by decide)
                    have nhk9 := lv_neT hk9 (a := 8) (by decide)
                    refine lv_tableOut (tgt := 86) C.1.1 C.1.2.1 dX10_depthOf_1 (by omega) (by decide) ?_
                    refine lv_iconst (v := 1) C.1.1 C.1.2.1 dX10_depthOf_86 (by decide) ?_
                    cases hf
                    rw [← hQ]
                    exact zRi C hK hP hD hS dX10_depthOf_87
def fX10_isBlock (mY : Rc) (mP : Rc) (p1 : Int32) : Option (Int32) :=
  if (mY 9 0) = 0 then (
    some (0 : Int32)
  ) else (
    if p1 < 0 then (
      some (0 : Int32)
    ) else (
      if (mP 0 0) ≤ p1 then (
        some (0 : Int32)
      ) else (
        some (1 : Int32)
      )
    )
  )
abbrev rX10_isBlock : Room := { frames := 0, cells := 0, slots := 0, locals := 0 }
set_option maxHeartbeats 4000000 in
set_option maxRecDepth 100000 in
theorem mtX10_isBlock (l : Launch) (dC : Nat → ClassId) (dI : Nat → Nat → Nat) (cI cB : ClassId) (bV bP bS bW bN bO : Nat → Nat) (sz : Nat) (mZ : Rc) (mY : Rc) (mB : Rc) (mL : Rc) (mU : Rc) (mJ : Rc) (mK : Rc) (mG : Rc) (mA : Rc) (mP : Rc) (p1 : Int32) {ov : Int32} (hf : fX10_isBlock mY mP p1 = some ov) : zMi l yX10_isBlock (Cond.code yX10_isBlock cX10_isBlock 2 (some .boolean) :: lw_g) rX10_isBlock (dC, dI) [(cI, .int), (cB, .byte)] [.ref (bV 0), .int p1] sz (kX10 cI cB bV (bP 0) (bS 0) (bW 0) (bN 0) (bO 0) mZ mY mB mL mU mJ mK mG mA ++ kX8 cI cB bP mP) ov (kX10 cI cB bV (bP 0) (bS 0) (bW 0) (bN 0) (bO 0) mZ mY mB mL mU mJ mK mG mA ++ kX8 cI cB bP mP) := by
  refine zSt (cc := cX10_isBlock) (maxL := 2) (ret := (some .boolean)) (own := RX10) (fun A => zQi (dC, dI) [(cI, .int), (cB, .byte)] A ov (kX10 cI cB bV (bP 0) (bS 0) (bW 0) (bN 0) (bO 0) mZ mY mB mL mU mJ mK mG mA ++ kX8 cI cB bP mP)) (by decide) rfl rfl (Nat.le_of_ble_eq_true rfl) ?_
  intro p e s m below meth c ls A H locs C hK hA hP hD hS hl
  generalize hQ : MQ below (zQi (dC, dI) [(cI, .int), (cB, .byte)] A ov (kX10 cI cB bV (bP 0) (bS 0) (bW 0) (bN 0) (bO 0) mZ mY mB mL mU mJ mK mG mA ++ kX8 cI cB bP mP)) _ s 0 0 A = QQ
  generalize ([.ref (bV 0), .int p1] : List Value).toArray = args at C hQ ⊢
  have hl : lv_has ls 2 [(0, .ref (bV 0)), (1, .int p1)] := hl
  unfold fX10_isBlock at hf
  refine lv_aload_n C.1.1 C.1.2.1 dX10_isBlock_0 rfl (lv_at hl 0 rfl) ?_
  refine zGet (.int (mY 9 0)) C.1 wuX10 hK hP 0 rfl rfl 9 (by decide) wfX10_230 rfl rfl dX10_isBlock_1 ?_
  refine lv_if_eq (tgt := 26) C.1.1 C.1.2.1 dX10_isBlock_4 (by decide) (fun hc => ?_) (fun hc => ?_)
  · replace hf := zIf_t hf hc
    refine lv_iconst (v := 0) C.1.1 C.1.2.1 dX10_isBlock_26 (by decide) ?_
    cases hf
    rw [← hQ]
    exact zRz C (by decide +kernel) hK hP hD hS dX10_isBlock_27
  · replace hf := zIf_f hf hc
    refine lv_iload_n C.1.1 C.1.2.1 dX10_isBlock_7 rfl (lv_at hl 1 rfl) ?_
    refine lv_if_lt (tgt := 26) C.1.1 C.1.2.1 dX10_isBlock_8 (by decide) (fun hc => ?_) (fun hc => ?_)
    · replace hf := zIf_t hf hc
      refine lv_iconst (v := 0) C.1.1 C.1.2.1 dX10_isBlock_26 (by decide) ?_
      cases hf
      rw [← hQ]
      exact zRz C (by decide +kernel) hK hP hD hS dX10_isBlock_27
    · replace hf := zIf_f hf hc
      refine lv_iload_n C.1.1 C.1.2.1 dX10_isBlock_11 rfl (lv_at hl 1 rfl) ?_
      refine lv_aload_n C.1.1 C.1.2.1 dX10_isBlock_12 rfl (lv_at hl 0 rfl) ?_
      refine zGet (.ref (bP 0)) C.1 wuX10 hK hP 0 rfl rfl 7 (by decide) wfX10_25 rfl rfl dX10_isBlock_13 ?_
      refine zGetN (.int (mP 0 0)) C.1 wuX8 hK hP 14 rfl rfl 0 (by decide) nfX10_146 rfl rfl dX10_isBlock_16 ?_
      refine lv_icmp_ge (tgt := 26) C.1.1 C.1.2.1 dX10_isBlock_19 (by decide) (fun hc => ?_) (fun hc => ?_)
      · replace hf := zIf_t hf hc
        refine lv_iconst (v := 0) C.1.1 C.1.2.1 dX10_isBlock_26 (by decide) ?_
        cases hf
        rw [← hQ]
        exact zRz C (by decide +kernel) hK hP hD hS dX10_isBlock_27
      · replace hf := zIf_f hf hc
        refine lv_iconst (v := 1) C.1.1 C.1.2.1 dX10_isBlock_22 (by decide) ?_
        refine lv_goto (tgt := 27) C.1.1 C.1.2.1 dX10_isBlock_23 (by decide) ?_
        cases hf
        rw [← hQ]
        exact zRz C (by decide +kernel) hK hP hD hS dX10_isBlock_27
def fX10_opsOf_L57 (mP : Rc) (x5 : Int32) (J100_12 : Int32 → Option (Int32)) (n : Nat) (x14 : Int32) (x15 : Int32) : Option (Int32) := zLp2 (fun (go16 : Int32 → Int32 → Option (Int32)) (x14 : Int32) (x15 : Int32) =>
    zGd (inb x5 96) <|
    if (mP 10 x5.toNatClampNeg) ≤ x15 then (
      J100_12 x14
    ) else (
      zGd (inb x15 700) <|
      if (9 : Int32) ≤ (mP 11 x15.toNatClampNeg) then (
        zLet (x14 + (0 : Int32)) fun x17 =>
        zLet (x15 + 1) fun x18 =>
        go16 x17 x18
      ) else (
        zLet (x14 + (1 : Int32)) fun x19 =>
        zLet (x15 + 1) fun x20 =>
        go16 x19 x20
      )
    )
  ) n x14 x15
def fX10_opsOf_L7 (mP : Rc) (p1 : Int32) (NN : Nat) (J106_3 : Int32 → Option (Int32)) (n : Nat) (x4 : Int32) (x5 : Int32) : Option (Int32) := zLp2 (fun (go6 : Int32 → Int32 → Option (Int32)) (x4 : Int32) (x5 : Int32) =>
    zGd (inb p1 12) <|
    if (((8 : Int32) * p1) + (mP 5 p1.toNatClampNeg)) ≤ x5 then (
      J106_3 x4
    ) else (
      zGd (inb x5 96) <|
      zJn (fun (t7 : Int32) =>
          zLet (x4 + t7) fun x9 =>
          zGd (inb x5 96) <|
          zLet (mP 9 x5.toNatClampNeg) fun x10 =>
          zJn (fun (x11 : Int32) =>
              zLet (x5 + 1) fun x13 =>
              go6 x11 x13
            ) fun J100_12 =>
          fX10_opsOf_L57 mP x5 J100_12 NN x9 x10
        ) fun J44_8 =>
      if (mP 7 x5.toNatClampNeg) = (-1 : Int32) then (
        J44_8 (0 : Int32)
      ) else (
        J44_8 (1 : Int32)
      )
    )
  ) n x4 x5
def fX10_opsOf (NN : Nat) (mP : Rc) (p1 : Int32) : Option (Int32) :=
  zLet ((8 : Int32) * p1) fun x1 =>
  zJn (fun (x2 : Int32) =>
      some x2
    ) fun J106_3 =>
  fX10_opsOf_L7 mP p1 NN J106_3 NN (0 : Int32) x1
abbrev rX10_opsOf : Room := { frames := 0, cells := 0, slots := 0, locals := 0 }
set_option maxHeartbeats 4000000 in
set_option maxRecDepth 100000 in
theorem mtX10_opsOf (l : Launch) (dC : Nat → ClassId) (dI : Nat → Nat → Nat) (cI cB : ClassId) (bV bP bS bW bN bO : Nat → Nat) (sz : Nat) (NN : Nat) (mZ : Rc) (mY : Rc) (mB : Rc) (mL : Rc) (mU : Rc) (mJ : Rc) (mK : Rc) (mG : Rc) (mA : Rc) (mP : Rc) (p1 : Int32) {ov : Int32} (hf : fX10_opsOf NN mP p1 = some ov) : zMi l yX10_opsOf (Cond.code yX10_opsOf cX10_opsOf 5 (some .int) :: lw_g) rX10_opsOf (dC, dI) [(cI, .int), (cB, .byte)] [.ref (bV 0), .int p1] sz (kX10 cI cB bV (bP 0) (bS 0) (bW 0) (bN 0) (bO 0) mZ mY mB mL mU mJ mK mG mA ++ kX8 cI cB bP mP) ov (kX10 cI cB bV (bP 0) (bS 0) (bW 0) (bN 0) (bO 0) mZ mY mB mL mU mJ mK mG mA ++ kX8 cI cB bP mP) := by
  refine zSt (cc := cX10_opsOf) (maxL := 5) (ret := (some .int)) (own := RX10) (fun A => zQi (dC, dI) [(cI, .int), (cB, .byte)] A ov (kX10 cI cB bV (bP 0) (bS 0) (bW 0) (bN 0) (bO 0) mZ mY mB mL mU mJ mK mG mA ++ kX8 cI cB bP mP)) (by decide) rfl rfl (Nat.le_of_ble_eq_true rfl) ?_
  intro p e s m below meth c ls A H locs C hK hA hP hD hS hl
  generalize hQ : MQ below (zQi (dC, dI) [(cI, .int), (cB, .byte)] A ov (kX10 cI cB bV (bP 0) (bS 0) (bW 0) (bN 0) (bO 0) mZ mY mB mL mU mJ mK mG mA ++ kX8 cI cB bP mP)) _ s 0 0 A = QQ
  generalize ([.ref (bV 0), .int p1] : List Value).toArray = args at C hQ ⊢
  have hl : lv_has ls 5 [(0, .ref (bV 0)), (1, .int p1)] := hl
  unfold fX10_opsOf at hf
  refine lv_iconst (v := 0) C.1.1 C.1.2.1 dX10_opsOf_0 (by decide) ?_
  refine lv_istore_n (lv' := [(2, .int (0 : Int32)), (0, .ref (bV 0)), (1, .int p1)]) C.1.1 C.1.2.1 dX10_opsOf_1 rfl hl (by decide) rfl (fun ls hl => ?_)
  refine lv_bipush (v := 8) C.1.1 C.1.2.1 dX10_opsOf_2 (by decide) ?_
  refine lv_iload_n C.1.1 C.1.2.1 dX10_opsOf_4 rfl (lv_at hl 2 rfl) ?_
  refine lv_imul C.1.1 C.1.2.1 dX10_opsOf_5 ?_
  refine lv_topi (fun x1 ex1 => ?_)
  replace hf := zLet_at hf ex1
  refine lv_istore_n (lv' := [(3, .int x1), (2, .int (0 : Int32)), (0, .ref (bV 0)), (1, .int p1)]) C.1.1 C.1.2.1 dX10_opsOf_6 rfl hl (by decide) rfl (fun ls hl => ?_)
  obtain ⟨J106_3, eJ106_3, hf⟩ := zJn_el hf
  have hJ106_3 : ∀ (x2 : Int32), J106_3 x2 = some ov → ∀ (H : Heap) (locs : List Loc), va_P (dC, dI) vwCl (kX10 cI cB bV (bP 0) (bS 0) (bW 0) (bN 0) (bO 0) mZ mY mB mL mU mJ mK mG mA ++ kX8 cI cB bP mP) H → va_D A (kX10 cI cB bV (bP 0) (bS 0) (bW 0) (bN 0) (bO 0) mZ mY mB mL mU mJ mK mG mA ++ kX8 cI cB bP mP) → va_S A s.heap H locs → ∀ (ls : Array Slot), lv_has ls 5 [(2, .int x2)] → W p l e rX10_opsOf s m args below meth c H locs 0 0 QQ (F0 m 106 ls []) := by
    intro x2 hf H locs hP hD hS ls hl
    rw [eJ106_3] at hf
    refine lv_iload_n C.1.1 C.1.2.1 dX10_opsOf_106 rfl (lv_at hl 0 rfl) ?_
    cases hf
    rw [← hQ]
    exact zRi C hK hP hD hS dX10_opsOf_107
  refine zLp2_ind (o := ov) (P := fun (x4 : Int32) (x5 : Int32) => ∀ (H : Heap) (locs : List Loc), va_P (dC, dI) vwCl (kX10 cI cB bV (bP 0) (bS 0) (bW 0) (bN 0) (bO 0) mZ mY mB mL mU mJ mK mG mA ++ kX8 cI cB bP mP) H → va_D A (kX10 cI cB bV (bP 0) (bS 0) (bW 0) (bN 0) (bO 0) mZ mY mB mL mU mJ mK mG mA ++ kX8 cI cB bP mP) → va_S A s.heap H locs → ∀ (ls : Array Slot), lv_has ls 5 [(0, .ref (bV 0)), (1, .int p1), (2, .int x4), (3, .int x5)] → W p l e rX10_opsOf s m args below meth c H locs 0 0 QQ (F0 m 7 ls [])) (fun go6 ihgo6 x4 x5 hf H locs hP hD hS ls hl => ?_) _ (0 : Int32) x1 hf H locs hP hD hS ls (lv_sub hl [2, 3, 1, 0] rfl)
  refine lv_iload_n C.1.1 C.1.2.1 dX10_opsOf_7 rfl (lv_at hl 3 rfl) ?_
  refine lv_bipush (v := 8) C.1.1 C.1.2.1 dX10_opsOf_8 (by decide) ?_
  refine lv_iload_n C.1.1 C.1.2.1 dX10_opsOf_10 rfl (lv_at hl 1 rfl) ?_
  refine lv_imul C.1.1 C.1.2.1 dX10_opsOf_11 ?_
  refine lv_aload_n C.1.1 C.1.2.1 dX10_opsOf_12 rfl (lv_at hl 0 rfl) ?_
  refine zGet (.ref (bP 0)) C.1 wuX10 hK hP 0 rfl rfl 7 (by decide) wfX10_25 rfl rfl dX10_opsOf_13 ?_
  refine zGetN (.ref (bP 3)) C.1 wuX8 hK hP 14 rfl rfl 5 (by decide) nfX10_174 rfl rfl dX10_opsOf_16 ?_
  refine lv_iload_n C.1.1 C.1.2.1 dX10_opsOf_19 rfl (lv_at hl 1 rfl) ?_
  obtain ⟨hib, hf⟩ := zGd_el hf
  refine va_iald C.1.1 C.1.2.1 hK.1 hP 17 0 rfl rfl hib dX10_opsOf_20 ?_
  refine lv_iadd C.1.1 C.1.2.1 dX10_opsOf_21 ?_
  refine lv_icmp_ge (tgt := 106) C.1.1 C.1.2.1 dX10_opsOf_22 (by decide) (fun hc => ?_) (fun hc => ?_)
  · replace hf := zIf_t hf hc
    exact hJ106_3 x4 hf H locs hP hD hS ls (lv_sub hl [2] rfl)
  · replace hf := zIf_f hf hc
    refine lv_iload_n C.1.1 C.1.2.1 dX10_opsOf_25 rfl (lv_at hl 2 rfl) ?_
    refine lv_aload_n C.1.1 C.1.2.1 dX10_opsOf_26 rfl (lv_at hl 0 rfl) ?_
    refine zGet (.ref (bP 0)) C.1 wuX10 hK hP 0 rfl rfl 7 (by decide) wfX10_25 rfl rfl dX10_opsOf_27 ?_
    refine zGetN (.ref (bP 5)) C.1 wuX8 hK hP 14 rfl rfl 7 (by decide) nfX10_192 rfl rfl dX10_opsOf_30 ?_
    refine lv_iload_n C.1.1 C.1.2.1 dX10_opsOf_33 rfl (lv_at hl 3 rfl) ?_
    obtain ⟨hib, hf⟩ := zGd_el hf
    refine va_iald C.1.1 C.1.2.1 hK.1 hP 19 0 rfl rfl hib dX10_opsOf_34 ?_
    refine lv_iconst (v := (-1)) C.1.1 C.1.2.1 dX10_opsOf_35 (by decide) ?_
    obtain ⟨J44_8, eJ44_8, hf⟩ := zJn_el hf
    have hJ44_8 : ∀ (t7 : Int32), J44_8 t7 = some ov → ∀ (H : Heap) (locs : List Loc), va_P (dC, dI) vwCl (kX10 cI cB bV (bP 0) (bS 0) (bW 0) (bN 0) (bO 0) mZ mY mB mL mU mJ mK mG mA ++ kX8 cI cB bP mP) H → va_D A (kX10 cI cB bV (bP 0) (bS 0) (bW 0) (bN 0) (bO 0) mZ mY mB mL mU mJ mK mG mA ++ kX8 cI cB bP mP) → va_S A s.heap H locs → ∀ (ls : Array Slot), lv_has ls 5 [(0, .ref (bV 0)), (1, .int p1), (3, .int x5)] → W p l e rX10_opsOf s m args below meth c H locs 0 0 QQ (F0 m 44 ls [.int t7, .int x4]) := by
      intro t7 hf H locs hP hD hS ls hl
      rw [eJ44_8] at hf
      refine lv_iadd C.1.1 C.1.2.1 dX10_opsOf_44 ?_
      refine lv_topi (fun x9 ex9 => ?_)
      replace hf := zLet_at hf ex9
      refine lv_istore_n (lv' := [(2, .int x9), (0, .ref (bV 0)), (1, .int p1), (3, .int x5)]) C.1.1 C.1.2.1 dX10_opsOf_45 rfl hl (by decide) rfl (fun ls hl => ?_)
      refine lv_aload_n C.1.1 C.1.2.1 dX10_opsOf_46 rfl (lv_at hl 1 rfl) ?_
      refine zGet (.ref (bP 0)) C.1 wuX10 hK hP 0 rfl rfl 7 (by decide) wfX10_25 rfl rfl dX10_opsOf_47 ?_
      refine zGetN (.ref (bP 7)) C.1 wuX8 hK hP 14 rfl rfl 9 (by decide) nfX10_201 rfl rfl dX10_opsOf_50 ?_
      refine lv_iload_n C.1.1 C.1.2.1 dX10_opsOf_53 rfl (lv_at hl 3 rfl) ?_
      obtain ⟨hib, hf⟩ := zGd_el hf
      refine va_iald C.1.1 C.1.2.1 hK.1 hP 21 0 rfl rfl hib dX10_opsOf_54 ?_
      refine lv_topi (fun x10 ex10 => ?_)
      replace hf := zLet_at hf ex10
      refine lv_istore (lv' := [(4, .int x10), (2, .int x9), (0, .ref (bV 0)), (1, .int p1), (3, .int x5)]) C.1.1 C.1.2.1 dX10_opsOf_55 hl (by decide) rfl (fun ls hl => ?_)
      obtain ⟨J100_12, eJ100_12, hf⟩ := zJn_el hf
      have hJ100_12 : ∀ (x11 : Int32), J100_12 x11 = some ov → ∀ (H : Heap) (locs : List Loc), va_P (dC, dI) vwCl (kX10 cI cB bV (bP 0) (bS 0) (bW 0) (bN 0) (bO 0) mZ mY mB mL mU mJ mK mG mA ++ kX8 cI cB bP mP) H → va_D A (kX10 cI cB bV (bP 0) (bS 0) (bW 0) (bN 0) (bO 0) mZ mY mB mL mU mJ mK mG mA ++ kX8 cI cB bP mP) → va_S A s.heap H locs → ∀ (ls : Array Slot), lv_has ls 5 [(0, .ref (bV 0)), (1, .int p1), (2, .int x11), (3, .int x5)] → W p l e rX10_opsOf s m args below meth c H locs 0 0 QQ (F0 m 100 ls []) := by
        intro x11 hf H locs hP hD hS ls hl
        rw [eJ100_12] at hf
        obtain ⟨x13, ex13, hf⟩ := zLet_el hf
        refine lv_iinc (v := x13) (lv' := [(3, .int x13), (0, .ref (bV 0)), (1, .int p1), (2, .int x11)]) C.1.1 C.1.2.1 dX10_opsOf_100 hl (k := 3) rfl (by rw [ex13]; rfl) (by decide) rfl (fun ls hl => ?_)
        refine lv_goto (tgt := 7) C.1.1 C.1.2.1 dX10_opsOf_103 (by decide) ?_
        exact ihgo6 x11 x13 hf H locs hP hD hS ls (lv_sub hl [1, 2, 3, 0] rfl)
      refine zLp2_ind (o := ov) (P := fun (x14 : Int32) (x15 : Int32) => ∀ (H : Heap) (locs : List Loc), va_P (dC, dI) vwCl (kX10 cI cB bV (bP 0) (bS 0) (bW 0) (bN 0) (bO 0) mZ mY mB mL mU mJ mK mG mA ++ kX8 cI cB bP mP) H → va_D A (kX10 cI cB bV (bP 0) (bS 0) (bW 0) (bN 0) (bO 0) mZ mY mB mL mU mJ mK mG mA ++ kX8 cI cB bP mP) → va_S A s.heap H locs → ∀ (ls : Array Slot), lv_has ls 5 [(0, .ref (bV 0)), (1, .int p1), (2, .int x14), (3, .int x5), (4, .int x15)] → W p l e rX10_opsOf s m args below meth c H locs 0 0 QQ (F0 m 57 ls [])) (fun go16 ihgo16 x14 x15 hf H locs hP hD hS ls hl => ?_) _ x9 x10 hf H locs hP hD hS ls (lv_sub hl [2, 3, 1, 4, 0] rfl)
      refine lv_iload C.1.1 C.1.2.1 dX10_opsOf_57 (lv_at hl 4 rfl) ?_
      refine lv_aload_n C.1.1 C.1.2.1 dX10_opsOf_59 rfl (lv_at hl 0 rfl) ?_
      refine zGet (.ref (bP 0)) C.1 wuX10 hK hP 0 rfl rfl 7 (by decide) wfX10_25 rfl rfl dX10_opsOf_60 ?_
      refine zGetN (.ref (bP 8)) C.1 wuX8 hK hP 14 rfl rfl 10 (by decide) nfX10_207 rfl rfl dX10_opsOf_63 ?_
      refine lv_iload_n C.1.1 C.1.2.1 dX10_opsOf_66 rfl (lv_at hl 3 rfl) ?_
      obtain ⟨hib, hf⟩ := zGd_el hf
      refine va_iald C.1.1 C.1.2.1 hK.1 hP 22 0 rfl rfl hib dX10_opsOf_67 ?_
      refine lv_icmp_ge (tgt := 100) C.1.1 C.1.2.1 dX10_opsOf_68 (by decide) (fun hc => ?_) (fun hc => ?_)
      · replace hf := zIf_t hf hc
        exact hJ100_12 x14 hf H locs hP hD hS ls (lv_sub hl [0, 1, 2, 3] rfl)
      · replace hf := zIf_f hf hc
        refine lv_iload_n C.1.1 C.1.2.1 dX10_opsOf_71 rfl (lv_at hl 2 rfl) ?_
        refine lv_aload_n C.1.1 C.1.2.1 dX10_opsOf_72 rfl (lv_at hl 0 rfl) ?_
        refine zGet (.ref (bP 0)) C.1 wuX10 hK hP 0 rfl rfl 7 (by decide) wfX10_25 rfl rfl dX10_opsOf_73 ?_
        refine zGetN (.ref (bP 9)) C.1 wuX8 hK hP 14 rfl rfl 11 (by decide) nfX10_245 rfl rfl dX10_opsOf_76 ?_
        refine lv_iload C.1.1 C.1.2.1 dX10_opsOf_79 (lv_at hl 4 rfl) ?_
        obtain ⟨hib, hf⟩ := zGd_el hf
        refine va_iald C.1.1 C.1.2.1 hK.1 hP 23 0 rfl rfl hib dX10_opsOf_81 ?_
        refine lv_bipush (v := 9) C.1.1 C.1.2.1 dX10_opsOf_82 (by decide) ?_
        refine lv_icmp_ge (tgt := 91) C.1.1 C.1.2.1 dX10_opsOf_84 (by decide) (fun hc => ?_) (fun hc => ?_)
        · replace hf := zIf_t hf hc
          refine lv_iconst (v := 0) C.1.1 C.1.2.1 dX10_opsOf_91 (by decide) ?_
          refine lv_iadd C.1.1 C.1.2.1 dX10_opsOf_92 ?_
          refine lv_topi (fun x17 ex17 => ?_)
          replace hf := zLet_at hf ex17
          refine lv_istore_n (lv' := [(2, .int x17), (0, .ref (bV 0)), (1, .int p1), (3, .int x5), (4, .int x15)]) C.1.1 C.1.2.1 dX10_opsOf_93 rfl hl (by decide) rfl (fun ls hl => ?_)
          obtain ⟨x18, ex18, hf⟩ := zLet_el hf
          refine lv_iinc (v := x18) (lv' := [(4, .int x18), (2, .int x17), (0, .ref (bV 0)), (1, .int p1), (3, .int x5)]) C.1.1 C.1.2.1 dX10_opsOf_94 hl (k := 4) rfl (by rw [ex18]; rfl) (by decide) rfl (fun ls hl => ?_)
          refine lv_goto (tgt := 57) C.1.1 C.1.2.1 dX10_opsOf_97 (by decide) ?_
          exact ihgo16 x17 x18 hf H locs hP hD hS ls (lv_sub hl [2, 3, 1, 4, 0] rfl)
        · replace hf := zIf_f hf hc
          refine lv_iconst (v := 1) C.1.1 C.1.2.1 dX10_opsOf_87 (by decide) ?_
          refine lv_goto (tgt := 92) C.1.1 C.1.2.1 dX10_opsOf_88 (by decide) ?_
          refine lv_iadd C.1.1 C.1.2.1 dX10_opsOf_92 ?_
          refine lv_topi (fun x19 ex19 => ?_)
          replace hf := zLet_at hf ex19
          refine lv_istore_n (lv' := [(2, .int x19), (0, .ref (bV 0)), (1, .int p1), (3, .int x5), (4, .int x15)]) C.1.1 C.1.2.1 dX10_opsOf_93 rfl hl (by decide) rfl (fun ls hl => ?_)
          obtain ⟨x20, ex20, hf⟩ := zLet_el hf
          refine lv_iinc (v := x20) (lv' := [(4, .int x20), (2, .int x19), (0, .ref (bV 0)), (1, .int p1), (3, .int x5)]) C.1.1 C.1.2.1 dX10_opsOf_94 hl (k := 4) rfl (by rw [ex20]; rfl) (by decide) rfl (fun ls hl => ?_)
          refine lv_goto (tgt := 57) C.1.1 C.1.2.1 dX10_opsOf_97 (by decide) ?_
          exact ihgo16 x19 x20 hf H locs hP hD hS ls (lv_sub hl [2, 3, 1, 4, 0] rfl)
    refine lv_icmp_ne (tgt := 43) C.1.1 C.1.2.1 dX10_opsOf_36 (by decide) (fun hc => ?_) (fun hc => ?_)
    · replace hf := zIf_f hf hc
      refine lv_iconst (v := 1) C.1.1 C.1.2.1 dX10_opsOf_43 (by decide) ?_
      exact hJ44_8 (1 : Int32) hf H locs hP hD hS ls (lv_sub hl [0, 1, 3] rfl)
    · replace hf := zIf_t hf hc
      refine lv_iconst (v := 0) C.1.1 C.1.2.1 dX10_opsOf_39 (by decide) ?_
      refine lv_goto (tgt := 44) C.1.1 C.1.2.1 dX10_opsOf_40 (by decide) ?_
      exact hJ44_8 (0 : Int32) hf H locs hP hD hS ls (lv_sub hl [0, 1, 3] rfl)
def fX10_codeTicks_L57 (mY : Rc) (mP : Rc) (x5 : Int32) (J121_12 : Int32 → Option (Int32)) (n : Nat) (x14 : Int32) (x15 : Int32) : Option (Int32) := zLp2 (fun (go16 : Int32 → Int32 → Option (Int32)) (x14 : Int32) (x15 : Int32) =>
    zGd (inb x5 96) <|
    if (mP 10 x5.toNatClampNeg) ≤ x15 then (
      J121_12 x14
    ) else (
      zGd (inb x15 700) <|
      if (mP 11 x15.toNatClampNeg) = (2 : Int32) then (
        zLet (x14 + (mY 4 0)) fun x21 =>
        zLet (x15 + 1) fun x22 =>
        go16 x21 x22
      ) else (
        zGd (inb x15 700) <|
        if (9 : Int32) ≤ (mP 11 x15.toNatClampNeg) then (
          zLet (x14 + (0 : Int32)) fun x17 =>
          zLet (x15 + 1) fun x18 =>
          go16 x17 x18
        ) else (
          zLet (x14 + (1 : Int32)) fun x19 =>
          zLet (x15 + 1) fun x20 =>
          go16 x19 x20
        )
      )
    )
  ) n x14 x15
def fX10_codeTicks_L7 (mY : Rc) (mP : Rc) (p1 : Int32) (NN : Nat) (J127_3 : Int32 → Option (Int32)) (n : Nat) (x4 : Int32) (x5 : Int32) : Option (Int32) := zLp2 (fun (go6 : Int32 → Int32 → Option (Int32)) (x4 : Int32) (x5 : Int32) =>
    zGd (inb p1 12) <|
    if (((8 : Int32) * p1) + (mP 5 p1.toNatClampNeg)) ≤ x5 then (
      J127_3 x4
    ) else (
      zGd (inb x5 96) <|
      zJn (fun (t7 : Int32) =>
          zLet (x4 + t7) fun x9 =>
          zGd (inb x5 96) <|
          zLet (mP 9 x5.toNatClampNeg) fun x10 =>
          zJn (fun (x11 : Int32) =>
              zLet (x5 + 1) fun x13 =>
              go6 x11 x13
            ) fun J121_12 =>
          fX10_codeTicks_L57 mY mP x5 J121_12 NN x9 x10
        ) fun J44_8 =>
      if (mP 7 x5.toNatClampNeg) = (-1 : Int32) then (
        J44_8 (1 : Int32)
      ) else (
        J44_8 (2 : Int32)
      )
    )
  ) n x4 x5
def fX10_codeTicks (NN : Nat) (mY : Rc) (mP : Rc) (p1 : Int32) : Option (Int32) :=
  zLet ((8 : Int32) * p1) fun x1 =>
  zJn (fun (x2 : Int32) =>
      zGd (inb p1 12) <|
      some (x2 * (mP 4 p1.toNatClampNeg))
    ) fun J127_3 =>
  fX10_codeTicks_L7 mY mP p1 NN J127_3 NN (0 : Int32) x1
abbrev rX10_codeTicks : Room := { frames := 0, cells := 0, slots := 0, locals := 0 }
set_option maxHeartbeats 4000000 in
set_option maxRecDepth 100000 in
theorem mtX10_codeTicks (l : Launch) (dC : Nat → ClassId) (dI : Nat → Nat → Nat) (cI cB : ClassId) (bV bP bS bW bN bO : Nat → Nat) (sz : Nat) (NN : Nat) (mZ : Rc) (mY : Rc) (mB : Rc) (mL : Rc) (mU : Rc) (mJ : Rc) (mK : Rc) (mG : Rc) (mA : Rc) (mP : Rc) (p1 : Int32) {ov : Int32} (hf : fX10_codeTicks NN mY mP p1 = some ov) : zMi l yX10_codeTicks (Cond.code yX10_codeTicks cX10_codeTicks 5 (some .int) :: lw_g) rX10_codeTicks (dC, dI) [(cI, .int), (cB, .byte)] [.ref (bV 0), .int p1] sz (kX10 cI cB bV (bP 0) (bS 0) (bW 0) (bN 0) (bO 0) mZ mY mB mL mU mJ mK mG mA ++ kX8 cI cB bP mP) ov (kX10 cI cB bV (bP 0) (bS 0) (bW 0) (bN 0) (bO 0) mZ mY mB mL mU mJ mK mG mA ++ kX8 cI cB bP mP) := by
  refine zSt (cc := cX10_codeTicks) (maxL := 5) (ret := (some .int)) (own := RX10) (fun A => zQi (dC, dI) [(cI, .int), (cB, .byte)] A ov (kX10 cI cB bV (bP 0) (bS 0) (bW 0) (bN 0) (bO 0) mZ mY mB mL mU mJ mK mG mA ++ kX8 cI cB bP mP)) (by decide) rfl rfl (Nat.le_of_ble_eq_true rfl) ?_
  intro p e s m below meth c ls A H locs C hK hA hP hD hS hl
  generalize hQ : MQ below (zQi (dC, dI) [(cI, .int), (cB, .byte)] A ov (kX10 cI cB bV (bP 0) (bS 0) (bW 0) (bN 0) (bO 0) mZ mY mB mL mU mJ mK mG mA ++ kX8 cI cB bP mP)) _ s 0 0 A = QQ
  generalize ([.ref (bV 0), .int p1] : List Value).toArray = args at C hQ ⊢
  have hl : lv_has ls 5 [(0, .ref (bV 0)), (1, .int p1)] := hl
  unfold fX10_codeTicks at hf
  refine lv_iconst (v := 0) C.1.1 C.1.2.1 dX10_codeTicks_0 (by decide) ?_
  refine lv_istore_n (lv' := [(2, .int (0 : Int32)), (0, .ref (bV 0)), (1, .int p1)]) C.1.1 C.1.2.1 dX10_codeTicks_1 rfl hl (by decide) rfl (fun ls hl => ?_)
  refine lv_bipush (v := 8) C.1.1 C.1.2.1 dX10_codeTicks_2 (by decide) ?_
  refine lv_iload_n C.1.1 C.1.2.1 dX10_codeTicks_4 rfl (lv_at hl 2 rfl) ?_
  refine lv_imul C.1.1 C.1.2.1 dX10_codeTicks_5 ?_
  refine lv_topi (fun x1 ex1 => ?_)
  replace hf := zLet_at hf ex1
  refine lv_istore_n (lv' := [(3, .int x1), (2, .int (0 : Int32)), (0, .ref (bV 0)), (1, .int p1)]) C.1.1 C.1.2.1 dX10_codeTicks_6 rfl hl (by decide) rfl (fun ls hl => ?_)
  obtain ⟨J127_3, eJ127_3, hf⟩ := zJn_el hf
  have hJ127_3 : ∀ (x2 : Int32), J127_3 x2 = some ov → ∀ (H : Heap) (locs : List Loc), va_P (dC, dI) vwCl (kX10 cI cB bV (bP 0) (bS 0) (bW 0) (bN 0) (bO 0) mZ mY mB mL mU mJ mK mG mA ++ kX8 cI cB bP mP) H → va_D A (kX10 cI cB bV (bP 0) (bS 0) (bW 0) (bN 0) (bO 0) mZ mY mB mL mU mJ mK mG mA ++ kX8 cI cB bP mP) → va_S A s.heap H locs → ∀ (ls : Array Slot), lv_has ls 5 [(0, .ref (bV 0)), (1, .int p1), (2, .int x2)] → W p l e rX10_codeTicks s m args below meth c H locs 0 0 QQ (F0 m 127 ls []) := by
    intro x2 hf H locs hP hD hS ls hl
    rw [eJ127_3] at hf
    refine lv_iload_n C.1.1 C.1.2.1 dX10_codeTicks_127 rfl (lv_at hl 2 rfl) ?_
    refine lv_aload_n C.1.1 C.1.2.1 dX10_codeTicks_128 rfl (lv_at hl 0 rfl) ?_
    refine zGet (.ref (bP 0)) C.1 wuX10 hK hP 0 rfl rfl 7 (by decide) wfX10_25 rfl rfl dX10_codeTicks_129 ?_
    refine zGetN (.ref (bP 2)) C.1 wuX8 hK hP 14 rfl rfl 4 (by decide) nfX10_171 rfl rfl dX10_codeTicks_132 ?_
    refine lv_iload_n C.1.1 C.1.2.1 dX10_codeTicks_135 rfl (lv_at hl 1 rfl) ?_
    obtain ⟨hib, hf⟩ := zGd_el hf
    refine va_iald C.1.1 C.1.2.1 hK.1 hP 16 0 rfl rfl hib dX10_codeTicks_136 ?_
    refine lv_imul C.1.1 C.1.2.1 dX10_codeTicks_137 ?_
    cases hf
    rw [← hQ]
    exact zRi C hK hP hD hS dX10_codeTicks_138
  refine zLp2_ind (o := ov) (P := fun (x4 : Int32) (x5 : Int32) => ∀ (H : Heap) (locs : List Loc), va_P (dC, dI) vwCl (kX10 cI cB bV (bP 0) (bS 0) (bW 0) (bN 0) (bO 0) mZ mY mB mL mU mJ mK mG mA ++ kX8 cI cB bP mP) H → va_D A (kX10 cI cB bV (bP 0) (bS 0) (bW 0) (bN 0) (bO 0) mZ mY mB mL mU mJ mK mG mA ++ kX8 cI cB bP mP) → va_S A s.heap H locs → ∀ (ls : Array Slot), lv_has ls 5 [(0, .ref (bV 0)), (1, .int p1), (2, .int x4), (3, .int x5)] → W p l e rX10_codeTicks s m args below meth c H locs 0 0 QQ (F0 m 7 ls [])) (fun go6 ihgo6 x4 x5 hf H locs hP hD hS ls hl => ?_) _ (0 : Int32) x1 hf H locs hP hD hS ls (lv_sub hl [2, 3, 1, 0] rfl)
  refine lv_iload_n C.1.1 C.1.2.1 dX10_codeTicks_7 rfl (lv_at hl 3 rfl) ?_
  refine lv_bipush (v := 8) C.1.1 C.1.2.1 dX10_codeTicks_8 (by decide) ?_
  refine lv_iload_n C.1.1 C.1.2.1 dX10_codeTicks_10 rfl (lv_at hl 1 rfl) ?_
  refine lv_imul C.1.1 C.1.2.1 dX10_codeTicks_11 ?_
  refine lv_aload_n C.1.1 C.1.2.1 dX10_codeTicks_12 rfl (lv_at hl 0 rfl) ?_
  refine zGet (.ref (bP 0)) C.1 wuX10 hK hP 0 rfl rfl 7 (by decide) wfX10_25 rfl rfl dX10_codeTicks_13 ?_
  refine zGetN (.ref (bP 3)) C.1 wuX8 hK hP 14 rfl rfl 5 (by decide) nfX10_174 rfl rfl dX10_codeTicks_16 ?_
  refine lv_iload_n C.1.1 C.1.2.1 dX10_codeTicks_19 rfl (lv_at hl 1 rfl) ?_
  obtain ⟨hib, hf⟩ := zGd_el hf
  refine va_iald C.1.1 C.1.2.1 hK.1 hP 17 0 rfl rfl hib dX10_codeTicks_20 ?_
  refine lv_iadd C.1.1 C.1.2.1 dX10_codeTicks_21 ?_
  refine lv_icmp_ge (tgt := 127) C.1.1 C.1.2.1 dX10_codeTicks_22 (by decide) (fun hc => ?_) (fun hc => ?_)
  · replace hf := zIf_t hf hc
    exact hJ127_3 x4 hf H locs hP hD hS ls (lv_sub hl [0, 1, 2] rfl)
  · replace hf := zIf_f hf hc
    refine lv_iload_n C.1.1 C.1.2.1 dX10_codeTicks_25 rfl (lv_at hl 2 rfl) ?_
    refine lv_aload_n C.1.1 C.1.2.1 dX10_codeTicks_26 rfl (lv_at hl 0 rfl) ?_
    refine zGet (.ref (bP 0)) C.1 wuX10 hK hP 0 rfl rfl 7 (by decide) wfX10_25 rfl rfl dX10_codeTicks_27 ?_
    refine zGetN (.ref (bP 5)) C.1 wuX8 hK hP 14 rfl rfl 7 (by decide) nfX10_192 rfl rfl dX10_codeTicks_30 ?_
    refine lv_iload_n C.1.1 C.1.2.1 dX10_codeTicks_33 rfl (lv_at hl 3 rfl) ?_
    obtain ⟨hib, hf⟩ := zGd_el hf
    refine va_iald C.1.1 C.1.2.1 hK.1 hP 19 0 rfl rfl hib dX10_codeTicks_34 ?_
    refine lv_iconst (v := (-1)) C.1.1 C.1.2.1 dX10_codeTicks_35 (by decide) ?_
    obtain ⟨J44_8, eJ44_8, hf⟩ := zJn_el hf
    have hJ44_8 : ∀ (t7 : Int32), J44_8 t7 = some ov → ∀ (H : Heap) (locs : List Loc), va_P (dC, dI) vwCl (kX10 cI cB bV (bP 0) (bS 0) (bW 0) (bN 0) (bO 0) mZ mY mB mL mU mJ mK mG mA ++ kX8 cI cB bP mP) H → va_D A (kX10 cI cB bV (bP 0) (bS 0) (bW 0) (bN 0) (bO 0) mZ mY mB mL mU mJ mK mG mA ++ kX8 cI cB bP mP) → va_S A s.heap H locs → ∀ (ls : Array Slot), lv_has ls 5 [(0, .ref (bV 0)), (1, .int p1), (3, .int x5)] → W p l e rX10_codeTicks s m args below meth c H locs 0 0 QQ (F0 m 44 ls [.int t7, .int x4]) := by
      intro t7 hf H locs hP hD hS ls hl
      rw [eJ44_8] at hf
      refine lv_iadd C.1.1 C.1.2.1 dX10_codeTicks_44 ?_
      refine lv_topi (fun x9 ex9 => ?_)
      replace hf := zLet_at hf ex9
      refine lv_istore_n (lv' := [(2, .int x9), (0, .ref (bV 0)), (1, .int p1), (3, .int x5)]) C.1.1 C.1.2.1 dX10_codeTicks_45 rfl hl (by decide) rfl (fun ls hl => ?_)
      refine lv_aload_n C.1.1 C.1.2.1 dX10_codeTicks_46 rfl (lv_at hl 1 rfl) ?_
      refine zGet (.ref (bP 0)) C.1 wuX10 hK hP 0 rfl rfl 7 (by decide) wfX10_25 rfl rfl dX10_codeTicks_47 ?_
      refine zGetN (.ref (bP 7)) C.1 wuX8 hK hP 14 rfl rfl 9 (by decide) nfX10_201 rfl rfl dX10_codeTicks_50 ?_
      refine lv_iload_n C.1.1 C.1.2.1 dX10_codeTicks_53 rfl (lv_at hl 3 rfl) ?_
      obtain ⟨hib, hf⟩ := zGd_el hf
      refine va_iald C.1.1 C.1.2.1 hK.1 hP 21 0 rfl rfl hib dX10_codeTicks_54 ?_
      refine lv_topi (fun x10 ex10 => ?_)
      replace hf := zLet_at hf ex10
      refine lv_istore (lv' := [(4, .int x10), (2, .int x9), (0, .ref (bV 0)), (1, .int p1), (3, .int x5)]) C.1.1 C.1.2.1 dX10_codeTicks_55 hl (by decide) rfl (fun ls hl => ?_)
      obtain ⟨J121_12, eJ121_12, hf⟩ := zJn_el hf
      have hJ121_12 : ∀ (x11 : Int32), J121_12 x11 = some ov → ∀ (H : Heap) (locs : List Loc), va_P (dC, dI) vwCl (kX10 cI cB bV (bP 0) (bS 0) (bW 0) (bN 0) (bO 0) mZ mY mB mL mU mJ mK mG mA ++ kX8 cI cB bP mP) H → va_D A (kX10 cI cB bV (bP 0) (bS 0) (bW 0) (bN 0) (bO 0) mZ mY mB mL mU mJ mK mG mA ++ kX8 cI cB bP mP) → va_S A s.heap H locs → ∀ (ls : Array Slot), lv_has ls 5 [(0, .ref (bV 0)), (1, .int p1), (2, .int x11), (3, .int x5)] → W p l e rX10_codeTicks s m args below meth c H locs 0 0 QQ (F0 m 121 ls []) := by
        intro x11 hf H locs hP hD hS ls hl
        rw [eJ121_12] at hf
        obtain ⟨x13, ex13, hf⟩ := zLet_el hf
        refine lv_iinc (v := x13) (lv' := [(3, .int x13), (0, .ref (bV 0)), (1, .int p1), (2, .int x11)]) C.1.1 C.1.2.1 dX10_codeTicks_121 hl (k := 3) rfl (by rw [ex13]; rfl) (by decide) rfl (fun ls hl => ?_)
        refine lv_goto (tgt := 7) C.1.1 C.1.2.1 dX10_codeTicks_124 (by decide) ?_
        exact ihgo6 x11 x13 hf H locs hP hD hS ls (lv_sub hl [1, 2, 3, 0] rfl)
      refine zLp2_ind (o := ov) (P := fun (x14 : Int32) (x15 : Int32) => ∀ (H : Heap) (locs : List Loc), va_P (dC, dI) vwCl (kX10 cI cB bV (bP 0) (bS 0) (bW 0) (bN 0) (bO 0) mZ mY mB mL mU mJ mK mG mA ++ kX8 cI cB bP mP) H → va_D A (kX10 cI cB bV (bP 0) (bS 0) (bW 0) (bN 0) (bO 0) mZ mY mB mL mU mJ mK mG mA ++ kX8 cI cB bP mP) → va_S A s.heap H locs → ∀ (ls : Array Slot), lv_has ls 5 [(0, .ref (bV 0)), (1, .int p1), (2, .int x14), (3, .int x5), (4, .int x15)] → W p l e rX10_codeTicks s m args below meth c H locs 0 0 QQ (F0 m 57 ls [])) (fun go16 ihgo16 x14 x15 hf H locs hP hD hS ls hl => ?_) _ x9 x10 hf H locs hP hD hS ls (lv_sub hl [2, 3, 1, 4, 0] rfl)
      refine lv_iload C.1.1 C.1.2.1 dX10_codeTicks_57 (lv_at hl 4 rfl) ?_
      refine lv_aload_n C.1.1 C.1.2.1 dX10_codeTicks_59 rfl (lv_at hl 0 rfl) ?_
      refine zGet (.ref (bP 0)) C.1 wuX10 hK hP 0 rfl rfl 7 (by decide) wfX10_25 rfl rfl dX10_codeTicks_60 ?_
      refine zGetN (.ref (bP 8)) C.1 wuX8 hK hP 14 rfl rfl 10 (by decide) nfX10_207 rfl rfl dX10_codeTicks_63 ?_
      refine lv_iload_n C.1.1 C.1.2.1 dX10_codeTicks_66 rfl (lv_at hl 3 rfl) ?_
      obtain ⟨hib, hf⟩ := zGd_el hf
      refine va_iald C.1.1 C.1.2.1 hK.1 hP 22 0 rfl rfl hib dX10_codeTicks_67 ?_
      refine lv_icmp_ge (tgt := 121) C.1.1 C.1.2.1 dX10_codeTicks_68 (by decide) (fun hc => ?_) (fun hc => ?_)
      · replace hf := zIf_t hf hc
        exact hJ121_12 x14 hf H locs hP hD hS ls (lv_sub hl [0, 1, 2, 3] rfl)
      · replace hf := zIf_f hf hc
        refine lv_iload_n C.1.1 C.1.2.1 dX10_codeTicks_71 rfl (lv_at hl 2 rfl) ?_
        refine lv_aload_n C.1.1 C.1.2.1 dX10_codeTicks_72 rfl (lv_at hl 0 rfl) ?_
        refine zGet (.ref (bP 0)) C.1 wuX10 hK hP 0 rfl rfl 7 (by decide) wfX10_25 rfl rfl dX10_codeTicks_73 ?_
        refine zGetN (.ref (bP 9)) C.1 wuX8 hK hP 14 rfl rfl 11 (by decide) nfX10_245 rfl rfl dX10_codeTicks_76 ?_
        refine lv_iload C.1.1 C.1.2.1 dX10_codeTicks_79 (lv_at hl 4 rfl) ?_
        obtain ⟨hib, hf⟩ := zGd_el hf
        refine va_iald C.1.1 C.1.2.1 hK.1 hP 23 0 rfl rfl hib dX10_codeTicks_81 ?_
        refine lv_iconst (v := 2) C.1.1 C.1.2.1 dX10_codeTicks_82 (by decide) ?_
        refine lv_icmp_ne (tgt := 93) C.1.1 C.1.2.1 dX10_codeTicks_83 (by decide) (fun hc => ?_) (fun hc => ?_)
        · replace hf := zIf_f hf hc
          refine lv_aload_n C.1.1 C.1.2.1 dX10_codeTicks_93 rfl (lv_at hl 0 rfl) ?_
          refine zGet (.ref (bP 0)) C.1 wuX10 hK hP 0 rfl rfl 7 (by decide) wfX10_25 rfl rfl dX10_codeTicks_94 ?_
          refine zGetN (.ref (bP 9)) C.1 wuX8 hK hP 14 rfl rfl 11 (by decide) nfX10_245 rfl rfl dX10_codeTicks_97 ?_
          refine lv_iload C.1.1 C.1.2.1 dX10_codeTicks_100 (lv_at hl 4 rfl) ?_
          obtain ⟨hib, hf⟩ := zGd_el hf
          refine va_iald C.1.1 C.1.2.1 hK.1 hP 23 0 rfl rfl hib dX10_codeTicks_102 ?_
          refine lv_bipush (v := 9) C.1.1 C.1.2.1 dX10_codeTicks_103 (by decide) ?_
          refine lv_icmp_ge (tgt := 112) C.1.1 C.1.2.1 dX10_codeTicks_105 (by decide) (fun hc => ?_) (fun hc => ?_)
          · replace hf := zIf_t hf hc
            refine lv_iconst (v := 0) C.1.1 C.1.2.1 dX10_codeTicks_112 (by decide) ?_
            refine lv_iadd C.1.1 C.1.2.1 dX10_codeTicks_113 ?_
            refine lv_topi (fun x17 ex17 => ?_)
            replace hf := zLet_at hf ex17
            refine lv_istore_n (lv' := [(2, .int x17), (0, .ref (bV 0)), (1, .int p1), (3, .int x5), (4, .int x15)]) C.1.1 C.1.2.1 dX10_codeTicks_114 rfl hl (by decide) rfl (fun ls hl => ?_)
            obtain ⟨x18, ex18, hf⟩ := zLet_el hf
            refine lv_iinc (v := x18) (lv' := [(4, .int x18), (2, .int x17), (0, .ref (bV 0)), (1, .int p1), (3, .int x5)]) C.1.1 C.1.2.1 dX10_codeTicks_115 hl (k := 4) rfl (by rw [ex18]; rfl) (by decide) rfl (fun ls hl => ?_)
            refine lv_goto (tgt := 57) C.1.1 C.1.2.1 dX10_codeTicks_118 (by decide) ?_
            exact ihgo16 x17 x18 hf H locs hP hD hS ls (lv_sub hl [2, 3, 1, 4, 0] rfl)
          · replace hf := zIf_f hf hc
            refine lv_iconst (v := 1) C.1.1 C.1.2.1 dX10_codeTicks_108 (by decide) ?_
            refine lv_goto (tgt := 113) C.1.1 C.1.2.1 dX10_codeTicks_109 (by decide) ?_
            refine lv_iadd C.1.1 C.1.2.1 dX10_codeTicks_113 ?_
            refine lv_topi (fun x19 ex19 => ?_)
            replace hf := zLet_at hf ex19
            refine lv_istore_n (lv' := [(2, .int x19), (0, .ref (bV 0)), (1, .int p1), (3, .int x5), (4, .int x15)]) C.1.1 C.1.2.1 dX10_codeTicks_114 rfl hl (by decide) rfl (fun ls hl => ?_)
            obtain ⟨x20, ex20, hf⟩ := zLet_el hf
            refine lv_iinc (v := x20) (lv' := [(4, .int x20), (2, .int x19), (0, .ref (bV 0)), (1, .int p1), (3, .int x5)]) C.1.1 C.1.2.1 dX10_codeTicks_115 hl (k := 4) rfl (by rw [ex20]; rfl) (by decide) rfl (fun ls hl => ?_)
            refine lv_goto (tgt := 57) C.1.1 C.1.2.1 dX10_codeTicks_118 (by decide) ?_
            exact ihgo16 x19 x20 hf H locs hP hD hS ls (lv_sub hl [2, 3, 1, 4, 0] rfl)
        · replace hf := zIf_t hf hc
          refine lv_aload_n C.1.1 C.1.2.1 dX10_codeTicks_86 rfl (lv_at hl 0 rfl) ?_
          refine zGet (.int (mY 4 0)) C.1 wuX10 hK hP 0 rfl rfl 4 (by decide) wfX10_13 rfl rfl dX10_codeTicks_87 ?_
          refine lv_goto (tgt := 113) C.1.1 C.1.2.1 dX10_codeTicks_90 (by decide) ?_
          refine lv_iadd C.1.1 C.1.2.1 dX10_codeTicks_113 ?_
          refine lv_topi (fun x21 ex21 => ?_)
          replace hf := zLet_at hf ex21
          refine lv_istore_n (lv' := [(2, .int x21), (0, .ref (bV 0)), (1, .int p1), (3, .int x5), (4, .int x15)]) C.1.1 C.1.2.1 dX10_codeTicks_114 rfl hl (by decide) rfl (fun ls hl => ?_)
          obtain ⟨x22, ex22, hf⟩ := zLet_el hf
          refine lv_iinc (v := x22) (lv' := [(4, .int x22), (2, .int x21), (0, .ref (bV 0)), (1, .int p1), (3, .int x5)]) C.1.1 C.1.2.1 dX10_codeTicks_115 hl (k := 4) rfl (by rw [ex22]; rfl) (by decide) rfl (fun ls hl => ?_)
          refine lv_goto (tgt := 57) C.1.1 C.1.2.1 dX10_codeTicks_118 (by decide) ?_
          exact ihgo16 x21 x22 hf H locs hP hD hS ls (lv_sub hl [2, 3, 1, 4, 0] rfl)
    refine lv_icmp_ne (tgt := 43) C.1.1 C.1.2.1 dX10_codeTicks_36 (by decide) (fun hc => ?_) (fun hc => ?_)
    · replace hf := zIf_f hf hc
      refine lv_iconst (v := 2) C.1.1 C.1.2.1 dX10_codeTicks_43 (by decide) ?_
      exact hJ44_8 (2 : Int32) hf H locs hP hD hS ls (lv_sub hl [0, 1, 3] rfl)
    · replace hf := zIf_t hf hc
      refine lv_iconst (v := 1) C.1.1 C.1.2.1 dX10_codeTicks_39 (by decide) ?_
      refine lv_goto (tgt := 44) C.1.1 C.1.2.1 dX10_codeTicks_40 (by decide) ?_
      exact hJ44_8 (1 : Int32) hf H locs hP hD hS ls (lv_sub hl [0, 1, 3] rfl)
def fX10_gatesFor_L62 (mY : Rc) (mP : Rc) (x5 : Int32) (J118_12 : Int32 → Option (Int32)) (n : Nat) (x14 : Int32) (x15 : Int32) : Option (Int32) := zLp2 (fun (go16 : Int32 → Int32 → Option (Int32)) (x14 : Int32) (x15 : Int32) =>
    zGd (inb x5 96) <|
    if (mP 10 x5.toNatClampNeg) ≤ x15 then (
      J118_12 x14
    ) else (
      zGd (inb x15 700) <|
      if (9 : Int32) ≤ (mP 11 x15.toNatClampNeg) then (
        zLet (x14 + (0 : Int32)) fun x17 =>
        zLet (x15 + 1) fun x18 =>
        go16 x17 x18
      ) else (
        zGd (inb x15 700) <|
        zB1 (fX10_gatesOf mY (mP 11 x15.toNatClampNeg)) fun v19 =>
        zLet (x14 + v19) fun x20 =>
        zLet (x15 + 1) fun x21 =>
        go16 x20 x21
      )
    )
  ) n x14 x15
def fX10_gatesFor_L7 (mY : Rc) (mP : Rc) (p1 : Int32) (NN : Nat) (J124_3 : Int32 → Option (Int32)) (n : Nat) (x4 : Int32) (x5 : Int32) : Option (Int32) := zLp2 (fun (go6 : Int32 → Int32 → Option (Int32)) (x4 : Int32) (x5 : Int32) =>
    zGd (inb p1 12) <|
    if (((8 : Int32) * p1) + (mP 5 p1.toNatClampNeg)) ≤ x5 then (
      J124_3 x4
    ) else (
      zGd (inb x5 96) <|
      zJn (fun (t7 : Int32) =>
          zLet (x4 + t7) fun x9 =>
          zGd (inb x5 96) <|
          zLet (mP 9 x5.toNatClampNeg) fun x10 =>
          zJn (fun (x11 : Int32) =>
              zLet (x5 + 1) fun x13 =>
              go6 x11 x13
            ) fun J118_12 =>
          fX10_gatesFor_L62 mY mP x5 J118_12 NN x9 x10
        ) fun J49_8 =>
      if (mP 7 x5.toNatClampNeg) = (-1 : Int32) then (
        J49_8 (0 : Int32)
      ) else (
        zB1 (fX10_gatesOf mY (8 : Int32)) fun v22 =>
        J49_8 v22
      )
    )
  ) n x4 x5
def fX10_gatesFor (NN : Nat) (mY : Rc) (mP : Rc) (p1 : Int32) : Option (Int32) :=
  zLet ((8 : Int32) * p1) fun x1 =>
  zJn (fun (x2 : Int32) =>
      some x2
    ) fun J124_3 =>
  fX10_gatesFor_L7 mY mP p1 NN J124_3 NN (0 : Int32) x1
abbrev rX10_gatesFor : Room := { frames := 1, cells := 0, slots := 0, locals := 21 }
set_option maxHeartbeats 4000000 in
set_option maxRecDepth 100000 in
theorem mtX10_gatesFor (l : Launch) (dC : Nat → ClassId) (dI : Nat → Nat → Nat) (cI cB : ClassId) (bV bP bS bW bN bO : Nat → Nat) (sz : Nat) (NN : Nat) (mZ : Rc) (mY : Rc) (mB : Rc) (mL : Rc) (mU : Rc) (mJ : Rc) (mK : Rc) (mG : Rc) (mA : Rc) (mP : Rc) (p1 : Int32) {ov : Int32} (hf : fX10_gatesFor NN mY mP p1 = some ov) : zMi l yX10_gatesFor (Cond.code yX10_gatesFor cX10_gatesFor 5 (some .int) :: lw_g) rX10_gatesFor (dC, dI) [(cI, .int), (cB, .byte)] [.ref (bV 0), .int p1] sz (kX10 cI cB bV (bP 0) (bS 0) (bW 0) (bN 0) (bO 0) mZ mY mB mL mU mJ mK mG mA ++ kX8 cI cB bP mP) ov (kX10 cI cB bV (bP 0) (bS 0) (bW 0) (bN 0) (bO 0) mZ mY mB mL mU mJ mK mG mA ++ kX8 cI cB bP mP) := by
  refine zSt (cc := cX10_gatesFor) (maxL := 5) (ret := (some .int)) (own := RX10) (fun A => zQi (dC, dI) [(cI, .int), (cB, .byte)] A ov (kX10 cI cB bV (bP 0) (bS 0) (bW 0) (bN 0) (bO 0) mZ mY mB mL mU mJ mK mG mA ++ kX8 cI cB bP mP)) (by decide) rfl rfl (Nat.le_of_ble_eq_true rfl) ?_
  intro p e s m below meth c ls A H locs C hK hA hP hD hS hl
  generalize hQ : MQ below (zQi (dC, dI) [(cI, .int), (cB, .byte)] A ov (kX10 cI cB bV (bP 0) (bS 0) (bW 0) (bN 0) (bO 0) mZ mY mB mL mU mJ mK mG mA ++ kX8 cI cB bP mP)) _ s 0 0 A = QQ
  generalize ([.ref (bV 0), .int p1] : List Value).toArray = args at C hQ ⊢
  have hl : lv_has ls 5 [(0, .ref (bV 0)), (1, .int p1)] := hl
  unfold fX10_gatesFor at hf
  refine lv_iconst (v := 0) C.1.1 C.1.2.1 dX10_gatesFor_0 (by decide) ?_
  refine lv_istore_n (lv' := [(2, .int (0 : Int32)), (0, .ref (bV 0)), (1, .int p1)]) C.1.1 C.1.2.1 dX10_gatesFor_1 rfl hl (by decide) rfl (fun ls hl => ?_)
  refine lv_bipush (v := 8) C.1.1 C.1.2.1 dX10_gatesFor_2 (by decide) ?_
  refine lv_iload_n C.1.1 C.1.2.1 dX10_gatesFor_4 rfl (lv_at hl 2 rfl) ?_
  refine lv_imul C.1.1 C.1.2.1 dX10_gatesFor_5 ?_
  refine lv_topi (fun x1 ex1 => ?_)
  replace hf := zLet_at hf ex1
  refine lv_istore_n (lv' := [(3, .int x1), (2, .int (0 : Int32)), (0, .ref (bV 0)), (1, .int p1)]) C.1.1 C.1.2.1 dX10_gatesFor_6 rfl hl (by decide) rfl (fun ls hl => ?_)
  obtain ⟨J124_3, eJ124_3, hf⟩ := zJn_el hf
  have hJ124_3 : ∀ (x2 : Int32), J124_3 x2 = some ov → ∀ (H : Heap) (locs : List Loc), va_P (dC, dI) vwCl (kX10 cI cB bV (bP 0) (bS 0) (bW 0) (bN 0) (bO 0) mZ mY mB mL mU mJ mK mG mA ++ kX8 cI cB bP mP) H → va_D A (kX10 cI cB bV (bP 0) (bS 0) (bW 0) (bN 0) (bO 0) mZ mY mB mL mU mJ mK mG mA ++ kX8 cI cB bP mP) → va_S A s.heap H locs → ∀ (ls : Array Slot), lv_has ls 5 [(2, .int x2)] → W p l e rX10_gatesFor s m args below meth c H locs 0 0 QQ (F0 m 124 ls []) := by
    intro x2 hf H locs hP hD hS ls hl
    rw [eJ124_3] at hf
    refine lv_iload_n C.1.1 C.1.2.1 dX10_gatesFor_124 rfl (lv_at hl 0 rfl) ?_
    cases hf
    rw [← hQ]
    exact zRi C hK hP hD hS dX10_gatesFor_125
  refine zLp2_ind (o := ov) (P := fun (x4 : Int32) (x5 : Int32) => ∀ (H : Heap) (locs : List Loc), va_P (dC, dI) vwCl (kX10 cI cB bV (bP 0) (bS 0) (bW 0) (bN 0) (bO 0) mZ mY mB mL mU mJ mK mG mA ++ kX8 cI cB bP mP) H → va_D A (kX10 cI cB bV (bP 0) (bS 0) (bW 0) (bN 0) (bO 0) mZ mY mB mL mU mJ mK mG mA ++ kX8 cI cB bP mP) → va_S A s.heap H locs → ∀ (ls : Array Slot), lv_has ls 5 [(0, .ref (bV 0)), (1, .int p1), (2, .int x4), (3, .int x5)] → W p l e rX10_gatesFor s m args below meth c H locs 0 0 QQ (F0 m 7 ls [])) (fun go6 ihgo6 x4 x5 hf H locs hP hD hS ls hl => ?_) _ (0 : Int32) x1 hf H locs hP hD hS ls (lv_sub hl [2, 3, 1, 0] rfl)
  refine lv_iload_n C.1.1 C.1.2.1 dX10_gatesFor_7 rfl (lv_at hl 3 rfl) ?_
  refine lv_bipush (v := 8) C.1.1 C.1.2.1 dX10_gatesFor_8 (by decide) ?_
  refine lv_iload_n C.1.1 C.1.2.1 dX10_gatesFor_10 rfl (lv_at hl 1 rfl) ?_
  refine lv_imul C.1.1 C.1.2.1 dX10_gatesFor_11 ?_
  refine lv_aload_n C.1.1 C.1.2.1 dX10_gatesFor_12 rfl (lv_at hl 0 rfl) ?_
  refine zGet (.ref (bP 0)) C.1 wuX10 hK hP 0 rfl rfl 7 (by decide) wfX10_25 rfl rfl dX10_gatesFor_13 ?_
  refine zGetN (.ref (bP 3)) C.1 wuX8 hK hP 14 rfl rfl 5 (by decide) nfX10_174 rfl rfl dX10_gatesFor_16 ?_
  refine lv_iload_n C.1.1 C.1.2.1 dX10_gatesFor_19 rfl (lv_at hl 1 rfl) ?_
  obtain ⟨hib, hf⟩ := zGd_el hf
  refine va_iald C.1.1 C.1.2.1 hK.1 hP 17 0 rfl rfl hib dX10_gatesFor_20 ?_
  refine lv_iadd C.1.1 C.1.2.1 dX10_gatesFor_21 ?_
  refine lv_icmp_ge (tgt := 124) C.1.1 C.1.2.1 dX10_gatesFor_22 (by decide) (fun hc => ?_) (fun hc => ?_)
  · replace hf := zIf_t hf hc
    exact hJ124_3 x4 hf H locs hP hD hS ls (lv_sub hl [2] rfl)
  · replace hf := zIf_f hf hc
    refine lv_iload_n C.1.1 C.1.2.1 dX10_gatesFor_25 rfl (lv_at hl 2 rfl) ?_
    refine lv_aload_n C.1.1 C.1.2.1 dX10_gatesFor_26 rfl (lv_at hl 0 rfl) ?_
    refine zGet (.ref (bP 0)) C.1 wuX10 hK hP 0 rfl rfl 7 (by decide) wfX10_25 rfl rfl dX10_gatesFor_27 ?_
    refine zGetN (.ref (bP 5)) C.1 wuX8 hK hP 14 rfl rfl 7 (by decide) nfX10_192 rfl rfl dX10_gatesFor_30 ?_
    refine lv_iload_n C.1.1 C.1.2.1 dX10_gatesFor_33 rfl (lv_at hl 3 rfl) ?_
    obtain ⟨hib, hf⟩ := zGd_el hf
    refine va_iald C.1.1 C.1.2.1 hK.1 hP 19 0 rfl rfl hib dX10_gatesFor_34 ?_
    refine lv_iconst (v := (-1)) C.1.1 C.1.2.1 dX10_gatesFor_35 (by decide) ?_
    obtain ⟨J49_8, eJ49_8, hf⟩ := zJn_el hf
    have hJ49_8 : ∀ (t7 : Int32), J49_8 t7 = some ov → ∀ (H : Heap) (locs : List Loc), va_P (dC, dI) vwCl (kX10 cI cB bV (bP 0) (bS 0) (bW 0) (bN 0) (bO 0) mZ mY mB mL mU mJ mK mG mA ++ kX8 cI cB bP mP) H → va_D A (kX10 cI cB bV (bP 0) (bS 0) (bW 0) (bN 0) (bO 0) mZ mY mB mL mU mJ mK mG mA ++ kX8 cI cB bP mP) → va_S A s.heap H locs → ∀ (ls : Array Slot), lv_has ls 5 [(0, .ref (bV 0)), (1, .int p1), (3, .int x5)] → W p l e rX10_gatesFor s m args below meth c H locs 0 0 QQ (F0 m 49 ls [.int t7, .int x4]) := by
      intro t7 hf H locs hP hD hS ls hl
      rw [eJ49_8] at hf
      refine lv_iadd C.1.1 C.1.2.1 dX10_gatesFor_49 ?_
      refine lv_topi (fun x9 ex9 => ?_)
      replace hf := zLet_at hf ex9
      refine lv_istore_n (lv' := [(2, .int x9), (0, .ref (bV 0)), (1, .int p1), (3, .int x5)]) C.1.1 C.1.2.1 dX10_gatesFor_50 rfl hl (by decide) rfl (fun ls hl => ?_)
      refine lv_aload_n C.1.1 C.1.2.1 dX10_gatesFor_51 rfl (lv_at hl 1 rfl) ?_
      refine zGet (.ref (bP 0)) C.1 wuX10 hK hP 0 rfl rfl 7 (by decide) wfX10_25 rfl rfl dX10_gatesFor_52 ?_
      refine zGetN (.ref (bP 7)) C.1 wuX8 hK hP 14 rfl rfl 9 (by decide) nfX10_201 rfl rfl dX10_gatesFor_55 ?_
      refine lv_iload_n C.1.1 C.1.2.1 dX10_gatesFor_58 rfl (lv_at hl 3 rfl) ?_
      obtain ⟨hib, hf⟩ := zGd_el hf
      refine va_iald C.1.1 C.1.2.1 hK.1 hP 21 0 rfl rfl hib dX10_gatesFor_59 ?_
      refine lv_topi (fun x10 ex10 => ?_)
      replace hf := zLet_at hf ex10
      refine lv_istore (lv' := [(4, .int x10), (2, .int x9), (0, .ref (bV 0)), (1, .int p1), (3, .int x5)]) C.1.1 C.1.2.1 dX10_gatesFor_60 hl (by decide) rfl (fun ls hl => ?_)
      obtain ⟨J118_12, eJ118_12, hf⟩ := zJn_el hf
      have hJ118_12 : ∀ (x11 : Int32), J118_12 x11 = some ov → ∀ (H : Heap) (locs : List Loc), va_P (dC, dI) vwCl (kX10 cI cB bV (bP 0) (bS 0) (bW 0) (bN 0) (bO 0) mZ mY mB mL mU mJ mK mG mA ++ kX8 cI cB bP mP) H → va_D A (kX10 cI cB bV (bP 0) (bS 0) (bW 0) (bN 0) (bO 0) mZ mY mB mL mU mJ mK mG mA ++ kX8 cI cB bP mP) → va_S A s.heap H locs → ∀ (ls : Array Slot), lv_has ls 5 [(0, .ref (bV 0)), (1, .int p1), (2, .int x11), (3, .int x5)] → W p l e rX10_gatesFor s m args below meth c H locs 0 0 QQ (F0 m 118 ls []) := by
        intro x11 hf H locs hP hD hS ls hl
        rw [eJ118_12] at hf
        obtain ⟨x13, ex13, hf⟩ := zLet_el hf
        refine lv_iinc (v := x13) (lv' := [(3, .int x13), (0, .ref (bV 0)), (1, .int p1), (2, .int x11)]) C.1.1 C.1.2.1 dX10_gatesFor_118 hl (k := 3) rfl (by rw [ex13]; rfl) (by decide) rfl (fun ls hl => ?_)
        refine lv_goto (tgt := 7) C.1.1 C.1.2.1 dX10_gatesFor_121 (by decide) ?_
        exact ihgo6 x11 x13 hf H locs hP hD hS ls (lv_sub hl [1, 2, 3, 0] rfl)
      refine zLp2_ind (o := ov) (P := fun (x14 : Int32) (x15 : Int32) => ∀ (H : Heap) (locs : List Loc), va_P (dC, dI) vwCl (kX10 cI cB bV (bP 0) (bS 0) (bW 0) (bN 0) (bO 0) mZ mY mB mL mU mJ mK mG mA ++ kX8 cI cB bP mP) H → va_D A (kX10 cI cB bV (bP 0) (bS 0) (bW 0) (bN 0) (bO 0) mZ mY mB mL mU mJ mK mG mA ++ kX8 cI cB bP mP) → va_S A s.heap H locs → ∀ (ls : Array Slot), lv_has ls 5 [(0, .ref (bV 0)), (1, .int p1), (2, .int x14), (3, .int x5), (4, .int x15)] → W p l e rX10_gatesFor s m args below meth c H locs 0 0 QQ (F0 m 62 ls [])) (fun go16 ihgo16 x14 x15 hf H locs hP hD hS ls hl => ?_) _ x9 x10 hf H locs hP hD hS ls (lv_sub hl [2, 3, 1, 4, 0] rfl)
      refine lv_iload C.1.1 C.1.2.1 dX10_gatesFor_62 (lv_at hl 4 rfl) ?_
      refine lv_aload_n C.1.1 C.1.2.1 dX10_gatesFor_64 rfl (lv_at hl 0 rfl) ?_
      refine zGet (.ref (bP 0)) C.1 wuX10 hK hP 0 rfl rfl 7 (by decide) wfX10_25 rfl rfl dX10_gatesFor_65 ?_
      refine zGetN (.ref (bP 8)) C.1 wuX8 hK hP 14 rfl rfl 10 (by decide) nfX10_207 rfl rfl dX10_gatesFor_68 ?_
      refine lv_iload_n C.1.1 C.1.2.1 dX10_gatesFor_71 rfl (lv_at hl 3 rfl) ?_
      obtain ⟨hib, hf⟩ := zGd_el hf
      refine va_iald C.1.1 C.1.2.1 hK.1 hP 22 0 rfl rfl hib dX10_gatesFor_72 ?_
      refine lv_icmp_ge (tgt := 118) C.1.1 C.1.2.1 dX10_gatesFor_73 (by decide) (fun hc => ?_) (fun hc => ?_)
      · replace hf := zIf_t hf hc
        exact hJ118_12 x14 hf H locs hP hD hS ls (lv_sub hl [0, 1, 2, 3] rfl)
      · replace hf := zIf_f hf hc
        refine lv_iload_n C.1.1 C.1.2.1 dX10_gatesFor_76 rfl (lv_at hl 2 rfl) ?_
        refine lv_aload_n C.1.1 C.1.2.1 dX10_gatesFor_77 rfl (lv_at hl 0 rfl) ?_
        refine zGet (.ref (bP 0)) C.1 wuX10 hK hP 0 rfl rfl 7 (by decide) wfX10_25 rfl rfl dX10_gatesFor_78 ?_
        refine zGetN (.ref (bP 9)) C.1 wuX8 hK hP 14 rfl rfl 11 (by decide) nfX10_245 rfl rfl dX10_gatesFor_81 ?_
        refine lv_iload C.1.1 C.1.2.1 dX10_gatesFor_84 (lv_at hl 4 rfl) ?_
        obtain ⟨hib, hf⟩ := zGd_el hf
        refine va_iald C.1.1 C.1.2.1 hK.1 hP 23 0 rfl rfl hib dX10_gatesFor_86 ?_
        refine lv_bipush (v := 9) C.1.1 C.1.2.1 dX10_gatesFor_87 (by decide) ?_
        refine lv_icmp_ge (tgt := 109) C.1.1 C.1.2.1 dX10_gatesFor_89 (by decide) (fun hc => ?_) (fun hc => ?_)
        · replace hf := zIf_t hf hc
          refine lv_iconst (v := 0) C.1.1 C.1.2.1 dX10_gatesFor_109 (by decide) ?_
          refine lv_iadd C.1.1 C.1.2.1 dX10_gatesFor_110 ?_
          refine lv_topi (fun x17 ex17 => ?_)
          replace hf := zLet_at hf ex17
          refine lv_istore_n (lv' := [(2, .int x17), (0, .ref (bV 0)), (1, .int p1), (3, .int x5), (4, .int x15)]) C.1.1 C.1.2.1 dX10_gatesFor_111 rfl hl (by decide) rfl (fun ls hl => ?_)
          obtain ⟨x18, ex18, hf⟩ := zLet_el hf
          refine lv_iinc (v := x18) (lv' := [(4, .int x18), (2, .int x17), (0, .ref (bV 0)), (1, .int p1), (3, .int x5)]) C.1.1 C.1.2.1 dX10_gatesFor_112 hl (k := 4) rfl (by rw [ex18]; rfl) (by decide) rfl (fun ls hl => ?_)
          refine lv_goto (tgt := 62) C.1.1 C.1.2.1 dX10_gatesFor_115 (by decide) ?_
          exact ihgo16 x17 x18 hf H locs hP hD hS ls (lv_sub hl [2, 3, 1, 4, 0] rfl)
        · replace hf := zIf_f hf hc
          refine lv_aload_n C.1.1 C.1.2.1 dX10_gatesFor_92 rfl (lv_at hl 0 rfl) ?_
          refine lv_aload_n C.1.1 C.1.2.1 dX10_gatesFor_93 rfl (lv_at hl 0 rfl) ?_
          refine zGet (.ref (bP 0)) C.1 wuX10 hK hP 0 rfl rfl 7 (by decide) wfX10_25 rfl rfl dX10_gatesFor_94 ?_
          refine zGetN (.ref (bP 9)) C.1 wuX8 hK hP 14 rfl rfl 11 (by decide) nfX10_245 rfl rfl dX10_gatesFor_97 ?_
          refine lv_iload C.1.1 C.1.2.1 dX10_gatesFor_100 (lv_at hl 4 rfl) ?_
          obtain ⟨hib, hf⟩ := zGd_el hf
          refine va_iald C.1.1 C.1.2.1 hK.1 hP 23 0 rfl rfl hib dX10_gatesFor_102 ?_
          obtain ⟨v19, hg, hf⟩ := zB1_el hf
          refine zCVi (As := [.int (mP 11 x15.toNatClampNeg)]) (rest := [.int x14]) (wr := (kX8 cI cB bP mP)) (wn := (kX10 cI cB bV (bP 0) (bS 0) (bW 0) (bN 0) (bO 0) mZ mY mB mL mU mJ mK mG mA ++ kX8 cI cB bP mP)) C.1 hK hA hP hD hS [0, 1, 2, 3, 4, 5, 6, 7, 8, 9, 10, 11, 12, 13] [14, 15, 16, 17, 18, 19, 20, 21, 22, 23, 24] [11, 12, 13, 14, 15, 16, 17, 18, 19, 20, 21, 22, 23, 24, 0, 1, 2, 3, 4, 5, 6, 7, 8, 9, 10] 0 (mtX10_gatesOf l dC dI cI cB bV bP bS bW bN bO H.size mZ mY mB mL mU mJ mK mG mA (mP 11 x15.toNatClampNeg) hg) (zCwV 1 C.1 wlX10_248 wiX10_gatesOf ws_X10_gatesOf wnX10 wkX10_gatesOf rfl rfl (by decide +kernel) ⟨Nat.le_of_ble_eq_true rfl, Nat.le_of_ble_eq_true rfl⟩) rfl rfl (by decide +kernel) rfl rfl rfl rfl hl.1 (Nat.le_of_ble_eq_true rfl) dX10_gatesFor_103 ⟨Nat.zero_le _, Nat.zero_le _⟩ rfl (fun H locs hP hD hS => ?_)
          refine lv_goto (tgt := 110) C.1.1 C.1.2.1 dX10_gatesFor_106 (by decide) ?_
          refine lv_iadd C.1.1 C.1.2.1 dX10_gatesFor_110 ?_
          refine lv_topi (fun x20 ex20 => ?_)
          replace hf := zLet_at hf ex20
          refine lv_istore_n (lv' := [(2, .int x20), (0, .ref (bV 0)), (1, .int p1), (3, .int x5), (4, .int x15)]) C.1.1 C.1.2.1 dX10_gatesFor_111 rfl hl (by decide) rfl (fun ls hl => ?_)
          obtain ⟨x21, ex21, hf⟩ := zLet_el hf
          refine lv_iinc (v := x21) (lv' := [(4, .int x21), (2, .int x20), (0, .ref (bV 0)), (1, .int p1), (3, .int x5)]) C.1.1 C.1.2.1 dX10_gatesFor_112 hl (k := 4) rfl (by rw [ex21]; rfl) (by decide) rfl (fun ls hl => ?_)
          refine lv_goto (tgt := 62) C.1.1 C.1.2.1 dX10_gatesFor_115 (by decide) ?_
          exact ihgo16 x20 x21 hf H locs hP hD hS ls (lv_sub hl [2, 3, 1, 4, 0] rfl)
    refine lv_icmp_ne (tgt := 43) C.1.1 C.1.2.1 dX10_gatesFor_36 (by decide) (fun hc => ?_) (fun hc => ?_)
    · replace hf := zIf_f hf hc
      refine lv_aload_n C.1.1 C.1.2.1 dX10_gatesFor_43 rfl (lv_at hl 0 rfl) ?_
      refine lv_bipush (v := 8) C.1.1 C.1.2.1 dX10_gatesFor_44 (by decide) ?_
      obtain ⟨v22, hg, hf⟩ := zB1_el hf
      refine zCVi (As := [.int (8 : Int32)]) (rest := [.int x4]) (wr := (kX8 cI cB bP mP)) (wn := (kX10 cI cB bV (bP 0) (bS 0) (bW 0) (bN 0) (bO 0) mZ mY mB mL mU mJ mK mG mA ++ kX8 cI cB bP mP)) C.1 hK hA hP hD hS [0, 1, 2, 3, 4, 5, 6, 7, 8, 9, 10, 11, 12, 13] [14, 15, 16, 17, 18, 19, 20, 21, 22, 23, 24] [11, 12, 13, 14, 15, 16, 17, 18, 19, 20, 21, 22, 23, 24, 0, 1, 2, 3, 4, 5, 6, 7, 8, 9, 10] 0 (mtX10_gatesOf l dC dI cI cB bV bP bS bW bN bO H.size mZ mY mB mL mU mJ mK mG mA (8 : Int32) hg) (zCwV 1 C.1 wlX10_248 wiX10_gatesOf ws_X10_gatesOf wnX10 wkX10_gatesOf rfl rfl (by decide +kernel) ⟨Nat.le_of_ble_eq_true rfl, Nat.le_of_ble_eq_true rfl⟩) rfl rfl (by decide +kernel) rfl rfl rfl rfl hl.1 (Nat.le_of_ble_eq_true rfl) dX10_gatesFor_46 ⟨Nat.zero_le _, Nat.zero_le _⟩ rfl (fun H locs hP hD hS => ?_)
      exact hJ49_8 v22 hf H locs hP hD hS ls (lv_sub hl [0, 1, 3] rfl)
    · replace hf := zIf_t hf hc
      refine lv_iconst (v := 0) C.1.1 C.1.2.1 dX10_gatesFor_39 (by decide) ?_
      refine lv_goto (tgt := 49) C.1.1 C.1.2.1 dX10_gatesFor_40 (by decide) ?_
      exact hJ49_8 (0 : Int32) hf H locs hP hD hS ls (lv_sub hl [0, 1, 3] rfl)
def fX10_sumDepth_L12 (mY : Rc) (mP : Rc) (p1 : Int32) (J155_3 : Rc → Option (Int32 × Rc)) (n : Nat) (x4 : Int32) (x5 : Int32) (mU_6 : Rc) : Option (Int32 × Rc) := zLp3 (fun (go7 : Int32 → Int32 → Rc → Option (Int32 × Rc)) (x4 : Int32) (x5 : Int32) (mU_6 : Rc) =>
    zGd (inb p1 96) <|
    if (mP 10 p1.toNatClampNeg) ≤ x5 then (
      J155_3 mU_6
    ) else (
      zGd (inb x5 700) <|
      zLet (mP 11 x5.toNatClampNeg) fun x8 =>
      zJn (fun (_ : Unit) =>
          zJn (fun (t10 : Int32) =>
              zGd (inb x4 700) <|
              zLet (rs mU_6 23 (upd (mU_6 23) x4.toNatClampNeg t10)) fun mU_12 =>
              zLet (x4 + 1) fun x13 =>
              zLet (x5 + 1) fun x14 =>
              go7 x13 x14 mU_12
            ) fun J80_11 =>
          if x8 = (9 : Int32) then (
            zGd (inb x5 700) <|
            zGd (inb (mP 12 x5.toNatClampNeg) 8) <|
            J80_11 (mU_6 24 (mP 12 x5.toNatClampNeg).toNatClampNeg)
          ) else (
            J80_11 (0 : Int32)
          )
        ) fun J50_9 =>
      if x8 = (9 : Int32) then (
        J50_9 ()
      ) else (
        if x8 = (10 : Int32) then (
          J50_9 ()
        ) else (
          if x8 = (7 : Int32) then (
            zGd (inb (x4 - (1 : Int32)) 700) <|
            zB1 (fX10_depthOf mY (7 : Int32)) fun v20 =>
            zGd (inb (x4 - (1 : Int32)) 700) <|
            zLet (rs mU_6 23 (upd (mU_6 23) (x4 - (1 : Int32)).toNatClampNeg ((mU_6 23 (x4 - (1 : Int32)).toNatClampNeg) + v20))) fun mU_21 =>
            zLet (x5 + 1) fun x22 =>
            go7 x4 x22 mU_21
          ) else (
            zLet (x4 + (-1)) fun x15 =>
            zGd (inb (x15 - (1 : Int32)) 700) <|
            zGd (inb x15 700) <|
            zLet (if (mU_6 23 (x15 - (1 : Int32)).toNatClampNeg) < (mU_6 23 x15.toNatClampNeg) then (mU_6 23 x15.toNatClampNeg) else (mU_6 23 (x15 - (1 : Int32)).toNatClampNeg)) fun x16 =>
            zB1 (fX10_depthOf mY x8) fun v17 =>
            zGd (inb (x15 - (1 : Int32)) 700) <|
            zLet (rs mU_6 23 (upd (mU_6 23) (x15 - (1 : Int32)).toNatClampNeg (x16 + v17))) fun mU_18 =>
            zLet (x5 + 1) fun x19 =>
            go7 x15 x19 mU_18
          )
        )
      )
    )
  ) n x4 x5 mU_6
def fX10_sumDepth (NN : Nat) (mY : Rc) (mU : Rc) (mP : Rc) (p1 : Int32) : Option (Int32 × Rc) :=
  zGd (inb p1 96) <|
  zLet (mP 9 p1.toNatClampNeg) fun x1 =>
  zJn (fun (mU_2 : Rc) =>
      zGd (inb (0 : Int32) 700) <|
      some ((mU_2 23 (0 : Int32).toNatClampNeg), mU_2)
    ) fun J155_3 =>
  fX10_sumDepth_L12 mY mP p1 J155_3 NN (0 : Int32) x1 mU
abbrev rX10_sumDepth : Room := { frames := 1, cells := 0, slots := 0, locals := 30 }
set_option maxHeartbeats 4000000 in
set_option maxRecDepth 100000 in
theorem mtX10_sumDepth (l : Launch) (dC : Nat → ClassId) (dI : Nat → Nat → Nat) (cI cB : ClassId) (bV bP bS bW bN bO : Nat → Nat) (sz : Nat) (NN : Nat) (mZ : Rc) (mY : Rc) (mB : Rc) (mL : Rc) (mU : Rc) (mJ : Rc) (mK : Rc) (mG : Rc) (mA : Rc) (mP : Rc) (p1 : Int32) {ov : Int32} {mU' : Rc} (hf : fX10_sumDepth NN mY mU mP p1 = some (ov, mU')) : zMi l yX10_sumDepth (Cond.code yX10_sumDepth cX10_sumDepth 5 (some .int) :: lw_g) rX10_sumDepth (dC, dI) [(cI, .int), (cB, .byte)] [.ref (bV 0), .int p1] sz (kX10 cI cB bV (bP 0) (bS 0) (bW 0) (bN 0) (bO 0) mZ mY mB mL mU mJ mK mG mA ++ kX8 cI cB bP mP) ov (kX10 cI cB bV (bP 0) (bS 0) (bW 0) (bN 0) (bO 0) mZ mY mB mL mU' mJ mK mG mA ++ kX8 cI cB bP mP) := by
  refine zSt (cc := cX10_sumDepth) (maxL := 5) (ret := (some .int)) (own := RX10) (fun A => zQi (dC, dI) [(cI, .int), (cB, .byte)] A ov (kX10 cI cB bV (bP 0) (bS 0) (bW 0) (bN 0) (bO 0) mZ mY mB mL mU' mJ mK mG mA ++ kX8 cI cB bP mP)) (by decide) rfl rfl (Nat.le_of_ble_eq_true rfl) ?_
  intro p e s m below meth c ls A H locs C hK hA hP hD hS hl
  generalize hQ : MQ below (zQi (dC, dI) [(cI, .int), (cB, .byte)] A ov (kX10 cI cB bV (bP 0) (bS 0) (bW 0) (bN 0) (bO 0) mZ mY mB mL mU' mJ mK mG mA ++ kX8 cI cB bP mP)) _ s 0 0 A = QQ
  generalize ([.ref (bV 0), .int p1] : List Value).toArray = args at C hQ ⊢
  have hl : lv_has ls 5 [(0, .ref (bV 0)), (1, .int p1)] := hl
  unfold fX10_sumDepth at hf
  refine lv_iconst (v := 0) C.1.1 C.1.2.1 dX10_sumDepth_0 (by decide) ?_
  refine lv_istore_n (lv' := [(2, .int (0 : Int32)), (0, .ref (bV 0)), (1, .int p1)]) C.1.1 C.1.2.1 dX10_sumDepth_1 rfl hl (by decide) rfl (fun ls hl => ?_)
  refine lv_aload_n C.1.1 C.1.2.1 dX10_sumDepth_2 rfl (lv_at hl 1 rfl) ?_
  refine zGet (.ref (bP 0)) C.1 wuX10 hK hP 0 rfl rfl 7 (by decide) wfX10_25 rfl rfl dX10_sumDepth_3 ?_
  refine zGetN (.ref (bP 7)) C.1 wuX8 hK hP 14 rfl rfl 9 (by decide) nfX10_201 rfl rfl dX10_sumDepth_6 ?_
  refine lv_iload_n C.1.1 C.1.2.1 dX10_sumDepth_9 rfl (lv_at hl 2 rfl) ?_
  obtain ⟨hib, hf⟩ := zGd_el hf
  refine va_iald C.1.1 C.1.2.1 hK.1 hP 21 0 rfl rfl hib dX10_sumDepth_10 ?_
  refine lv_topi (fun x1 ex1 => ?_)
  replace hf := zLet_at hf ex1
  refine lv_istore_n (lv' := [(3, .int x1), (2, .int (0 : Int32)), (0, .ref (bV 0)), (1, .int p1)]) C.1.1 C.1.2.1 dX10_sumDepth_11 rfl hl (by decide) rfl (fun ls hl => ?_)
  obtain ⟨J155_3, eJ155_3, hf⟩ := zJn_el hf
  have hJ155_3 : ∀ (mU_2 : Rc), J155_3 mU_2 = some (ov, mU') → ∀ (H : Heap) (locs : List Loc), va_P (dC, dI) vwCl (kX10 cI cB bV (bP 0) (bS 0) (bW 0) (bN 0) (bO 0) mZ mY mB mL mU_2 mJ mK mG mA ++ kX8 cI cB bP mP) H → va_D A (kX10 cI cB bV (bP 0) (bS 0) (bW 0) (bN 0) (bO 0) mZ mY mB mL mU_2 mJ mK mG mA ++ kX8 cI cB bP mP) → va_S A s.heap H locs → ∀ (ls : Array Slot), lv_has ls 5 [(0, .ref (bV 0))] → W p l e rX10_sumDepth s m args below meth c H locs 0 0 QQ (F0 m 155 ls []) := by
    intro mU_2 hf H locs hP hD hS ls hl
    rw [eJ155_3] at hf
    refine lv_aload_n C.1.1 C.1.2.1 dX10_sumDepth_155 rfl (lv_at hl 0 rfl) ?_
    refine zGet (.ref (bV 2)) C.1 wuX10 hK hP 0 rfl rfl 23 (by decide) wfX10_50 rfl rfl dX10_sumDepth_156 ?_
    refine lv_iconst (v := 0) C.1.1 C.1.2.1 dX10_sumDepth_159 (by decide) ?_
    obtain ⟨hib, hf⟩ := zGd_el hf
    refine va_iald C.1.1 C.1.2.1 hK.1 hP 2 0 rfl rfl hib dX10_sumDepth_160 ?_
    cases hf
    rw [← hQ]
    exact zRi C hK hP hD hS dX10_sumDepth_161
  refine zLp3_ind (o := (ov, mU')) (P := fun (x4 : Int32) (x5 : Int32) (mU_6 : Rc) => ∀ (H : Heap) (locs : List Loc), va_P (dC, dI) vwCl (kX10 cI cB bV (bP 0) (bS 0) (bW 0) (bN 0) (bO 0) mZ mY mB mL mU_6 mJ mK mG mA ++ kX8 cI cB bP mP) H → va_D A (kX10 cI cB bV (bP 0) (bS 0) (bW 0) (bN 0) (bO 0) mZ mY mB mL mU_6 mJ mK mG mA ++ kX8 cI cB bP mP) → va_S A s.heap H locs → ∀ (ls : Array Slot), lv_has ls 5 [(0, .ref (bV 0)), (1, .int p1), (2, .int x4), (3, .int x5)] → W p l e rX10_sumDepth s m args below meth c H locs 0 0 QQ (F0 m 12 ls [])) (fun go7 ihgo7 x4 x5 mU_6 hf H locs hP hD hS ls hl => ?_) _ (0 : Int32) x1 mU hf H locs hP hD hS ls (lv_sub hl [2, 3, 1, 0] rfl)
  refine lv_iload_n C.1.1 C.1.2.1 dX10_sumDepth_12 rfl (lv_at hl 3 rfl) ?_
  refine lv_aload_n C.1.1 C.1.2.1 dX10_sumDepth_13 rfl (lv_at hl 0 rfl) ?_
  refine zGet (.ref (bP 0)) C.1 wuX10 hK hP 0 rfl rfl 7 (by decide) wfX10_25 rfl rfl dX10_sumDepth_14 ?_
  refine zGetN (.ref (bP 8)) C.1 wuX8 hK hP 14 rfl rfl 10 (by decide) nfX10_207 rfl rfl dX10_sumDepth_17 ?_
  refine lv_iload_n C.1.1 C.1.2.1 dX10_sumDepth_20 rfl (lv_at hl 1 rfl) ?_
  obtain ⟨hib, hf⟩ := zGd_el hf
  refine va_iald C.1.1 C.1.2.1 hK.1 hP 22 0 rfl rfl hib dX10_sumDepth_21 ?_
  refine lv_icmp_ge (tgt := 155) C.1.1 C.1.2.1 dX10_sumDepth_22 (by decide) (fun hc => ?_) (fun hc => ?_)
  · replace hf := zIf_t hf hc
    exact hJ155_3 mU_6 hf H locs hP hD hS ls (lv_sub hl [0] rfl)
  · replace hf := zIf_f hf hc
    refine lv_aload_n C.1.1 C.1.2.1 dX10_sumDepth_25 rfl (lv_at hl 0 rfl) ?_
    refine zGet (.ref (bP 0)) C.1 wuX10 hK hP 0 rfl rfl 7 (by decide) wfX10_25 rfl rfl dX10_sumDepth_26 ?_
    refine zGetN (.ref (bP 9)) C.1 wuX8 hK hP 14 rfl rfl 11 (by decide) nfX10_245 rfl rfl dX10_sumDepth_29 ?_
    refine lv_iload_n C.1.1 C.1.2.1 dX10_sumDepth_32 rfl (lv_at hl 3 rfl) ?_
    obtain ⟨hib, hf⟩ := zGd_el hf
    refine va_iald C.1.1 C.1.2.1 hK.1 hP 23 0 rfl rfl hib dX10_sumDepth_33 ?_
    refine lv_topi (fun x8 ex8 => ?_)
    replace hf := zLet_at hf ex8
    refine lv_istore (lv' := [(4, .int x8), (0, .ref (bV 0)), (1, .int p1), (2, .int x4), (3, .int x5)]) C.1.1 C.1.2.1 dX10_sumDepth_34 hl (by decide) rfl (fun ls hl => ?_)
    refine lv_iload C.1.1 C.1.2.1 dX10_sumDepth_36 (lv_at hl 0 rfl) ?_
    refine lv_bipush (v := 9) C.1.1 C.1.2.1 dX10_sumDepth_38 (by decide) ?_
    obtain ⟨J50_9, eJ50_9, hf⟩ := zJn_el hf
    have hJ50_9 : ∀ (u : Unit), J50_9 u = some (ov, mU') → ∀ (H : Heap) (locs : List Loc), va_P (dC, dI) vwCl (kX10 cI cB bV (bP 0) (bS 0) (bW 0) (bN 0) (bO 0) mZ mY mB mL mU_6 mJ mK mG mA ++ kX8 cI cB bP mP) H → va_D A (kX10 cI cB bV (bP 0) (bS 0) (bW 0) (bN 0) (bO 0) mZ mY mB mL mU_6 mJ mK mG mA ++ kX8 cI cB bP mP) → va_S A s.heap H locs → ∀ (ls : Array Slot), lv_has ls 5 [(0, .ref (bV 0)), (1, .int p1), (2, .int x4), (3, .int x5), (4, .int x8)] → W p l e rX10_sumDepth s m args below meth c H locs 0 0 QQ (F0 m 50 ls []) := by
      intro u hf H locs hP hD hS ls hl
      rw [eJ50_9] at hf
      refine lv_aload_n C.1.1 C.1.2.1 dX10_sumDepth_50 rfl (lv_at hl 0 rfl) ?_
      refine zGet (.ref (bV 2)) C.1 wuX10 hK hP 0 rfl rfl 23 (by decide) wfX10_50 rfl rfl dX10_sumDepth_51 ?_
      refine lv_iload_n C.1.1 C.1.2.1 dX10_sumDepth_54 rfl (lv_at hl 2 rfl) ?_
      refine lv_iload C.1.1 C.1.2.1 dX10_sumDepth_55 (lv_at hl 4 rfl) ?_
      refine lv_bipush (v := 9) C.1.1 C.1.2.1 dX10_sumDepth_57 (by decide) ?_
      obtain ⟨J80_11, eJ80_11, hf⟩ := zJn_el hf
      have hJ80_11 : ∀ (t10 : Int32), J80_11 t10 = some (ov, mU') → ∀ (H : Heap) (locs : List Loc), va_P (dC, dI) vwCl (kX10 cI cB bV (bP 0) (bS 0) (bW 0) (bN 0) (bO 0) mZ mY mB mL mU_6 mJ mK mG mA ++ kX8 cI cB bP mP) H → va_D A (kX10 cI cB bV (bP 0) (bS 0) (bW 0) (bN 0) (bO 0) mZ mY mB mL mU_6 mJ mK mG mA ++ kX8 cI cB bP mP) → va_S A s.heap H locs → ∀ (ls : Array Slot), lv_has ls 5 [(0, .ref (bV 0)), (1, .int p1), (2, .int x4), (3, .int x5)] → W p l e rX10_sumDepth s m args below meth c H locs 0 0 QQ (F0 m 80 ls [.int t10, .int x4, .ref (bV 2)]) := by
        intro t10 hf H locs hP hD hS ls hl
        rw [eJ80_11] at hf
        obtain ⟨hib, hf⟩ := zGd_el hf
        obtain ⟨mU_12, emU_12, hf⟩ := zLet_el hf
        refine zIast (kX10 cI cB bV (bP 0) (bS 0) (bW 0) (bN 0) (bO 0) mZ mY mB mL mU_12 mJ mK mG mA ++ kX8 cI cB bP mP) C.1 hK hP hD hS 2 0 rfl rfl hib dX10_sumDepth_80 (by rw [emU_12]; rfl) (fun H locs hP hD hS => ?_)
        obtain ⟨x13, ex13, hf⟩ := zLet_el hf
        refine lv_iinc (v := x13) (lv' := [(2, .int x13), (0, .ref (bV 0)), (1, .int p1), (3, .int x5)]) C.1.1 C.1.2.1 dX10_sumDepth_81 hl (k := 2) rfl (by rw [ex13]; rfl) (by decide) rfl (fun ls hl => ?_)
        refine lv_goto (tgt := 149) C.1.1 C.1.2.1 dX10_sumDepth_84 (by decide) ?_
        obtain ⟨x14, ex14, hf⟩ := zLet_el hf
        refine lv_iinc (v := x14) (lv' := [(3, .int x14), (2, .int x13), (0, .ref (bV 0)), (1, .int p1)]) C.1.1 C.1.2.1 dX10_sumDepth_149 hl (k := 3) rfl (by rw [ex14]; rfl) (by decide) rfl (fun ls hl => ?_)
        refine lv_goto (tgt := 12) C.1.1 C.1.2.1 dX10_sumDepth_152 (by decide) ?_
        exact ihgo7 x13 x14 mU_12 hf H locs hP hD hS ls (lv_sub hl [2, 3, 1, 0] rfl)
      refine lv_icmp_ne (tgt := 79) C.1.1 C.1.2.1 dX10_sumDepth_59 (by decide) (fun hc => ?_) (fun hc => ?_)
      · replace hf := zIf_f hf hc
        refine lv_iconst (v := 0) C.1.1 C.1.2.1 dX10_sumDepth_79 (by decide) ?_
        exact hJ80_11 (0 : Int32) hf H locs hP hD hS ls (lv_sub hl [0, 1, 2, 3] rfl)
      · replace hf := zIf_t hf hc
        refine lv_aload_n C.1.1 C.1.2.1 dX10_sumDepth_62 rfl (lv_at hl 0 rfl) ?_
        refine zGet (.ref (bV 3)) C.1 wuX10 hK hP 0 rfl rfl 24 (by decide) wfX10_53 rfl rfl dX10_sumDepth_63 ?_
        refine lv_aload_n C.1.1 C.1.2.1 dX10_sumDepth_66 rfl (lv_at hl 0 rfl) ?_
        refine zGet (.ref (bP 0)) C.1 wuX10 hK hP 0 rfl rfl 7 (by decide) wfX10_25 rfl rfl dX10_sumDepth_67 ?_
        refine zGetN (.ref (bP 10)) C.1 wuX8 hK hP 14 rfl rfl 12 (by decide) nfX10_251 rfl rfl dX10_sumDepth_70 ?_
        refine lv_iload_n C.1.1 C.1.2.1 dX10_sumDepth_73 rfl (lv_at hl 3 rfl) ?_
        obtain ⟨hib, hf⟩ := zGd_el hf
        refine va_iald C.1.1 C.1.2.1 hK.1 hP 24 0 rfl rfl hib dX10_sumDepth_74 ?_
        obtain ⟨hib, hf⟩ := zGd_el hf
        refine va_iald C.1.1 C.1.2.1 hK.1 hP 3 0 rfl rfl hib dX10_sumDepth_75 ?_
        refine lv_goto (tgt := 80) C.1.1 C.1.2.1 dX10_sumDepth_76 (by decide) ?_
        exact hJ80_11 (mU_6 24 (mP 12 x5.toNatClampNeg).toNatClampNeg) hf H locs hP hD hS ls (lv_sub hl [0, 1, 2, 3] rfl)
    refine lv_icmp_eq (tgt := 50) C.1.1 C.1.2.1 dX10_sumDepth_40 (by decide) (fun hc => ?_) (fun hc => ?_)
    · replace hf := zIf_t hf hc
      exact hJ50_9 () hf H locs hP hD hS ls (lv_sub hl [1, 2, 3, 4, 0] rfl)
    · replace hf := zIf_f hf hc
      refine lv_iload C.1.1 C.1.2.1 dX10_sumDepth_43 (lv_at hl 0 rfl) ?_
      refine lv_bipush (v := 10) C.1.1 C.1.2.1 dX10_sumDepth_45 (by decide) ?_
      refine lv_icmp_ne (tgt := 87) C.1.1 C.1.2.1 dX10_sumDepth_47 (by decide) (fun hc => ?_) (fun hc => ?_)
      · replace hf := zIf_f hf hc
        refine lv_iload C.1.1 C.1.2.1 dX10_sumDepth_87 (lv_at hl 0 rfl) ?_
        refine lv_bipush (v := 7) C.1.1 C.1.2.1 dX10_sumDepth_89 (by decide) ?_
        refine lv_icmp_ne (tgt := 114) C.1.1 C.1.2.1 dX10_sumDepth_91 (by decide) (fun hc => ?_) (fun hc => ?_)
        · replace hf := zIf_f hf hc
          obtain ⟨x15, ex15, hf⟩ := zLet_el hf
          refine lv_iinc (v := x15) (lv' := [(2, .int x15), (4, .int x8), (0, .ref (bV 0)), (1, .int p1), (3, .int x5)]) C.1.1 C.1.2.1 dX10_sumDepth_114 hl (k := 3) rfl (by rw [ex15]; rfl) (by decide) rfl (fun ls hl => ?_)
          refine lv_aload_n C.1.1 C.1.2.1 dX10_sumDepth_117 rfl (lv_at hl 2 rfl) ?_
          refine zGet (.ref (bV 2)) C.1 wuX10 hK hP 0 rfl rfl 23 (by decide) wfX10_50 rfl rfl dX10_sumDepth_118 ?_
          refine lv_iload_n C.1.1 C.1.2.1 dX10_sumDepth_121 rfl (lv_at hl 0 rfl) ?_
          refine lv_iconst (v := 1) C.1.1 C.1.2.1 dX10_sumDepth_122 (by decide) ?_
          refine lv_isub C.1.1 C.1.2.1 dX10_sumDepth_123 ?_
          refine lv_aload_n C.1.1 C.1.2.1 dX10_sumDepth_124 rfl (lv_at hl 2 rfl) ?_
          refine zGet (.ref (bV 2)) C.1 wuX10 hK hP 0 rfl rfl 23 (by decide) wfX10_50 rfl rfl dX10_sumDepth_125 ?_
          refine lv_iload_n C.1.1 C.1.2.1 dX10_sumDepth_128 rfl (lv_at hl 0 rfl) ?_
          refine lv_iconst (v := 1) C.1.1 C.1.2.1 dX10_sumDepth_129 (by decide) ?_
          refine lv_isub C.1.1 C.1.2.1 dX10_sumDepth_130 ?_
          obtain ⟨hib, hf⟩ := zGd_el hf
          refine va_iald C.1.1 C.1.2.1 hK.1 hP 2 0 rfl rfl hib dX10_sumDepth_131 ?_
          refine lv_aload_n C.1.1 C.1.2.1 dX10_sumDepth_132 rfl (lv_at hl 2 rfl) ?_
          refine zGet (.ref (bV 2)) C.1 wuX10 hK hP 0 rfl rfl 23 (by decide) wfX10_50 rfl rfl dX10_sumDepth_133 ?_
          refine lv_iload_n C.1.1 C.1.2.1 dX10_sumDepth_136 rfl (lv_at hl 0 rfl) ?_
          obtain ⟨hib, hf⟩ := zGd_el hf
          refine va_iald C.1.1 C.1.2.1 hK.1 hP 2 0 rfl rfl hib dX10_sumDepth_137 ?_
          refine va_mmax C.1.1 C.1.2.1 (C.1.2.2.1.trans hl.1.symm) C.1.2.2.2.1 (C.1.2.2.2.2 _ wlX10_257) (C.1.2.2.2.2 _ wtJ9_max_7cf53) (C.1.2.2.2.2 _ wnJ9) (C.1.2.2.2.2 _ wkJ9_max_7cf53) (Nat.le_of_ble_eq_true rfl) (Nat.le_of_ble_eq_true rfl) (Nat.zero_le _) (Nat.zero_le _) dX10_sumDepth_138 ?_
          refine lv_topi (fun x16 ex16 => ?_)
          replace hf := zLet_at hf ex16
          refine lv_aload_n C.1.1 C.1.2.1 dX10_sumDepth_141 rfl (lv_at hl 2 rfl) ?_
          refine lv_iload C.1.1 C.1.2.1 dX10_sumDepth_142 (lv_at hl 1 rfl) ?_
          obtain ⟨v17, hg, hf⟩ := zB1_el hf
          refine zCVi (As := [.int x8]) (rest := [.int x16, .int (x15 - (1 : Int32)), .ref (bV 2)]) (wr := (kX8 cI cB bP mP)) (wn := (kX10 cI cB bV (bP 0) (bS 0) (bW 0) (bN 0) (bO 0) mZ mY mB mL mU_6 mJ mK mG mA ++ kX8 cI cB bP mP)) C.1 hK hA hP hD hS [0, 1, 2, 3, 4, 5, 6, 7, 8, 9, 10, 11, 12, 13] [14, 15, 16, 17, 18, 19, 20, 21, 22, 23, 24] [11, 12, 13, 14, 15, 16, 17, 18, 19, 20, 21, 22, 23, 24, 0, 1, 2, 3, 4, 5, 6, 7, 8, 9, 10] 0 (mtX10_depthOf l dC dI cI cB bV bP bS bW bN bO H.size mZ mY mB mL mU_6 mJ mK mG mA x8 hg) (zCwV 1 C.1 wlX10_254 wiX10_depthOf ws_X10_depthOf wnX10 wkX10_depthOf rfl rfl (by decide +kernel) ⟨Nat.le_of_ble_eq_true rfl, Nat.le_of_ble_eq_true rfl⟩) rfl rfl (by decide +kernel) rfl rfl rfl rfl hl.1 (Nat.le_of_ble_eq_true rfl) dX10_sumDepth_144 ⟨Nat.zero_le _, Nat.zero_le _⟩ rfl (fun H locs hP hD hS => ?_)
          refine lv_iadd C.1.1 C.1.2.1 dX10_sumDepth_147 ?_
          obtain ⟨hib, hf⟩ := zGd_el hf
          obtain ⟨mU_18, emU_18, hf⟩ := zLet_el hf
          refine zIast (kX10 cI cB bV (bP 0) (bS 0) (bW 0) (bN 0) (bO 0) mZ mY mB mL mU_18 mJ mK mG mA ++ kX8 cI cB bP mP) C.1 hK hP hD hS 2 0 rfl rfl hib dX10_sumDepth_148 (by rw [emU_18]; rfl) (fun H locs hP hD hS => ?_)
          obtain ⟨x19, ex19, hf⟩ := zLet_el hf
          refine lv_iinc (v := x19) (lv' := [(3, .int x19), (2, .int x15), (4, .int x8), (0, .ref (bV 0)), (1, .int p1)]) C.1.1 C.1.2.1 dX10_sumDepth_149 hl (k := 4) rfl (by rw [ex19]; rfl) (by decide) rfl (fun ls hl => ?_)
          refine lv_goto (tgt := 12) C.1.1 C.1.2.1 dX10_sumDepth_152 (by decide) ?_
          exact ihgo7 x15 x19 mU_18 hf H locs hP hD hS ls (lv_sub hl [3, 4, 1, 0] rfl)
        · replace hf := zIf_t hf hc
          refine lv_aload_n C.1.1 C.1.2.1 dX10_sumDepth_94 rfl (lv_at hl 1 rfl) ?_
          refine zGet (.ref (bV 2)) C.1 wuX10 hK hP 0 rfl rfl 23 (by decide) wfX10_50 rfl rfl dX10_sumDepth_95 ?_
          refine lv_iload_n C.1.1 C.1.2.1 dX10_sumDepth_98 rfl (lv_at hl 3 rfl) ?_
          refine lv_iconst (v := 1) C.1.1 C.1.2.1 dX10_sumDepth_99 (by decide) ?_
          refine lv_isub C.1.1 C.1.2.1 dX10_sumDepth_100 ?_
          refine lv_dup2_11 C.1.1 C.1.2.1 dX10_sumDepth_101 rfl rfl ?_
          obtain ⟨hib, hf⟩ := zGd_el hf
          refine va_iald C.1.1 C.1.2.1 hK.1 hP 2 0 rfl rfl hib dX10_sumDepth_102 ?_
          refine lv_aload_n C.1.1 C.1.2.1 dX10_sumDepth_103 rfl (lv_at hl 1 rfl) ?_
          refine lv_bipush (v := 7) C.1.1 C.1.2.1 dX10_sumDepth_104 (by decide) ?_
          obtain ⟨v20, hg, hf⟩ := zB1_el hf
          refine zCVi (As := [.int (7 : Int32)]) (rest := [.int (mU_6 23 (x4 - (1 : Int32)).toNatClampNeg), .int (x4 - (1 : Int32)), .ref (bV 2)]) (wr := (kX8 cI cB bP mP)) (wn := (kX10 cI cB bV (bP 0) (bS 0) (bW 0) (bN 0) (bO 0) mZ mY mB mL mU_6 mJ mK mG mA ++ kX8 cI cB bP mP)) C.1 hK hA hP hD hS [0, 1, 2, 3, 4, 5, 6, 7, 8, 9, 10, 11, 12, 13] [14, 15, 16, 17, 18, 19, 20, 21, 22, 23, 24] [11, 12, 13, 14, 15, 16, 17, 18, 19, 20, 21, 22, 23, 24, 0, 1, 2, 3, 4, 5, 6, 7, 8, 9, 10] 0 (mtX10_depthOf l dC dI cI cB bV bP bS bW bN bO H.size mZ mY mB mL mU_6 mJ mK mG mA (7 : Int32) hg) (zCwV 1 C.1 wlX10_254 wiX10_depthOf ws_X10_depthOf wnX10 wkX10_depthOf rfl rfl (by decide +kernel) ⟨Nat.le_of_ble_eq_true rfl, Nat.le_of_ble_eq_true rfl⟩) rfl rfl (by decide +kernel) rfl rfl rfl rfl hl.1 (Nat.le_of_ble_eq_true rfl) dX10_sumDepth_106 ⟨Nat.zero_le _, Nat.zero_le _⟩ rfl (fun H locs hP hD hS => ?_)
          refine lv_iadd C.1.1 C.1.2.1 dX10_sumDepth_109 ?_
          obtain ⟨hib, hf⟩ := zGd_el hf
          obtain ⟨mU_21, emU_21, hf⟩ := zLet_el hf
          refine zIast (kX10 cI cB bV (bP 0) (bS 0) (bW 0) (bN 0) (bO 0) mZ mY mB mL mU_21 mJ mK mG mA ++ kX8 cI cB bP mP) C.1 hK hP hD hS 2 0 rfl rfl hib dX10_sumDepth_110 (by rw [emU_21]; rfl) (fun H locs hP hD hS => ?_)
          refine lv_goto (tgt := 149) C.1.1 C.1.2.1 dX10_sumDepth_111 (by decide) ?_
          obtain ⟨x22, ex22, hf⟩ := zLet_el hf
          refine lv_iinc (v := x22) (lv' := [(3, .int x22), (4, .int x8), (0, .ref (bV 0)), (1, .int p1), (2, .int x4)]) C.1.1 C.1.2.1 dX10_sumDepth_149 hl (k := 4) rfl (by rw [ex22]; rfl) (by decide) rfl (fun ls hl => ?_)
          refine lv_goto (tgt := 12) C.1.1 C.1.2.1 dX10_sumDepth_152 (by decide) ?_
          exact ihgo7 x4 x22 mU_21 hf H locs hP hD hS ls (lv_sub hl [2, 3, 4, 0] rfl)
      · replace hf := zIf_t hf hc
        exact hJ50_9 () hf H locs hP hD hS ls (lv_sub hl [1, 2, 3, 4, 0] rfl)
def fX10_depthFor_L28 (mY : Rc) (mP : Rc) (p1 : Int32) (NN : Nat) (J137_6 : Int32 → Rc → Option (Int32 × Rc)) (n : Nat) (x7 : Int32) (x8 : Int32) (mU_9 : Rc) : Option (Int32 × Rc) := zLp3 (fun (go10 : Int32 → Int32 → Rc → Option (Int32 × Rc)) (x7 : Int32) (x8 : Int32) (mU_9 : Rc) =>
    zGd (inb p1 12) <|
    if (((8 : Int32) * p1) + (mP 5 p1.toNatClampNeg)) ≤ x8 then (
      J137_6 x7 mU_9
    ) else (
      zB2 (fX10_sumDepth NN mY mU_9 mP x8) fun v11 mU_12 =>
      zGd (inb x8 96) <|
      zLet (mP 8 x8.toNatClampNeg) fun x13 =>
      zGd (inb x8 96) <|
      zJn (fun (x14 : Int32) =>
          zGd (inb x13 8) <|
          zLet (rs mU_12 24 (upd (mU_12 24) x13.toNatClampNeg x14)) fun mU_16 =>
          zLet (if x7 < x14 then x14 else x7) fun x17 =>
          zLet (x8 + 1) fun x18 =>
          go10 x17 x18 mU_16
        ) fun J115_15 =>
      if (mP 7 x8.toNatClampNeg) = (-1 : Int32) then (
        J115_15 v11
      ) else (
        zGd (inb x8 96) <|
        zGd (inb (mP 7 x8.toNatClampNeg) 8) <|
        zGd (inb x13 8) <|
        zLet (if (mU_12 24 (mP 7 x8.toNatClampNeg).toNatClampNeg) < (mU_12 24 x13.toNatClampNeg) then (mU_12 24 x13.toNatClampNeg) else (mU_12 24 (mP 7 x8.toNatClampNeg).toNatClampNeg)) fun x19 =>
        zLet (if v11 < x19 then x19 else v11) fun x20 =>
        zB1 (fX10_depthOf mY (8 : Int32)) fun v21 =>
        zLet (x20 + v21) fun x22 =>
        J115_15 x22
      )
    )
  ) n x7 x8 mU_9
def fX10_depthFor_L2 (J21_2 : Rc → Option (Int32 × Rc)) (n : Nat) (x23 : Int32) (mU_24 : Rc) : Option (Int32 × Rc) := zLp2 (fun (go25 : Int32 → Rc → Option (Int32 × Rc)) (x23 : Int32) (mU_24 : Rc) =>
    if (8 : Int32) ≤ x23 then (
      J21_2 mU_24
    ) else (
      zGd (inb x23 8) <|
      zLet (rs mU_24 24 (upd (mU_24 24) x23.toNatClampNeg (0 : Int32))) fun mU_26 =>
      zLet (x23 + 1) fun x27 =>
      go25 x27 mU_26
    )
  ) n x23 mU_24
def fX10_depthFor (NN : Nat) (mY : Rc) (mU : Rc) (mP : Rc) (p1 : Int32) : Option (Int32 × Rc) :=
  zJn (fun (mU_1 : Rc) =>
      zLet ((8 : Int32) * p1) fun x3 =>
      zJn (fun (x4 : Int32) (mU_5 : Rc) =>
          some (x4, mU_5)
        ) fun J137_6 =>
      fX10_depthFor_L28 mY mP p1 NN J137_6 NN (0 : Int32) x3 mU_1
    ) fun J21_2 =>
  fX10_depthFor_L2 J21_2 NN (0 : Int32) mU
abbrev rX10_depthFor : Room := { frames := 2, cells := 0, slots := 0, locals := 54 }
set_option maxHeartbeats 4000000 in
set_option maxRecDepth 100000 in
theorem mtX10_depthFor (l : Launch) (dC : Nat → ClassId) (dI : Nat → Nat → Nat) (cI cB : ClassId) (bV bP bS bW bN bO : Nat → Nat) (sz : Nat) (NN : Nat) (mZ : Rc) (mY : Rc) (mB : Rc) (mL : Rc) (mU : Rc) (mJ : Rc) (mK : Rc) (mG : Rc) (mA : Rc) (mP : Rc) (p1 : Int32) {ov : Int32} {mU' : Rc} (hf : fX10_depthFor NN mY mU mP p1 = some (ov, mU')) : zMi l yX10_depthFor (Cond.code yX10_depthFor cX10_depthFor 6 (some .int) :: lw_g) rX10_depthFor (dC, dI) [(cI, .int), (cB, .byte)] [.ref (bV 0), .int p1] sz (kX10 cI cB bV (bP 0) (bS 0) (bW 0) (bN 0) (bO 0) mZ mY mB mL mU mJ mK mG mA ++ kX8 cI cB bP mP) ov (kX10 cI cB bV (bP 0) (bS 0) (bW 0) (bN 0) (bO 0) mZ mY mB mL mU' mJ mK mG mA ++ kX8 cI cB bP mP) := by
  refine zSt (cc := cX10_depthFor) (maxL := 6) (ret := (some .int)) (own := RX10) (fun A => zQi (dC, dI) [(cI, .int), (cB, .byte)] A ov (kX10 cI cB bV (bP 0) (bS 0) (bW 0) (bN 0) (bO 0) mZ mY mB mL mU' mJ mK mG mA ++ kX8 cI cB bP mP)) (by decide) rfl rfl (Nat.le_of_ble_eq_true rfl) ?_
  intro p e s m below meth c ls A H locs C hK hA hP hD hS hl
  generalize hQ : MQ below (zQi (dC, dI) [(cI, .int), (cB, .byte)] A ov (kX10 cI cB bV (bP 0) (bS 0) (bW 0) (bN 0) (bO 0) mZ mY mB mL mU' mJ mK mG mA ++ kX8 cI cB bP mP)) _ s 0 0 A = QQ
  generalize ([.ref (bV 0), .int p1] : List Value).toArray = args at C hQ ⊢
  have hl : lv_has ls 6 [(0, .ref (bV 0)), (1, .int p1)] := hl
  unfold fX10_depthFor at hf
  refine lv_iconst (v := 0) C.1.1 C.1.2.1 dX10_depthFor_0 (by decide) ?_
  refine lv_istore_n (lv' := [(2, .int (0 : Int32)), (0, .ref (bV 0)), (1, .int p1)]) C.1.1 C.1.2.1 dX10_depthFor_1 rfl hl (by decide) rfl (fun ls hl => ?_)
  obtain ⟨J21_2, eJ21_2, hf⟩ := zJn_el hf
  have hJ21_2 : ∀ (mU_1 : Rc), J21_2 mU_1 = some (ov, mU') → ∀ (H : Heap) (locs : List Loc), va_P (dC, dI) vwCl (kX10 cI cB bV (bP 0) (bS 0) (bW 0) (bN 0) (bO 0) mZ mY mB mL mU_1 mJ mK mG mA ++ kX8 cI cB bP mP) H → va_D A (kX10 cI cB bV (bP 0) (bS 0) (bW 0) (bN 0) (bO 0) mZ mY mB mL mU_1 mJ mK mG mA ++ kX8 cI cB bP mP) → va_S A s.heap H locs → ∀ (ls : Array Slot), lv_has ls 6 [(0, .ref (bV 0)), (1, .int p1)] → W p l e rX10_depthFor s m args below meth c H locs 0 0 QQ (F0 m 21 ls []) := by
    intro mU_1 hf H locs hP hD hS ls hl
    rw [eJ21_2] at hf
    refine lv_iconst (v := 0) C.1.1 C.1.2.1 dX10_depthFor_21 (by decide) ?_
    refine lv_istore_n (lv' := [(2, .int (0 : Int32)), (0, .ref (bV 0)), (1, .int p1)]) C.1.1 C.1.2.1 dX10_depthFor_22 rfl hl (by decide) rfl (fun ls hl => ?_)
    refine lv_bipush (v := 8) C.1.1 C.1.2.1 dX10_depthFor_23 (by decide) ?_
    refine lv_iload_n C.1.1 C.1.2.1 dX10_depthFor_25 rfl (lv_at hl 2 rfl) ?_
    refine lv_imul C.1.1 C.1.2.1 dX10_depthFor_26 ?_
    refine lv_topi (fun x3 ex3 => ?_)
    replace hf := zLet_at hf ex3
    refine lv_istore_n (lv' := [(3, .int x3), (2, .int (0 : Int32)), (0, .ref (bV 0)), (1, .int p1)]) C.1.1 C.1.2.1 dX10_depthFor_27 rfl hl (by decide) rfl (fun ls hl => ?_)
    obtain ⟨J137_6, eJ137_6, hf⟩ := zJn_el hf
    have hJ137_6 : ∀ (x4 : Int32) (mU_5 : Rc), J137_6 x4 mU_5 = some (ov, mU') → ∀ (H : Heap) (locs : List Loc), va_P (dC, dI) vwCl (kX10 cI cB bV (bP 0) (bS 0) (bW 0) (bN 0) (bO 0) mZ mY mB mL mU_5 mJ mK mG mA ++ kX8 cI cB bP mP) H → va_D A (kX10 cI cB bV (bP 0) (bS 0) (bW 0) (bN 0) (bO 0) mZ mY mB mL mU_5 mJ mK mG mA ++ kX8 cI cB bP mP) → va_S A s.heap H locs → ∀ (ls : Array Slot), lv_has ls 6 [(2, .int x4)] → W p l e rX10_depthFor s m args below meth c H locs 0 0 QQ (F0 m 137 ls []) := by
      intro x4 mU_5 hf H locs hP hD hS ls hl
      rw [eJ137_6] at hf
      refine lv_iload_n C.1.1 C.1.2.1 dX10_depthFor_137 rfl (lv_at hl 0 rfl) ?_
      cases hf
      rw [← hQ]
      exact zRi C hK hP hD hS dX10_depthFor_138
    refine zLp3_ind (o := (ov, mU')) (P := fun (x7 : Int32) (x8 : Int32) (mU_9 : Rc) => ∀ (H : Heap) (locs : List Loc), va_P (dC, dI) vwCl (kX10 cI cB bV (bP 0) (bS 0) (bW 0) (bN 0) (bO 0) mZ mY mB mL mU_9 mJ mK mG mA ++ kX8 cI cB bP mP) H → va_D A (kX10 cI cB bV (bP 0) (bS 0) (bW 0) (bN 0) (bO 0) mZ mY mB mL mU_9 mJ mK mG mA ++ kX8 cI cB bP mP) → va_S A s.heap H locs → ∀ (ls : Array Slot), lv_has ls 6 [(0, .ref (bV 0)), (1, .int p1), (2, .int x7), (3, .int x8)] → W p l e rX10_depthFor s m args below meth c H locs 0 0 QQ (F0 m 28 ls [])) (fun go10 ihgo10 x7 x8 mU_9 hf H locs hP hD hS ls hl => ?_) _ (0 : Int32) x3 mU_1 hf H locs hP hD hS ls (lv_sub hl [2, 3, 1, 0] rfl)
    refine lv_iload_n C.1.1 C.1.2.1 dX10_depthFor_28 rfl (lv_at hl 3 rfl) ?_
    refine lv_bipush (v := 8) C.1.1 C.1.2.1 dX10_depthFor_29 (by decide) ?_
    refine lv_iload_n C.1.1 C.1.2.1 dX10_depthFor_31 rfl (lv_at hl 1 rfl) ?_
    refine lv_imul C.1.1 C.1.2.1 dX10_depthFor_32 ?_
    refine lv_aload_n C.1.1 C.1.2.1 dX10_depthFor_33 rfl (lv_at hl 0 rfl) ?_
    refine zGet (.ref (bP 0)) C.1 wuX10 hK hP 0 rfl rfl 7 (by decide) wfX10_25 rfl rfl dX10_depthFor_34 ?_
    refine zGetN (.ref (bP 3)) C.1 wuX8 hK hP 14 rfl rfl 5 (by decide) nfX10_174 rfl rfl dX10_depthFor_37 ?_
    refine lv_iload_n C.1.1 C.1.2.1 dX10_depthFor_40 rfl (lv_at hl 1 rfl) ?_
    obtain ⟨hib, hf⟩ := zGd_el hf
    refine va_iald C.1.1 C.1.2.1 hK.1 hP 17 0 rfl rfl hib dX10_depthFor_41 ?_
    refine lv_iadd C.1.1 C.1.2.1 dX10_depthFor_42 ?_
    refine lv_icmp_ge (tgt := 137) C.1.1 C.1.2.1 dX10_depthFor_43 (by decide) (fun hc => ?_) (fun hc => ?_)
    · replace hf := zIf_t hf hc
      exact hJ137_6 x7 mU_9 hf H locs hP hD hS ls (lv_sub hl [2] rfl)
    · replace hf := zIf_f hf hc
      refine lv_aload_n C.1.1 C.1.2.1 dX10_depthFor_46 rfl (lv_at hl 0 rfl) ?_
      refine lv_iload_n C.1.1 C.1.2.1 dX10_depthFor_47 rfl (lv_at hl 3 rfl) ?_
      obtain ⟨v11, mU_12, hg, hf⟩ := zB2_el hf
      refine zCVi (As := [.int x8]) (rest := []) (wr := ([] : va_W)) (wn := (kX10 cI cB bV (bP 0) (bS 0) (bW 0) (bN 0) (bO 0) mZ mY mB mL mU_12 mJ mK mG mA ++ kX8 cI cB bP mP)) C.1 hK hA hP hD hS [0, 1, 2, 3, 4, 5, 6, 7, 8, 9, 10, 11, 12, 13, 14, 15, 16, 17, 18, 19, 20, 21, 22, 23, 24] [] [0, 1, 2, 3, 4, 5, 6, 7, 8, 9, 10, 11, 12, 13, 14, 15, 16, 17, 18, 19, 20, 21, 22, 23, 24] 0 (mtX10_sumDepth l dC dI cI cB bV bP bS bW bN bO H.size NN mZ mY mB mL mU_9 mJ mK mG mA mP x8 hg) (zCwV 1 C.1 wlX10_263 wiX10_sumDepth ws_X10_sumDepth wnX10 wkX10_sumDepth rfl rfl (by decide +kernel) ⟨Nat.le_of_ble_eq_true rfl, Nat.le_of_ble_eq_true rfl⟩) rfl rfl (by decide +kernel) rfl rfl rfl rfl hl.1 (Nat.le_of_ble_eq_true rfl) dX10_depthFor_48 ⟨Nat.zero_le _, Nat.zero_le _⟩ rfl (fun H locs hP hD hS => ?_)
      refine lv_istore (lv' := [(4, .int v11), (0, .ref (bV 0)), (1, .int p1), (2, .int x7), (3, .int x8)]) C.1.1 C.1.2.1 dX10_depthFor_51 hl (by decide) rfl (fun ls hl => ?_)
      refine lv_aload_n C.1.1 C.1.2.1 dX10_depthFor_53 rfl (lv_at hl 1 rfl) ?_
      refine zGet (.ref (bP 0)) C.1 wuX10 hK hP 0 rfl rfl 7 (by decide) wfX10_25 rfl rfl dX10_depthFor_54 ?_
      refine zGetN (.ref (bP 6)) C.1 wuX8 hK hP 14 rfl rfl 8 (by decide) nfX10_198 rfl rfl dX10_depthFor_57 ?_
      refine lv_iload_n C.1.1 C.1.2.1 dX10_depthFor_60 rfl (lv_at hl 4 rfl) ?_
      obtain ⟨hib, hf⟩ := zGd_el hf
      refine va_iald C.1.1 C.1.2.1 hK.1 hP 20 0 rfl rfl hib dX10_depthFor_61 ?_
      refine lv_topi (fun x13 ex13 => ?_)
      replace hf := zLet_at hf ex13
      refine lv_istore (lv' := [(5, .int x13), (4, .int v11), (0, .ref (bV 0)), (1, .int p1), (2, .int x7), (3, .int x8)]) C.1.1 C.1.2.1 dX10_depthFor_62 hl (by decide) rfl (fun ls hl => ?_)
      refine lv_aload_n C.1.1 C.1.2.1 dX10_depthFor_64 rfl (lv_at hl 2 rfl) ?_
      refine zGet (.ref (bP 0)) C.1 wuX10 hK hP 0 rfl rfl 7 (by decide) wfX10_25 rfl rfl dX10_depthFor_65 ?_
      refine zGetN (.ref (bP 5)) C.1 wuX8 hK hP 14 rfl rfl 7 (by decide) nfX10_192 rfl rfl dX10_depthFor_68 ?_
      refine lv_iload_n C.1.1 C.1.2.1 dX10_depthFor_71 rfl (lv_at hl 5 rfl) ?_
      obtain ⟨hib, hf⟩ := zGd_el hf
      refine va_iald C.1.1 C.1.2.1 hK.1 hP 19 0 rfl rfl hib dX10_depthFor_72 ?_
      refine lv_iconst (v := (-1)) C.1.1 C.1.2.1 dX10_depthFor_73 (by decide) ?_
      obtain ⟨J115_15, eJ115_15, hf⟩ := zJn_el hf
      have hJ115_15 : ∀ (x14 : Int32), J115_15 x14 = some (ov, mU') → ∀ (H : Heap) (locs : List Loc), va_P (dC, dI) vwCl (kX10 cI cB bV (bP 0) (bS 0) (bW 0) (bN 0) (bO 0) mZ mY mB mL mU_12 mJ mK mG mA ++ kX8 cI cB bP mP) H → va_D A (kX10 cI cB bV (bP 0) (bS 0) (bW 0) (bN 0) (bO 0) mZ mY mB mL mU_12 mJ mK mG mA ++ kX8 cI cB bP mP) → va_S A s.heap H locs → ∀ (ls : Array Slot), lv_has ls 6 [(0, .ref (bV 0)), (1, .int p1), (2, .int x7), (3, .int x8), (4, .int x14), (5, .int x13)] → W p l e rX10_depthFor s m args below meth c H locs 0 0 QQ (F0 m 115 ls []) := by
        intro x14 hf H locs hP hD hS ls hl
        rw [eJ115_15] at hf
        refine lv_aload_n C.1.1 C.1.2.1 dX10_depthFor_115 rfl (lv_at hl 0 rfl) ?_
        refine zGet (.ref (bV 3)) C.1 wuX10 hK hP 0 rfl rfl 24 (by decide) wfX10_53 rfl rfl dX10_depthFor_116 ?_
        refine lv_iload C.1.1 C.1.2.1 dX10_depthFor_119 (lv_at hl 5 rfl) ?_
        refine lv_iload C.1.1 C.1.2.1 dX10_depthFor_121 (lv_at hl 4 rfl) ?_
        obtain ⟨hib, hf⟩ := zGd_el hf
        obtain ⟨mU_16, emU_16, hf⟩ := zLet_el hf
        refine zIast (kX10 cI cB bV (bP 0) (bS 0) (bW 0) (bN 0) (bO 0) mZ mY mB mL mU_16 mJ mK mG mA ++ kX8 cI cB bP mP) C.1 hK hP hD hS 3 0 rfl rfl hib dX10_depthFor_123 (by rw [emU_16]; rfl) (fun H locs hP hD hS => ?_)
        refine lv_iload_n C.1.1 C.1.2.1 dX10_depthFor_124 rfl (lv_at hl 2 rfl) ?_
        refine lv_iload C.1.1 C.1.2.1 dX10_depthFor_125 (lv_at hl 4 rfl) ?_
        refine va_mmax C.1.1 C.1.2.1 (C.1.2.2.1.trans hl.1.symm) C.1.2.2.2.1 (C.1.2.2.2.2 _ wlX10_257) (C.1.2.2.2.2 _ wtJ9_max_7cf53) (C.1.2.2.2.2 _ wnJ9) (C.1.2.2.2.2 _ wkJ9_max_7cf53) (Nat.le_of_ble_eq_true rfl) (Nat.le_of_ble_eq_true rfl) (Nat.zero_le _) (Nat.zero_le _) dX10_depthFor_127 ?_
        refine lv_topi (fun x17 ex17 => ?_)
        replace hf := zLet_at hf ex17
        refine lv_istore_n (lv' := [(2, .int x17), (0, .ref (bV 0)), (1, .int p1), (3, .int x8), (4, .int x14), (5, .int x13)]) C.1.1 C.1.2.1 dX10_depthFor_130 rfl hl (by decide) rfl (fun ls hl => ?_)
        obtain ⟨x18, ex18, hf⟩ := zLet_el hf
        refine lv_iinc (v := x18) (lv' := [(3, .int x18), (2, .int x17), (0, .ref (bV 0)), (1, .int p1), (4, .int x14), (5, .int x13)]) C.1.1 C.1.2.1 dX10_depthFor_131 hl (k := 3) rfl (by rw [ex18]; rfl) (by decide) rfl (fun ls hl => ?_)
        refine lv_goto (tgt := 28) C.1.1 C.1.2.1 dX10_depthFor_134 (by decide) ?_
        exact ihgo10 x17 x18 mU_16 hf H locs hP hD hS ls (lv_sub hl [2, 3, 1, 0] rfl)
      refine lv_icmp_eq (tgt := 115) C.1.1 C.1.2.1 dX10_depthFor_74 (by decide) (fun hc => ?_) (fun hc => ?_)
      · replace hf := zIf_t hf hc
        exact hJ115_15 v11 hf H locs hP hD hS ls (lv_sub hl [2, 3, 4, 5, 1, 0] rfl)
      · replace hf := zIf_f hf hc
        refine lv_iload C.1.1 C.1.2.1 dX10_depthFor_77 (lv_at hl 1 rfl) ?_
        refine lv_aload_n C.1.1 C.1.2.1 dX10_depthFor_79 rfl (lv_at hl 2 rfl) ?_
        refine zGet (.ref (bV 3)) C.1 wuX10 hK hP 0 rfl rfl 24 (by decide) wfX10_53 rfl rfl dX10_depthFor_80 ?_
        refine lv_aload_n C.1.1 C.1.2.1 dX10_depthFor_83 rfl (lv_at hl 2 rfl) ?_
        refine zGet (.ref (bP 0)) C.1 wuX10 hK hP 0 rfl rfl 7 (by decide) wfX10_25 rfl rfl dX10_depthFor_84 ?_
        refine zGetN (.ref (bP 5)) C.1 wuX8 hK hP 14 rfl rfl 7 (by decide) nfX10_192 rfl rfl dX10_depthFor_87 ?_
        refine lv_iload_n C.1.1 C.1.2.1 dX10_depthFor_90 rfl (lv_at hl 5 rfl) ?_
        obtain ⟨hib, hf⟩ := zGd_el hf
        refine va_iald C.1.1 C.1.2.1 hK.1 hP 19 0 rfl rfl hib dX10_depthFor_91 ?_
        obtain ⟨hib, hf⟩ := zGd_el hf
        refine va_iald C.1.1 C.1.2.1 hK.1 hP 3 0 rfl rfl hib dX10_depthFor_92 ?_
        refine lv_aload_n C.1.1 C.1.2.1 dX10_depthFor_93 rfl (lv_at hl 2 rfl) ?_
        refine zGet (.ref (bV 3)) C.1 wuX10 hK hP 0 rfl rfl 24 (by decide) wfX10_53 rfl rfl dX10_depthFor_94 ?_
        refine lv_iload C.1.1 C.1.2.1 dX10_depthFor_97 (lv_at hl 0 rfl) ?_
        obtain ⟨hib, hf⟩ := zGd_el hf
        refine va_iald C.1.1 C.1.2.1 hK.1 hP 3 0 rfl rfl hib dX10_depthFor_99 ?_
        refine va_mmax C.1.1 C.1.2.1 (C.1.2.2.1.trans hl.1.symm) C.1.2.2.2.1 (C.1.2.2.2.2 _ wlX10_257) (C.1.2.2.2.2 _ wtJ9_max_7cf53) (C.1.2.2.2.2 _ wnJ9) (C.1.2.2.2.2 _ wkJ9_max_7cf53) (Nat.le_of_ble_eq_true rfl) (Nat.le_of_ble_eq_true rfl) (Nat.zero_le _) (Nat.zero_le _) dX10_depthFor_100 ?_
        refine lv_topi (fun x19 ex19 => ?_)
        replace hf := zLet_at hf ex19
        refine va_mmax C.1.1 C.1.2.1 (C.1.2.2.1.trans hl.1.symm) C.1.2.2.2.1 (C.1.2.2.2.2 _ wlX10_257) (C.1.2.2.2.2 _ wtJ9_max_7cf53) (C.1.2.2.2.2 _ wnJ9) (C.1.2.2.2.2 _ wkJ9_max_7cf53) (Nat.le_of_ble_eq_true rfl) (Nat.le_of_ble_eq_true rfl) (Nat.zero_le _) (Nat.zero_le _) dX10_depthFor_103 ?_
        refine lv_topi (fun x20 ex20 => ?_)
        replace hf := zLet_at hf ex20
        refine lv_aload_n C.1.1 C.1.2.1 dX10_depthFor_106 rfl (lv_at hl 2 rfl) ?_
        refine lv_bipush (v := 8) C.1.1 C.1.2.1 dX10_depthFor_107 (by decide) ?_
        obtain ⟨v21, hg, hf⟩ := zB1_el hf
        refine zCVi (As := [.int (8 : Int32)]) (rest := [.int x20]) (wr := (kX8 cI cB bP mP)) (wn := (kX10 cI cB bV (bP 0) (bS 0) (bW 0) (bN 0) (bO 0) mZ mY mB mL mU_12 mJ mK mG mA ++ kX8 cI cB bP mP)) C.1 hK hA hP hD hS [0, 1, 2, 3, 4, 5, 6, 7, 8, 9, 10, 11, 12, 13] [14, 15, 16, 17, 18, 19, 20, 21, 22, 23, 24] [11, 12, 13, 14, 15, 16, 17, 18, 19, 20, 21, 22, 23, 24, 0, 1, 2, 3, 4, 5, 6, 7, 8, 9, 10] 0 (mtX10_depthOf l dC dI cI cB bV bP bS bW bN bO H.size mZ mY mB mL mU_12 mJ mK mG mA (8 : Int32) hg) (zCwV 1 C.1 wlX10_254 wiX10_depthOf ws_X10_depthOf wnX10 wkX10_depthOf rfl rfl (by decide +kernel) ⟨Nat.le_of_ble_eq_true rfl, Nat.le_of_ble_eq_true rfl⟩) rfl rfl (by decide +kernel) rfl rfl rfl rfl hl.1 (Nat.le_of_ble_eq_true rfl) dX10_depthFor_109 ⟨Nat.zero_le _, Nat.zero_le _⟩ rfl (fun H locs hP hD hS => ?_)
        refine lv_iadd C.1.1 C.1.2.1 dX10_depthFor_112 ?_
        refine lv_topi (fun x22 ex22 => ?_)
        replace hf := zLet_at hf ex22
        refine lv_istore (lv' := [(4, .int x22), (5, .int x13), (0, .ref (bV 0)), (1, .int p1), (2, .int x7), (3, .int x8)]) C.1.1 C.1.2.1 dX10_depthFor_113 hl (by decide) rfl (fun ls hl => ?_)
        exact hJ115_15 x22 hf H locs hP hD hS ls (lv_sub hl [2, 3, 4, 5, 0, 1] rfl)
  refine zLp2_ind (o := (ov, mU')) (P := fun (x23 : Int32) (mU_24 : Rc) => ∀ (H : Heap) (locs : List Loc), va_P (dC, dI) vwCl (kX10 cI cB bV (bP 0) (bS 0) (bW 0) (bN 0) (bO 0) mZ mY mB mL mU_24 mJ mK mG mA ++ kX8 cI cB bP mP) H → va_D A (kX10 cI cB bV (bP 0) (bS 0) (bW 0) (bN 0) (bO 0) mZ mY mB mL mU_24 mJ mK mG mA ++ kX8 cI cB bP mP) → va_S A s.heap H locs → ∀ (ls : Array Slot), lv_has ls 6 [(0, .ref (bV 0)), (1, .int p1), (2, .int x23)] → W p l e rX10_depthFor s m args below meth c H locs 0 0 QQ (F0 m 2 ls [])) (fun go25 ihgo25 x23 mU_24 hf H locs hP hD hS ls hl => ?_) _ (0 : Int32) mU hf H locs hP hD hS ls (lv_sub hl [1, 2, 0] rfl)
  refine lv_iload_n C.1.1 C.1.2.1 dX10_depthFor_2 rfl (lv_at hl 2 rfl) ?_
  refine lv_bipush (v := 8) C.1.1 C.1.2.1 dX10_depthFor_3 (by decide) ?_
  refine lv_icmp_ge (tgt := 21) C.1.1 C.1.2.1 dX10_depthFor_5 (by decide) (fun hc => ?_) (fun hc => ?_)
  · replace hf := zIf_t hf hc
    exact hJ21_2 mU_24 hf H locs hP hD hS ls (lv_sub hl [0, 1] rfl)
  · replace hf := zIf_f hf hc
    refine lv_aload_n C.1.1 C.1.2.1 dX10_depthFor_8 rfl (lv_at hl 0 rfl) ?_
    refine zGet (.ref (bV 3)) C.1 wuX10 hK hP 0 rfl rfl 24 (by decide) wfX10_53 rfl rfl dX10_depthFor_9 ?_
    refine lv_iload_n C.1.1 C.1.2.1 dX10_depthFor_12 rfl (lv_at hl 2 rfl) ?_
    refine lv_iconst (v := 0) C.1.1 C.1.2.1 dX10_depthFor_13 (by decide) ?_
    obtain ⟨hib, hf⟩ := zGd_el hf
    obtain ⟨mU_26, emU_26, hf⟩ := zLet_el hf
    refine zIast (kX10 cI cB bV (bP 0) (bS 0) (bW 0) (bN 0) (bO 0) mZ mY mB mL mU_26 mJ mK mG mA ++ kX8 cI cB bP mP) C.1 hK hP hD hS 3 0 rfl rfl hib dX10_depthFor_14 (by rw [emU_26]; rfl) (fun H locs hP hD hS => ?_)
    obtain ⟨x27, ex27, hf⟩ := zLet_el hf
    refine lv_iinc (v := x27) (lv' := [(2, .int x27), (0, .ref (bV 0)), (1, .int p1)]) C.1.1 C.1.2.1 dX10_depthFor_15 hl (k := 2) rfl (by rw [ex27]; rfl) (by decide) rfl (fun ls hl => ?_)
    refine lv_goto (tgt := 2) C.1.1 C.1.2.1 dX10_depthFor_18 (by decide) ?_
    exact ihgo25 x27 mU_26 hf H locs hP hD hS ls (lv_sub hl [1, 2, 0] rfl)
def fX10_circuitTicks (NN : Nat) (mY : Rc) (mU : Rc) (mP : Rc) (p1 : Int32) : Option (Int32 × Rc) :=
  zGd (inb p1 12) <|
  zB2 (fX10_depthFor NN mY mU mP p1) fun v1 mU_2 =>
  zGd (¬ (mY 5 0) = 0) <|
  zLet (if (1 : Int32) < (((v1 + (mY 5 0)) - (1 : Int32)) / (mY 5 0)) then (((v1 + (mY 5 0)) - (1 : Int32)) / (mY 5 0)) else (1 : Int32)) fun x3 =>
  some (((1 : Int32) + ((mP 4 p1.toNatClampNeg) * x3)), mU_2)
abbrev rX10_circuitTicks : Room := { frames := 3, cells := 0, slots := 0, locals := 79 }
set_option maxHeartbeats 4000000 in
set_option maxRecDepth 100000 in
theorem mtX10_circuitTicks (l : Launch) (dC : Nat → ClassId) (dI : Nat → Nat → Nat) (cI cB : ClassId) (bV bP bS bW bN bO : Nat → Nat) (sz : Nat) (NN : Nat) (mZ : Rc) (mY : Rc) (mB : Rc) (mL : Rc) (mU : Rc) (mJ : Rc) (mK : Rc) (mG : Rc) (mA : Rc) (mP : Rc) (p1 : Int32) {ov : Int32} {mU' : Rc} (hf : fX10_circuitTicks NN mY mU mP p1 = some (ov, mU')) : zMi l yX10_circuitTicks (Cond.code yX10_circuitTicks cX10_circuitTicks 2 (some .int) :: lw_g) rX10_circuitTicks (dC, dI) [(cI, .int), (cB, .byte)] [.ref (bV 0), .int p1] sz (kX10 cI cB bV (bP 0) (bS 0) (bW 0) (bN 0) (bO 0) mZ mY mB mL mU mJ mK mG mA ++ kX8 cI cB bP mP) ov (kX10 cI cB bV (bP 0) (bS 0) (bW 0) (bN 0) (bO 0) mZ mY mB mL mU' mJ mK mG mA ++ kX8 cI cB bP mP) := by
  refine zSt (cc := cX10_circuitTicks) (maxL := 2) (ret := (some .int)) (own := RX10) (fun A => zQi (dC, dI) [(cI, .int), (cB, .byte)] A ov (kX10 cI cB bV (bP 0) (bS 0) (bW 0) (bN 0) (bO 0) mZ mY mB mL mU' mJ mK mG mA ++ kX8 cI cB bP mP)) (by decide) rfl rfl (Nat.le_of_ble_eq_true rfl) ?_
  intro p e s m below meth c ls A H locs C hK hA hP hD hS hl
  generalize hQ : MQ below (zQi (dC, dI) [(cI, .int), (cB, .byte)] A ov (kX10 cI cB bV (bP 0) (bS 0) (bW 0) (bN 0) (bO 0) mZ mY mB mL mU' mJ mK mG mA ++ kX8 cI cB bP mP)) _ s 0 0 A = QQ
  generalize ([.ref (bV 0), .int p1] : List Value).toArray = args at C hQ ⊢
  have hl : lv_has ls 2 [(0, .ref (bV 0)), (1, .int p1)] := hl
  unfold fX10_circuitTicks at hf
  refine lv_iconst (v := 1) C.1.1 C.1.2.1 dX10_circuitTicks_0 (by decide) ?_
  refine lv_aload_n C.1.1 C.1.2.1 dX10_circuitTicks_1 rfl (lv_at hl 0 rfl) ?_
  refine zGet (.ref (bP 0)) C.1 wuX10 hK hP 0 rfl rfl 7 (by decide) wfX10_25 rfl rfl dX10_circuitTicks_2 ?_
  refine zGetN (.ref (bP 2)) C.1 wuX8 hK hP 14 rfl rfl 4 (by decide) nfX10_171 rfl rfl dX10_circuitTicks_5 ?_
  refine lv_iload_n C.1.1 C.1.2.1 dX10_circuitTicks_8 rfl (lv_at hl 1 rfl) ?_
  obtain ⟨hib, hf⟩ := zGd_el hf
  refine va_iald C.1.1 C.1.2.1 hK.1 hP 16 0 rfl rfl hib dX10_circuitTicks_9 ?_
  refine lv_iconst (v := 1) C.1.1 C.1.2.1 dX10_circuitTicks_10 (by decide) ?_
  refine lv_aload_n C.1.1 C.1.2.1 dX10_circuitTicks_11 rfl (lv_at hl 0 rfl) ?_
  refine lv_iload_n C.1.1 C.1.2.1 dX10_circuitTicks_12 rfl (lv_at hl 1 rfl) ?_
  obtain ⟨v1, mU_2, hg, hf⟩ := zB2_el hf
  refine zCVi (As := [.int p1]) (rest := [.int (1 : Int32), .int (mP 4 p1.toNatClampNeg), .int (1 : Int32)]) (wr := ([] : va_W)) (wn := (kX10 cI cB bV (bP 0) (bS 0) (bW 0) (bN 0) (bO 0) mZ mY mB mL mU_2 mJ mK mG mA ++ kX8 cI cB bP mP)) C.1 hK hA hP hD hS [0, 1, 2, 3, 4, 5, 6, 7, 8, 9, 10, 11, 12, 13, 14, 15, 16, 17, 18, 19, 20, 21, 22, 23, 24] [] [0, 1, 2, 3, 4, 5, 6, 7, 8, 9, 10, 11, 12, 13, 14, 15, 16, 17, 18, 19, 20, 21, 22, 23, 24] 0 (mtX10_depthFor l dC dI cI cB bV bP bS bW bN bO H.size NN mZ mY mB mL mU mJ mK mG mA mP p1 hg) (zCwV 1 C.1 wlX10_266 wiX10_depthFor ws_X10_depthFor wnX10 wkX10_depthFor rfl rfl (by decide +kernel) ⟨Nat.le_of_ble_eq_true rfl, Nat.le_of_ble_eq_true rfl⟩) rfl rfl (by decide +kernel) rfl rfl rfl rfl hl.1 (Nat.le_of_ble_eq_true rfl) dX10_circuitTicks_13 ⟨Nat.zero_le _, Nat.zero_le _⟩ rfl (fun H locs hP hD hS => ?_)
  refine lv_aload_n C.1.1 C.1.2.1 dX10_circuitTicks_16 rfl (lv_at hl 0 rfl) ?_
  refine zGet (.int (mY 5 0)) C.1 wuX10 hK hP 0 rfl rfl 5 (by decide) wfX10_16 rfl rfl dX10_circuitTicks_17 ?_
  refine lv_iadd C.1.1 C.1.2.1 dX10_circuitTicks_20 ?_
  refine lv_iconst (v := 1) C.1.1 C.1.2.1 dX10_circuitTicks_21 (by decide) ?_
  refine lv_isub C.1.1 C.1.2.1 dX10_circuitTicks_22 ?_
  refine lv_aload_n C.1.1 C.1.2.1 dX10_circuitTicks_23 rfl (lv_at hl 0 rfl) ?_
  refine zGet (.int (mY 5 0)) C.1 wuX10 hK hP 0 rfl rfl 5 (by decide) wfX10_16 rfl rfl dX10_circuitTicks_24 ?_
  obtain ⟨hne, hf⟩ := zGd_el hf
  refine lv_idiv C.1.1 C.1.2.1 dX10_circuitTicks_27 hne ?_
  refine va_mmax C.1.1 C.1.2.1 (C.1.2.2.1.trans hl.1.symm) C.1.2.2.2.1 (C.1.2.2.2.2 _ wlX10_257) (C.1.2.2.2.2 _ wtJ9_max_7cf53) (C.1.2.2.2.2 _ wnJ9) (C.1.2.2.2.2 _ wkJ9_max_7cf53) (Nat.le_of_ble_eq_true rfl) (Nat.le_of_ble_eq_true rfl) (Nat.zero_le _) (Nat.zero_le _) dX10_circuitTicks_28 ?_
  refine lv_topi (fun x3 ex3 => ?_)
  replace hf := zLet_at hf ex3
  refine lv_imul C.1.1 C.1.2.1 dX10_circuitTicks_31 ?_
  refine lv_iadd C.1.1 C.1.2.1 dX10_circuitTicks_32 ?_
  cases hf
  rw [← hQ]
  exact zRi C hK hP hD hS dX10_circuitTicks_33
def fX10_readsOf_L44 (mP : Rc) (x6 : Int32) (J101_10 : Int32 → Option (Int32)) (n : Nat) (x19 : Int32) (x20 : Int32) : Option (Int32) := zLp2 (fun (go21 : Int32 → Int32 → Option (Int32)) (x19 : Int32) (x20 : Int32) =>
    zGd (inb x6 96) <|
    if (mP 10 x6.toNatClampNeg) ≤ x20 then (
      J101_10 x19
    ) else (
      zGd (inb x20 700) <|
      if (mP 11 x20.toNatClampNeg) = (9 : Int32) then (
        zGd (inb x20 700) <|
        zLet (x19 ||| ((1 : Int32) <<< ((mP 12 x20.toNatClampNeg) &&& 31))) fun x24 =>
        zLet (x20 + 1) fun x25 =>
        go21 x24 x25
      ) else (
        zLet (x19 ||| (0 : Int32)) fun x22 =>
        zLet (x20 + 1) fun x23 =>
        go21 x22 x23
      )
    )
  ) n x19 x20
def fX10_readsOf_L10 (mP : Rc) (p1 : Int32) (NN : Nat) (J193_3 : Int32 → Option (Int32)) (n : Nat) (x4 : Int32) (x5 : Int32) (x6 : Int32) : Option (Int32) := zLp3 (fun (go7 : Int32 → Int32 → Int32 → Option (Int32)) (x4 : Int32) (x5 : Int32) (x6 : Int32) =>
    zGd (inb p1 12) <|
    if (((8 : Int32) * p1) + (mP 5 p1.toNatClampNeg)) ≤ x6 then (
      J193_3 x4
    ) else (
      zGd (inb x6 96) <|
      zLet (mP 9 x6.toNatClampNeg) fun x8 =>
      zJn (fun (x9 : Int32) =>
          zGd (inb x6 96) <|
          zJn (fun (x11 : Int32) =>
              zLet (x4 ||| (x11 &&& (x5 ^^^ (-1 : Int32)))) fun x13 =>
              zGd (inb x6 96) <|
              if (mP 7 x6.toNatClampNeg) = (-1 : Int32) then (
                zGd (inb x6 96) <|
                zLet (x5 ||| ((1 : Int32) <<< ((mP 8 x6.toNatClampNeg) &&& 31))) fun x16 =>
                zLet (x6 + 1) fun x17 =>
                go7 x13 x16 x17
              ) else (
                zLet (x5 ||| (0 : Int32)) fun x14 =>
                zLet (x6 + 1) fun x15 =>
                go7 x13 x14 x15
              )
            ) fun J145_12 =>
          if (mP 7 x6.toNatClampNeg) = (-1 : Int32) then (
            J145_12 x9
          ) else (
            zGd (inb x6 96) <|
            zGd (inb x6 96) <|
            zLet (x9 ||| (((1 : Int32) <<< ((mP 7 x6.toNatClampNeg) &&& 31)) ||| ((1 : Int32) <<< ((mP 8 x6.toNatClampNeg) &&& 31)))) fun x18 =>
            J145_12 x18
          )
        ) fun J101_10 =>
      fX10_readsOf_L44 mP x6 J101_10 NN (0 : Int32) x8
    )
  ) n x4 x5 x6
def fX10_readsOf (NN : Nat) (mP : Rc) (p1 : Int32) : Option (Int32) :=
  zLet ((8 : Int32) * p1) fun x1 =>
  zJn (fun (x2 : Int32) =>
      some x2
    ) fun J193_3 =>
  fX10_readsOf_L10 mP p1 NN J193_3 NN (0 : Int32) (0 : Int32) x1
abbrev rX10_readsOf : Room := { frames := 0, cells := 0, slots := 0, locals := 0 }
set_option maxHeartbeats 4000000 in
set_option maxRecDepth 100000 in
theorem mtX10_readsOf (l : Launch) (dC : Nat → ClassId) (dI : Nat → Nat → Nat) (cI cB : ClassId) (bV bP bS bW bN bO : Nat → Nat) (sz : Nat) (NN : Nat) (mZ : Rc) (mY : Rc) (mB : Rc) (mL : Rc) (mU : Rc) (mJ : Rc) (mK : Rc) (mG : Rc) (mA : Rc) (mP : Rc) (p1 : Int32) {ov : Int32} (hf : fX10_readsOf NN mP p1 = some ov) : zMi l yX10_readsOf (Cond.code yX10_readsOf cX10_readsOf 7 (some .int) :: lw_g) rX10_readsOf (dC, dI) [(cI, .int), (cB, .byte)] [.ref (bV 0), .int p1] sz (kX10 cI cB bV (bP 0) (bS 0) (bW 0) (bN 0) (bO 0) mZ mY mB mL mU mJ mK mG mA ++ kX8 cI cB bP mP) ov (kX10 cI cB bV (bP 0) (bS 0) (bW 0) (bN 0) (bO 0) mZ mY mB mL mU mJ mK mG mA ++ kX8 cI cB bP mP) := by
  refine zSt (cc := cX10_readsOf) (maxL := 7) (ret := (some .int)) (own := RX10) (fun A => zQi (dC, dI) [(cI, .int), (cB, .byte)] A ov (kX10 cI cB bV (bP 0) (bS 0) (bW 0) (bN 0) (bO 0) mZ mY mB mL mU mJ mK mG mA ++ kX8 cI cB bP mP)) (by decide) rfl rfl (Nat.le_of_ble_eq_true rfl) ?_
  intro p e s m below meth c ls A H locs C hK hA hP hD hS hl
  generalize hQ : MQ below (zQi (dC, dI) [(cI, .int), (cB, .byte)] A ov (kX10 cI cB bV (bP 0) (bS 0) (bW 0) (bN 0) (bO 0) mZ mY mB mL mU mJ mK mG mA ++ kX8 cI cB bP mP)) _ s 0 0 A = QQ
  generalize ([.ref (bV 0), .int p1] : List Value).toArray = args at C hQ ⊢
  have hl : lv_has ls 7 [(0, .ref (bV 0)), (1, .int p1)] := hl
  unfold fX10_readsOf at hf
  refine lv_iconst (v := 0) C.1.1 C.1.2.1 dX10_readsOf_0 (by decide) ?_
  refine lv_istore_n (lv' := [(2, .int (0 : Int32)), (0, .ref (bV 0)), (1, .int p1)]) C.1.1 C.1.2.1 dX10_readsOf_1 rfl hl (by decide) rfl (fun ls hl => ?_)
  refine lv_iconst (v := 0) C.1.1 C.1.2.1 dX10_readsOf_2 (by decide) ?_
  refine lv_istore_n (lv' := [(3, .int (0 : Int32)), (2, .int (0 : Int32)), (0, .ref (bV 0)), (1, .int p1)]) C.1.1 C.1.2.1 dX10_readsOf_3 rfl hl (by decide) rfl (fun ls hl => ?_)
  refine lv_bipush (v := 8) C.1.1 C.1.2.1 dX10_readsOf_4 (by decide) ?_
  refine lv_iload_n C.1.1 C.1.2.1 dX10_readsOf_6 rfl (lv_at hl 3 rfl) ?_
  refine lv_imul C.1.1 C.1.2.1 dX10_readsOf_7 ?_
  refine lv_topi (fun x1 ex1 => ?_)
  replace hf := zLet_at hf ex1
  refine lv_istore (lv' := [(4, .int x1), (3, .int (0 : Int32)), (2, .int (0 : Int32)), (0, .ref (bV 0)), (1, .int p1)]) C.1.1 C.1.2.1 dX10_readsOf_8 hl (by decide) rfl (fun ls hl => ?_)
  obtain ⟨J193_3, eJ193_3, hf⟩ := zJn_el hf
  have hJ193_3 : ∀ (x2 : Int32), J193_3 x2 = some ov → ∀ (H : Heap) (locs : List Loc), va_P (dC, dI) vwCl (kX10 cI cB bV (bP 0) (bS 0) (bW 0) (bN 0) (bO 0) mZ mY mB mL mU mJ mK mG mA ++ kX8 cI cB bP mP) H → va_D A (kX10 cI cB bV (bP 0) (bS 0) (bW 0) (bN 0) (bO 0) mZ mY mB mL mU mJ mK mG mA ++ kX8 cI cB bP mP) → va_S A s.heap H locs → ∀ (ls : Array Slot), lv_has ls 7 [(2, .int x2)] → W p l e rX10_readsOf s m args below meth c H locs 0 0 QQ (F0 m 193 ls []) := by
    intro x2 hf H locs hP hD hS ls hl
    rw [eJ193_3] at hf
    refine lv_iload_n C.1.1 C.1.2.1 dX10_readsOf_193 rfl (lv_at hl 0 rfl) ?_
    cases hf
    rw [← hQ]
    exact zRi C hK hP hD hS dX10_readsOf_194
  refine zLp3_ind (o := ov) (P := fun (x4 : Int32) (x5 : Int32) (x6 : Int32) => ∀ (H : Heap) (locs : List Loc), va_P (dC, dI) vwCl (kX10 cI cB bV (bP 0) (bS 0) (bW 0) (bN 0) (bO 0) mZ mY mB mL mU mJ mK mG mA ++ kX8 cI cB bP mP) H → va_D A (kX10 cI cB bV (bP 0) (bS 0) (bW 0) (bN 0) (bO 0) mZ mY mB mL mU mJ mK mG mA ++ kX8 cI cB bP mP) → va_S A s.heap H locs → ∀ (ls : Array Slot), lv_has ls 7 [(0, .ref (bV 0)), (1, .int p1), (2, .int x4), (3, .int x5), (4, .int x6)] → W p l e rX10_readsOf s m args below meth c H locs 0 0 QQ (F0 m 10 ls [])) (fun go7 ihgo7 x4 x5 x6 hf H locs hP hD hS ls hl => ?_) _ (0 : Int32) (0 : Int32) x1 hf H locs hP hD hS ls (lv_sub hl [3, 4, 2, 1, 0] rfl)
  refine lv_iload C.1.1 C.1.2.1 dX10_readsOf_10 (lv_at hl 4 rfl) ?_
  refine lv_bipush (v := 8) C.1.1 C.1.2.1 dX10_readsOf_12 (by decide) ?_
  refine lv_iload_n C.1.1 C.1.2.1 dX10_readsOf_14 rfl (lv_at hl 1 rfl) ?_
  refine lv_imul C.1.1 C.1.2.1 dX10_readsOf_15 ?_
  refine lv_aload_n C.1.1 C.1.2.1 dX10_readsOf_16 rfl (lv_at hl 0 rfl) ?_
  refine zGet (.ref (bP 0)) C.1 wuX10 hK hP 0 rfl rfl 7 (by decide) wfX10_25 rfl rfl dX10_readsOf_17 ?_
  refine zGetN (.ref (bP 3)) C.1 wuX8 hK hP 14 rfl rfl 5 (by decide) nfX10_174 rfl rfl dX10_readsOf_20 ?_
  refine lv_iload_n C.1.1 C.1.2.1 dX10_readsOf_23 rfl (lv_at hl 1 rfl) ?_
  obtain ⟨hib, hf⟩ := zGd_el hf
  refine va_iald C.1.1 C.1.2.1 hK.1 hP 17 0 rfl rfl hib dX10_readsOf_24 ?_
  refine lv_iadd C.1.1 C.1.2.1 dX10_readsOf_25 ?_
  refine lv_icmp_ge (tgt := 193) C.1.1 C.1.2.1 dX10_readsOf_26 (by decide) (fun hc => ?_) (fun hc => ?_)
  · replace hf := zIf_t hf hc
    exact hJ193_3 x4 hf H locs hP hD hS ls (lv_sub hl [2] rfl)
  · replace hf := zIf_f hf hc
    refine lv_iconst (v := 0) C.1.1 C.1.2.1 dX10_readsOf_29 (by decide) ?_
    refine lv_istore (lv' := [(5, .int (0 : Int32)), (0, .ref (bV 0)), (1, .int p1), (2, .int x4), (3, .int x5), (4, .int x6)]) C.1.1 C.1.2.1 dX10_readsOf_30 hl (by decide) rfl (fun ls hl => ?_)
    refine lv_aload_n C.1.1 C.1.2.1 dX10_readsOf_32 rfl (lv_at hl 1 rfl) ?_
    refine zGet (.ref (bP 0)) C.1 wuX10 hK hP 0 rfl rfl 7 (by decide) wfX10_25 rfl rfl dX10_readsOf_33 ?_
    refine zGetN (.ref (bP 7)) C.1 wuX8 hK hP 14 rfl rfl 9 (by decide) nfX10_201 rfl rfl dX10_readsOf_36 ?_
    refine lv_iload C.1.1 C.1.2.1 dX10_readsOf_39 (lv_at hl 5 rfl) ?_
    obtain ⟨hib, hf⟩ := zGd_el hf
    refine va_iald C.1.1 C.1.2.1 hK.1 hP 21 0 rfl rfl hib dX10_readsOf_41 ?_
    refine lv_topi (fun x8 ex8 => ?_)
    replace hf := zLet_at hf ex8
    refine lv_istore (lv' := [(6, .int x8), (5, .int (0 : Int32)), (0, .ref (bV 0)), (1, .int p1), (2, .int x4), (3, .int x5), (4, .int x6)]) C.1.1 C.1.2.1 dX10_readsOf_42 hl (by decide) rfl (fun ls hl => ?_)
    obtain ⟨J101_10, eJ101_10, hf⟩ := zJn_el hf
    have hJ101_10 : ∀ (x9 : Int32), J101_10 x9 = some ov → ∀ (H : Heap) (locs : List Loc), va_P (dC, dI) vwCl (kX10 cI cB bV (bP 0) (bS 0) (bW 0) (bN 0) (bO 0) mZ mY mB mL mU mJ mK mG mA ++ kX8 cI cB bP mP) H → va_D A (kX10 cI cB bV (bP 0) (bS 0) (bW 0) (bN 0) (bO 0) mZ mY mB mL mU mJ mK mG mA ++ kX8 cI cB bP mP) → va_S A s.heap H locs → ∀ (ls : Array Slot), lv_has ls 7 [(0, .ref (bV 0)), (1, .int p1), (2, .int x4), (3, .int x5), (4, .int x6), (5, .int x9)] → W p l e rX10_readsOf s m args below meth c H locs 0 0 QQ (F0 m 101 ls []) := by
      intro x9 hf H locs hP hD hS ls hl
      rw [eJ101_10] at hf
      refine lv_aload_n C.1.1 C.1.2.1 dX10_readsOf_101 rfl (lv_at hl 0 rfl) ?_
      refine zGet (.ref (bP 0)) C.1 wuX10 hK hP 0 rfl rfl 7 (by decide) wfX10_25 rfl rfl dX10_readsOf_102 ?_
      refine zGetN (.ref (bP 5)) C.1 wuX8 hK hP 14 rfl rfl 7 (by decide) nfX10_192 rfl rfl dX10_readsOf_105 ?_
      refine lv_iload C.1.1 C.1.2.1 dX10_readsOf_108 (lv_at hl 4 rfl) ?_
      obtain ⟨hib, hf⟩ := zGd_el hf
      refine va_iald C.1.1 C.1.2.1 hK.1 hP 19 0 rfl rfl hib dX10_readsOf_110 ?_
      refine lv_iconst (v := (-1)) C.1.1 C.1.2.1 dX10_readsOf_111 (by decide) ?_
      obtain ⟨J145_12, eJ145_12, hf⟩ := zJn_el hf
      have hJ145_12 : ∀ (x11 : Int32), J145_12 x11 = some ov → ∀ (H : Heap) (locs : List Loc), va_P (dC, dI) vwCl (kX10 cI cB bV (bP 0) (bS 0) (bW 0) (bN 0) (bO 0) mZ mY mB mL mU mJ mK mG mA ++ kX8 cI cB bP mP) H → va_D A (kX10 cI cB bV (bP 0) (bS 0) (bW 0) (bN 0) (bO 0) mZ mY mB mL mU mJ mK mG mA ++ kX8 cI cB bP mP) → va_S A s.heap H locs → ∀ (ls : Array Slot), lv_has ls 7 [(0, .ref (bV 0)), (1, .int p1), (2, .int x4), (3, .int x5), (4, .int x6), (5, .int x11)] → W p l e rX10_readsOf s m args below meth c H locs 0 0 QQ (F0 m 145 ls []) := by
        intro x11 hf H locs hP hD hS ls hl
        rw [eJ145_12] at hf
        refine lv_iload_n C.1.1 C.1.2.1 dX10_readsOf_145 rfl (lv_at hl 2 rfl) ?_
        refine lv_iload C.1.1 C.1.2.1 dX10_readsOf_146 (lv_at hl 5 rfl) ?_
        refine lv_iload_n C.1.1 C.1.2.1 dX10_readsOf_148 rfl (lv_at hl 3 rfl) ?_
        refine lv_iconst (v := (-1)) C.1.1 C.1.2.1 dX10_readsOf_149 (by decide) ?_
        refine lv_ixor C.1.1 C.1.2.1 dX10_readsOf_150 ?_
        refine lv_iand C.1.1 C.1.2.1 dX10_readsOf_151 ?_
        refine lv_ior C.1.1 C.1.2.1 dX10_readsOf_152 ?_
        refine lv_topi (fun x13 ex13 => ?_)
        replace hf := zLet_at hf ex13
        refine lv_istore_n (lv' := [(2, .int x13), (0, .ref (bV 0)), (1, .int p1), (3, .int x5), (4, .int x6), (5, .int x11)]) C.1.1 C.1.2.1 dX10_readsOf_153 rfl hl (by decide) rfl (fun ls hl => ?_)
        refine lv_iload_n C.1.1 C.1.2.1 dX10_readsOf_154 rfl (lv_at hl 3 rfl) ?_
        refine lv_aload_n C.1.1 C.1.2.1 dX10_readsOf_155 rfl (lv_at hl 1 rfl) ?_
        refine zGet (.ref (bP 0)) C.1 wuX10 hK hP 0 rfl rfl 7 (by decide) wfX10_25 rfl rfl dX10_readsOf_156 ?_
        refine zGetN (.ref (bP 5)) C.1 wuX8 hK hP 14 rfl rfl 7 (by decide) nfX10_192 rfl rfl dX10_readsOf_159 ?_
        refine lv_iload C.1.1 C.1.2.1 dX10_readsOf_162 (lv_at hl 4 rfl) ?_
        obtain ⟨hib, hf⟩ := zGd_el hf
        refine va_iald C.1.1 C.1.2.1 hK.1 hP 19 0 rfl rfl hib dX10_readsOf_164 ?_
        refine lv_iconst (v := (-1)) C.1.1 C.1.2.1 dX10_readsOf_165 (by decide) ?_
        refine lv_icmp_ne (tgt := 184) C.1.1 C.1.2.1 dX10_readsOf_166 (by decide) (fun hc => ?_) (fun hc => ?_)
        · replace hf := zIf_f hf hc
          refine lv_iconst (v := 0) C.1.1 C.1.2.1 dX10_readsOf_184 (by decide) ?_
          refine lv_ior C.1.1 C.1.2.1 dX10_readsOf_185 ?_
          refine lv_topi (fun x14 ex14 => ?_)
          replace hf := zLet_at hf ex14
          refine lv_istore_n (lv' := [(3, .int x14), (2, .int x13), (0, .ref (bV 0)), (1, .int p1), (4, .int x6), (5, .int x11)]) C.1.1 C.1.2.1 dX10_readsOf_186 rfl hl (by decide) rfl (fun ls hl => ?_)
          obtain ⟨x15, ex15, hf⟩ := zLet_el hf
          refine lv_iinc (v := x15) (lv' := [(4, .int x15), (3, .int x14), (2, .int x13), (0, .ref (bV 0)), (1, .int p1), (5, .int x11)]) C.1.1 C.1.2.1 dX10_readsOf_187 hl (k := 4) rfl (by rw [ex15]; rfl) (by decide) rfl (fun ls hl => ?_)
          refine lv_goto (tgt := 10) C.1.1 C.1.2.1 dX10_readsOf_190 (by decide) ?_
          exact ihgo7 x13 x14 x15 hf H locs hP hD hS ls (lv_sub hl [3, 4, 2, 1, 0] rfl)
        · replace hf := zIf_t hf hc
          refine lv_iconst (v := 1) C.1.1 C.1.2.1 dX10_readsOf_169 (by decide) ?_
          refine lv_aload_n C.1.1 C.1.2.1 dX10_readsOf_170 rfl (lv_at hl 1 rfl) ?_
          refine zGet (.ref (bP 0)) C.1 wuX10 hK hP 0 rfl rfl 7 (by decide) wfX10_25 rfl rfl dX10_readsOf_171 ?_
          refine zGetN (.ref (bP 6)) C.1 wuX8 hK hP 14 rfl rfl 8 (by decide) nfX10_198 rfl rfl dX10_readsOf_174 ?_
          refine lv_iload C.1.1 C.1.2.1 dX10_readsOf_177 (lv_at hl 4 rfl) ?_
          obtain ⟨hib, hf⟩ := zGd_el hf
          refine va_iald C.1.1 C.1.2.1 hK.1 hP 20 0 rfl rfl hib dX10_readsOf_179 ?_
          refine lv_ishl C.1.1 C.1.2.1 dX10_readsOf_180 ?_
          refine lv_goto (tgt := 185) C.1.1 C.1.2.1 dX10_readsOf_181 (by decide) ?_
          refine lv_ior C.1.1 C.1.2.1 dX10_readsOf_185 ?_
          refine lv_topi (fun x16 ex16 => ?_)
          replace hf := zLet_at hf ex16
          refine lv_istore_n (lv' := [(3, .int x16), (2, .int x13), (0, .ref (bV 0)), (1, .int p1), (4, .int x6), (5, .int x11)]) C.1.1 C.1.2.1 dX10_readsOf_186 rfl hl (by decide) rfl (fun ls hl => ?_)
          obtain ⟨x17, ex17, hf⟩ := zLet_el hf
          refine lv_iinc (v := x17) (lv' := [(4, .int x17), (3, .int x16), (2, .int x13), (0, .ref (bV 0)), (1, .int p1), (5, .int x11)]) C.1.1 C.1.2.1 dX10_readsOf_187 hl (k := 4) rfl (by rw [ex17]; rfl) (by decide) rfl (fun ls hl => ?_)
          refine lv_goto (tgt := 10) C.1.1 C.1.2.1 dX10_readsOf_190 (by decide) ?_
          exact ihgo7 x13 x16 x17 hf H locs hP hD hS ls (lv_sub hl [3, 4, 2, 1, 0] rfl)
      refine lv_icmp_eq (tgt := 145) C.1.1 C.1.2.1 dX10_readsOf_112 (by decide) (fun hc => ?_) (fun hc => ?_)
      · replace hf := zIf_t hf hc
        exact hJ145_12 x9 hf H locs hP hD hS ls (lv_sub hl [0, 1, 2, 3, 4, 5] rfl)
      · replace hf := zIf_f hf hc
        refine lv_iload C.1.1 C.1.2.1 dX10_readsOf_115 (lv_at hl 5 rfl) ?_
        refine lv_iconst (v := 1) C.1.1 C.1.2.1 dX10_readsOf_117 (by decide) ?_
        refine lv_aload_n C.1.1 C.1.2.1 dX10_readsOf_118 rfl (lv_at hl 0 rfl) ?_
        refine zGet (.ref (bP 0)) C.1 wuX10 hK hP 0 rfl rfl 7 (by decide) wfX10_25 rfl rfl dX10_readsOf_119 ?_
        refine zGetN (.ref (bP 5)) C.1 wuX8 hK hP 14 rfl rfl 7 (by decide) nfX10_192 rfl rfl dX10_readsOf_122 ?_
        refine lv_iload C.1.1 C.1.2.1 dX10_readsOf_125 (lv_at hl 4 rfl) ?_
        obtain ⟨hib, hf⟩ := zGd_el hf
        refine va_iald C.1.1 C.1.2.1 hK.1 hP 19 0 rfl rfl hib dX10_readsOf_127 ?_
        refine lv_ishl C.1.1 C.1.2.1 dX10_readsOf_128 ?_
        refine lv_iconst (v := 1) C.1.1 C.1.2.1 dX10_readsOf_129 (by decide) ?_
        refine lv_aload_n C.1.1 C.1.2.1 dX10_readsOf_130 rfl (lv_at hl 0 rfl) ?_
        refine zGet (.ref (bP 0)) C.1 wuX10 hK hP 0 rfl rfl 7 (by decide) wfX10_25 rfl rfl dX10_readsOf_131 ?_
        refine zGetN (.ref (bP 6)) C.1 wuX8 hK hP 14 rfl rfl 8 (by decide) nfX10_198 rfl rfl dX10_readsOf_134 ?_
        refine lv_iload C.1.1 C.1.2.1 dX10_readsOf_137 (lv_at hl 4 rfl) ?_
        obtain ⟨hib, hf⟩ := zGd_el hf
        refine va_iald C.1.1 C.1.2.1 hK.1 hP 20 0 rfl rfl hib dX10_readsOf_139 ?_
        refine lv_ishl C.1.1 C.1.2.1 dX10_readsOf_140 ?_
        refine lv_ior C.1.1 C.1.2.1 dX10_readsOf_141 ?_
        refine lv_ior C.1.1 C.1.2.1 dX10_readsOf_142 ?_
        refine lv_topi (fun x18 ex18 => ?_)
        replace hf := zLet_at hf ex18
        refine lv_istore (lv' := [(5, .int x18), (0, .ref (bV 0)), (1, .int p1), (2, .int x4), (3, .int x5), (4, .int x6)]) C.1.1 C.1.2.1 dX10_readsOf_143 hl (by decide) rfl (fun ls hl => ?_)
        exact hJ145_12 x18 hf H locs hP hD hS ls (lv_sub hl [1, 2, 3, 4, 5, 0] rfl)
    refine zLp2_ind (o := ov) (P := fun (x19 : Int32) (x20 : Int32) => ∀ (H : Heap) (locs : List Loc), va_P (dC, dI) vwCl (kX10 cI cB bV (bP 0) (bS 0) (bW 0) (bN 0) (bO 0) mZ mY mB mL mU mJ mK mG mA ++ kX8 cI cB bP mP) H → va_D A (kX10 cI cB bV (bP 0) (bS 0) (bW 0) (bN 0) (bO 0) mZ mY mB mL mU mJ mK mG mA ++ kX8 cI cB bP mP) → va_S A s.heap H locs → ∀ (ls : Array Slot), lv_has ls 7 [(0, .ref (bV 0)), (1, .int p1), (2, .int x4), (3, .int x5), (4, .int x6), (5, .int x19), (6, .int x20)] → W p l e rX10_readsOf s m args below meth c H locs 0 0 QQ (F0 m 44 ls [])) (fun go21 ihgo21 x19 x20 hf H locs hP hD hS ls hl => ?_) _ (0 : Int32) x8 hf H locs hP hD hS ls (lv_sub hl [2, 3, 4, 5, 6, 1, 0] rfl)
    refine lv_iload C.1.1 C.1.2.1 dX10_readsOf_44 (lv_at hl 6 rfl) ?_
    refine lv_aload_n C.1.1 C.1.2.1 dX10_readsOf_46 rfl (lv_at hl 0 rfl) ?_
    refine zGet (.ref (bP 0)) C.1 wuX10 hK hP 0 rfl rfl 7 (by decide) wfX10_25 rfl rfl dX10_readsOf_47 ?_
    refine zGetN (.ref (bP 8)) C.1 wuX8 hK hP 14 rfl rfl 10 (by decide) nfX10_207 rfl rfl dX10_readsOf_50 ?_
    refine lv_iload C.1.1 C.1.2.1 dX10_readsOf_53 (lv_at hl 4 rfl) ?_
    obtain ⟨hib, hf⟩ := zGd_el hf
    refine va_iald C.1.1 C.1.2.1 hK.1 hP 22 0 rfl rfl hib dX10_readsOf_55 ?_
    refine lv_icmp_ge (tgt := 101) C.1.1 C.1.2.1 dX10_readsOf_56 (by decide) (fun hc => ?_) (fun hc => ?_)
    · replace hf := zIf_t hf hc
      exact hJ101_10 x19 hf H locs hP hD hS ls (lv_sub hl [0, 1, 2, 3, 4, 5] rfl)
    · replace hf := zIf_f hf hc
      refine lv_iload C.1.1 C.1.2.1 dX10_readsOf_59 (lv_at hl 5 rfl) ?_
      refine lv_aload_n C.1.1 C.1.2.1 dX10_readsOf_61 rfl (lv_at hl 0 rfl) ?_
      refine zGet (.ref (bP 0)) C.1 wuX10 hK hP 0 rfl rfl 7 (by decide) wfX10_25 rfl rfl dX10_readsOf_62 ?_
      refine zGetN (.ref (bP 9)) C.1 wuX8 hK hP 14 rfl rfl 11 (by decide) nfX10_245 rfl rfl dX10_readsOf_65 ?_
      refine lv_iload C.1.1 C.1.2.1 dX10_readsOf_68 (lv_at hl 6 rfl) ?_
      obtain ⟨hib, hf⟩ := zGd_el hf
      refine va_iald C.1.1 C.1.2.1 hK.1 hP 23 0 rfl rfl hib dX10_readsOf_70 ?_
      refine lv_bipush (v := 9) C.1.1 C.1.2.1 dX10_readsOf_71 (by decide) ?_
      refine lv_icmp_ne (tgt := 91) C.1.1 C.1.2.1 dX10_readsOf_73 (by decide) (fun hc => ?_) (fun hc => ?_)
      · replace hf := zIf_f hf hc
        refine lv_iconst (v := 0) C.1.1 C.1.2.1 dX10_readsOf_91 (by decide) ?_
        refine lv_ior C.1.1 C.1.2.1 dX10_readsOf_92 ?_
        refine lv_topi (fun x22 ex22 => ?_)
        replace hf := zLet_at hf ex22
        refine lv_istore (lv' := [(5, .int x22), (0, .ref (bV 0)), (1, .int p1), (2, .int x4), (3, .int x5), (4, .int x6), (6, .int x20)]) C.1.1 C.1.2.1 dX10_readsOf_93 hl (by decide) rfl (fun ls hl => ?_)
        obtain ⟨x23, ex23, hf⟩ := zLet_el hf
        refine lv_iinc (v := x23) (lv' := [(6, .int x23), (5, .int x22), (0, .ref (bV 0)), (1, .int p1), (2, .int x4), (3, .int x5), (4, .int x6)]) C.1.1 C.1.2.1 dX10_readsOf_95 hl (k := 6) rfl (by rw [ex23]; rfl) (by decide) rfl (fun ls hl => ?_)
        refine lv_goto (tgt := 44) C.1.1 C.1.2.1 dX10_readsOf_98 (by decide) ?_
        exact ihgo21 x22 x23 hf H locs hP hD hS ls (lv_sub hl [2, 3, 4, 5, 6, 1, 0] rfl)
      · replace hf := zIf_t hf hc
        refine lv_iconst (v := 1) C.1.1 C.1.2.1 dX10_readsOf_76 (by decide) ?_
        refine lv_aload_n C.1.1 C.1.2.1 dX10_readsOf_77 rfl (lv_at hl 0 rfl) ?_
        refine zGet (.ref (bP 0)) C.1 wuX10 hK hP 0 rfl rfl 7 (by decide) wfX10_25 rfl rfl dX10_readsOf_78 ?_
        refine zGetN (.ref (bP 10)) C.1 wuX8 hK hP 14 rfl rfl 12 (by decide) nfX10_251 rfl rfl dX10_readsOf_81 ?_
        refine lv_iload C.1.1 C.1.2.1 dX10_readsOf_84 (lv_at hl 6 rfl) ?_
        obtain ⟨hib, hf⟩ := zGd_el hf
        refine va_iald C.1.1 C.1.2.1 hK.1 hP 24 0 rfl rfl hib dX10_readsOf_86 ?_
        refine lv_ishl C.1.1 C.1.2.1 dX10_readsOf_87 ?_
        refine lv_goto (tgt := 92) C.1.1 C.1.2.1 dX10_readsOf_88 (by decide) ?_
        refine lv_ior C.1.1 C.1.2.1 dX10_readsOf_92 ?_
        refine lv_topi (fun x24 ex24 => ?_)
        replace hf := zLet_at hf ex24
        refine lv_istore (lv' := [(5, .int x24), (0, .ref (bV 0)), (1, .int p1), (2, .int x4), (3, .int x5), (4, .int x6), (6, .int x20)]) C.1.1 C.1.2.1 dX10_readsOf_93 hl (by decide) rfl (fun ls hl => ?_)
        obtain ⟨x25, ex25, hf⟩ := zLet_el hf
        refine lv_iinc (v := x25) (lv' := [(6, .int x25), (5, .int x24), (0, .ref (bV 0)), (1, .int p1), (2, .int x4), (3, .int x5), (4, .int x6)]) C.1.1 C.1.2.1 dX10_readsOf_95 hl (k := 6) rfl (by rw [ex25]; rfl) (by decide) rfl (fun ls hl => ?_)
        refine lv_goto (tgt := 44) C.1.1 C.1.2.1 dX10_readsOf_98 (by decide) ?_
        exact ihgo21 x24 x25 hf H locs hP hD hS ls (lv_sub hl [2, 3, 4, 5, 6, 1, 0] rfl)
def fX10_writesOf_L7 (mP : Rc) (p1 : Int32) (J45_3 : Int32 → Option (Int32)) (n : Nat) (x4 : Int32) (x5 : Int32) : Option (Int32) := zLp2 (fun (go6 : Int32 → Int32 → Option (Int32)) (x4 : Int32) (x5 : Int32) =>
    zGd (inb p1 12) <|
    if (((8 : Int32) * p1) + (mP 5 p1.toNatClampNeg)) ≤ x5 then (
      J45_3 x4
    ) else (
      zGd (inb x5 96) <|
      zLet (x4 ||| ((1 : Int32) <<< ((mP 8 x5.toNatClampNeg) &&& 31))) fun x7 =>
      zLet (x5 + 1) fun x8 =>
      go6 x7 x8
    )
  ) n x4 x5
def fX10_writesOf (NN : Nat) (mP : Rc) (p1 : Int32) : Option (Int32) :=
  zLet ((8 : Int32) * p1) fun x1 =>
  zJn (fun (x2 : Int32) =>
      some x2
    ) fun J45_3 =>
  fX10_writesOf_L7 mP p1 J45_3 NN (0 : Int32) x1
abbrev rX10_writesOf : Room := { frames := 0, cells := 0, slots := 0, locals := 0 }
set_option maxHeartbeats 4000000 in
set_option maxRecDepth 100000 in
theorem mtX10_writesOf (l : Launch) (dC : Nat → ClassId) (dI : Nat → Nat → Nat) (cI cB : ClassId) (bV bP bS bW bN bO : Nat → Nat) (sz : Nat) (NN : Nat) (mZ : Rc) (mY : Rc) (mB : Rc) (mL : Rc) (mU : Rc) (mJ : Rc) (mK : Rc) (mG : Rc) (mA : Rc) (mP : Rc) (p1 : Int32) {ov : Int32} (hf : fX10_writesOf NN mP p1 = some ov) : zMi l yX10_writesOf (Cond.code yX10_writesOf cX10_writesOf 4 (some .int) :: lw_g) rX10_writesOf (dC, dI) [(cI, .int), (cB, .byte)] [.ref (bV 0), .int p1] sz (kX10 cI cB bV (bP 0) (bS 0) (bW 0) (bN 0) (bO 0) mZ mY mB mL mU mJ mK mG mA ++ kX8 cI cB bP mP) ov (kX10 cI cB bV (bP 0) (bS 0) (bW 0) (bN 0) (bO 0) mZ mY mB mL mU mJ mK mG mA ++ kX8 cI cB bP mP) := by
  refine zSt (cc := cX10_writesOf) (maxL := 4) (ret := (some .int)) (own := RX10) (fun A => zQi (dC, dI) [(cI, .int), (cB, .byte)] A ov (kX10 cI cB bV (bP 0) (bS 0) (bW 0) (bN 0) (bO 0) mZ mY mB mL mU mJ mK mG mA ++ kX8 cI cB bP mP)) (by decide) rfl rfl (Nat.le_of_ble_eq_true rfl) ?_
  intro p e s m below meth c ls A H locs C hK hA hP hD hS hl
  generalize hQ : MQ below (zQi (dC, dI) [(cI, .int), (cB, .byte)] A ov (kX10 cI cB bV (bP 0) (bS 0) (bW 0) (bN 0) (bO 0) mZ mY mB mL mU mJ mK mG mA ++ kX8 cI cB bP mP)) _ s 0 0 A = QQ
  generalize ([.ref (bV 0), .int p1] : List Value).toArray = args at C hQ ⊢
  have hl : lv_has ls 4 [(0, .ref (bV 0)), (1, .int p1)] := hl
  unfold fX10_writesOf at hf
  refine lv_iconst (v := 0) C.1.1 C.1.2.1 dX10_writesOf_0 (by decide) ?_
  refine lv_istore_n (lv' := [(2, .int (0 : Int32)), (0, .ref (bV 0)), (1, .int p1)]) C.1.1 C.1.2.1 dX10_writesOf_1 rfl hl (by decide) rfl (fun ls hl => ?_)
  refine lv_bipush (v := 8) C.1.1 C.1.2.1 dX10_writesOf_2 (by decide) ?_
  refine lv_iload_n C.1.1 C.1.2.1 dX10_writesOf_4 rfl (lv_at hl 2 rfl) ?_
  refine lv_imul C.1.1 C.1.2.1 dX10_writesOf_5 ?_
  refine lv_topi (fun x1 ex1 => ?_)
  replace hf := zLet_at hf ex1
  refine lv_istore_n (lv' := [(3, .int x1), (2, .int (0 : Int32)), (0, .ref (bV 0)), (1, .int p1)]) C.1.1 C.1.2.1 dX10_writesOf_6 rfl hl (by decide) rfl (fun ls hl => ?_)
  obtain ⟨J45_3, eJ45_3, hf⟩ := zJn_el hf
  have hJ45_3 : ∀ (x2 : Int32), J45_3 x2 = some ov → ∀ (H : Heap) (locs : List Loc), va_P (dC, dI) vwCl (kX10 cI cB bV (bP 0) (bS 0) (bW 0) (bN 0) (bO 0) mZ mY mB mL mU mJ mK mG mA ++ kX8 cI cB bP mP) H → va_D A (kX10 cI cB bV (bP 0) (bS 0) (bW 0) (bN 0) (bO 0) mZ mY mB mL mU mJ mK mG mA ++ kX8 cI cB bP mP) → va_S A s.heap H locs → ∀ (ls : Array Slot), lv_has ls 4 [(2, .int x2)] → W p l e rX10_writesOf s m args below meth c H locs 0 0 QQ (F0 m 45 ls []) := by
    intro x2 hf H locs hP hD hS ls hl
    rw [eJ45_3] at hf
    refine lv_iload_n C.1.1 C.1.2.1 dX10_writesOf_45 rfl (lv_at hl 0 rfl) ?_
    cases hf
    rw [← hQ]
    exact zRi C hK hP hD hS dX10_writesOf_46
  refine zLp2_ind (o := ov) (P := fun (x4 : Int32) (x5 : Int32) => ∀ (H : Heap) (locs : List Loc), va_P (dC, dI) vwCl (kX10 cI cB bV (bP 0) (bS 0) (bW 0) (bN 0) (bO 0) mZ mY mB mL mU mJ mK mG mA ++ kX8 cI cB bP mP) H → va_D A (kX10 cI cB bV (bP 0) (bS 0) (bW 0) (bN 0) (bO 0) mZ mY mB mL mU mJ mK mG mA ++ kX8 cI cB bP mP) → va_S A s.heap H locs → ∀ (ls : Array Slot), lv_has ls 4 [(0, .ref (bV 0)), (1, .int p1), (2, .int x4), (3, .int x5)] → W p l e rX10_writesOf s m args below meth c H locs 0 0 QQ (F0 m 7 ls [])) (fun go6 ihgo6 x4 x5 hf H locs hP hD hS ls hl => ?_) _ (0 : Int32) x1 hf H locs hP hD hS ls (lv_sub hl [2, 3, 1, 0] rfl)
  refine lv_iload_n C.1.1 C.1.2.1 dX10_writesOf_7 rfl (lv_at hl 3 rfl) ?_
  refine lv_bipush (v := 8) C.1.1 C.1.2.1 dX10_writesOf_8 (by decide) ?_
  refine lv_iload_n C.1.1 C.1.2.1 dX10_writesOf_10 rfl (lv_at hl 1 rfl) ?_
  refine lv_imul C.1.1 C.1.2.1 dX10_writesOf_11 ?_
  refine lv_aload_n C.1.1 C.1.2.1 dX10_writesOf_12 rfl (lv_at hl 0 rfl) ?_
  refine zGet (.ref (bP 0)) C.1 wuX10 hK hP 0 rfl rfl 7 (by decide) wfX10_25 rfl rfl dX10_writesOf_13 ?_
  refine zGetN (.ref (bP 3)) C.1 wuX8 hK hP 14 rfl rfl 5 (by decide) nfX10_174 rfl rfl dX10_writesOf_16 ?_
  refine lv_iload_n C.1.1 C.1.2.1 dX10_writesOf_19 rfl (lv_at hl 1 rfl) ?_
  obtain ⟨hib, hf⟩ := zGd_el hf
  refine va_iald C.1.1 C.1.2.1 hK.1 hP 17 0 rfl rfl hib dX10_writesOf_20 ?_
  refine lv_iadd C.1.1 C.1.2.1 dX10_writesOf_21 ?_
  refine lv_icmp_ge (tgt := 45) C.1.1 C.1.2.1 dX10_writesOf_22 (by decide) (fun hc => ?_) (fun hc => ?_)
  · replace hf := zIf_t hf hc
    exact hJ45_3 x4 hf H locs hP hD hS ls (lv_sub hl [2] rfl)
  · replace hf := zIf_f hf hc
    refine lv_iload_n C.1.1 C.1.2.1 dX10_writesOf_25 rfl (lv_at hl 2 rfl) ?_
    refine lv_iconst (v := 1) C.1.1 C.1.2.1 dX10_writesOf_26 (by decide) ?_
    refine lv_aload_n C.1.1 C.1.2.1 dX10_writesOf_27 rfl (lv_at hl 0 rfl) ?_
    refine zGet (.ref (bP 0)) C.1 wuX10 hK hP 0 rfl rfl 7 (by decide) wfX10_25 rfl rfl dX10_writesOf_28 ?_
    refine zGetN (.ref (bP 6)) C.1 wuX8 hK hP 14 rfl rfl 8 (by decide) nfX10_198 rfl rfl dX10_writesOf_31 ?_
    refine lv_iload_n C.1.1 C.1.2.1 dX10_writesOf_34 rfl (lv_at hl 3 rfl) ?_
    obtain ⟨hib, hf⟩ := zGd_el hf
    refine va_iald C.1.1 C.1.2.1 hK.1 hP 20 0 rfl rfl hib dX10_writesOf_35 ?_
    refine lv_ishl C.1.1 C.1.2.1 dX10_writesOf_36 ?_
    refine lv_ior C.1.1 C.1.2.1 dX10_writesOf_37 ?_
    refine lv_topi (fun x7 ex7 => ?_)
    replace hf := zLet_at hf ex7
    refine lv_istore_n (lv' := [(2, .int x7), (0, .ref (bV 0)), (1, .int p1), (3, .int x5)]) C.1.1 C.1.2.1 dX10_writesOf_38 rfl hl (by decide) rfl (fun ls hl => ?_)
    obtain ⟨x8, ex8, hf⟩ := zLet_el hf
    refine lv_iinc (v := x8) (lv' := [(3, .int x8), (2, .int x7), (0, .ref (bV 0)), (1, .int p1)]) C.1.1 C.1.2.1 dX10_writesOf_39 hl (k := 3) rfl (by rw [ex8]; rfl) (by decide) rfl (fun ls hl => ?_)
    refine lv_goto (tgt := 7) C.1.1 C.1.2.1 dX10_writesOf_42 (by decide) ?_
    exact ihgo6 x7 x8 hf H locs hP hD hS ls (lv_sub hl [2, 3, 1, 0] rfl)
def fX10_block (NN : Nat) (mZ : Rc) (mY : Rc) (mU : Rc) (mP : Rc) (p1 : Int32) (p2 : Int32) : Option (Int32 × Rc × Rc) :=
  zLet (rs mZ 0 (fun _ => (0 : Int32))) fun mZ_1 =>
  zB1 (fX10_isBlock mY mP p1) fun v2 =>
  if v2 = 0 then (
    some ((-1 : Int32), mZ_1, mU)
  ) else (
    if p2 = 0 then (
      zGd (inb p1 12) <|
      some ((mP 4 p1.toNatClampNeg), mZ_1, mU)
    ) else (
      if p2 = 1 then (
        zGd (inb p1 12) <|
        some ((mP 5 p1.toNatClampNeg), mZ_1, mU)
      ) else (
        if p2 = 2 then (
          zB1 (fX10_opsOf NN mP p1) fun v6 =>
          some (v6, mZ_1, mU)
        ) else (
          if p2 = 3 then (
            zB1 (fX10_codeTicks NN mY mP p1) fun v8 =>
            some (v8, mZ_1, mU)
          ) else (
            if p2 = 4 then (
              zB1 (fX10_gatesFor NN mY mP p1) fun v10 =>
              some (v10, mZ_1, mU)
            ) else (
              if p2 = 5 then (
                zB2 (fX10_depthFor NN mY mU mP p1) fun v12 mU_13 =>
                some (v12, mZ_1, mU_13)
              ) else (
                if p2 = 6 then (
                  zB2 (fX10_circuitTicks NN mY mU mP p1) fun v15 mU_16 =>
                  some (v15, mZ_1, mU_16)
                ) else (
                  if p2 = 7 then (
                    zB1 (fX10_readsOf NN mP p1) fun v18 =>
                    some (v18, mZ_1, mU)
                  ) else (
                    if p2 = 8 then (
                      zB1 (fX10_writesOf NN mP p1) fun v20 =>
                      some (v20, mZ_1, mU)
                    ) else (
                      some ((-1 : Int32), mZ_1, mU)
                    )
                  )
                )
              )
            )
          )
        )
      )
    )
  )
abbrev rX10_block : Room := { frames := 4, cells := 0, slots := 0, locals := 100 }
set_option maxHeartbeats 4000000 in
set_option maxRecDepth 100000 in
theorem mtX10_block (l : Launch) (dC : Nat → ClassId) (dI : Nat → Nat → Nat) (cI cB : ClassId) (bV bP bS bW bN bO : Nat → Nat) (sz : Nat) (NN : Nat) (mZ : Rc) (mY : Rc) (mB : Rc) (mL : Rc) (mU : Rc) (mJ : Rc) (mK : Rc) (mG : Rc) (mA : Rc) (mP : Rc) (p1 : Int32) (p2 : Int32) {ov : Int32} {mZ' : Rc} {mU' : Rc} (hf : fX10_block NN mZ mY mU mP p1 p2 = some (ov, mZ', mU')) : zMi l yX10_block (Cond.code yX10_block cX10_block 3 (some .int) :: lw_g) rX10_block (dC, dI) [(cI, .int), (cB, .byte)] [.ref (bV 0), .int p1, .int p2] sz (kX10 cI cB bV (bP 0) (bS 0) (bW 0) (bN 0) (bO 0) mZ mY mB mL mU mJ mK mG mA ++ kX8 cI cB bP mP) ov (kX10 cI cB bV (bP 0) (bS 0) (bW 0) (bN 0) (bO 0) mZ' mY mB mL mU' mJ mK mG mA ++ kX8 cI cB bP mP) := by
  refine zSt (cc := cX10_block) (maxL := 3) (ret := (some .int)) (own := RX10) (fun A => zQi (dC, dI) [(cI, .int), (cB, .byte)] A ov (kX10 cI cB bV (bP 0) (bS 0) (bW 0) (bN 0) (bO 0) mZ' mY mB mL mU' mJ mK mG mA ++ kX8 cI cB bP mP)) (by decide) rfl rfl (Nat.le_of_ble_eq_true rfl) ?_
  intro p e s m below meth c ls A H locs C hK hA hP hD hS hl
  generalize hQ : MQ below (zQi (dC, dI) [(cI, .int), (cB, .byte)] A ov (kX10 cI cB bV (bP 0) (bS 0) (bW 0) (bN 0) (bO 0) mZ' mY mB mL mU' mJ mK mG mA ++ kX8 cI cB bP mP)) _ s 0 0 A = QQ
  generalize ([.ref (bV 0), .int p1, .int p2] : List Value).toArray = args at C hQ ⊢
  have hl : lv_has ls 3 [(0, .ref (bV 0)), (1, .int p1), (2, .int p2)] := hl
  unfold fX10_block at hf
  refine lv_aload_n C.1.1 C.1.2.1 dX10_block_0 rfl (lv_at hl 0 rfl) ?_
  refine lv_iconst (v := 0) C.1.1 C.1.2.1 dX10_block_1 (by decide) ?_
  obtain ⟨mZ_1, emZ_1, hf⟩ := zLet_el hf
  refine zPut (ty := .int) (kX10 cI cB bV (bP 0) (bS 0) (bW 0) (bN 0) (bO 0) mZ_1 mY mB mL mU mJ mK mG mA ++ kX8 cI cB bP mP) C.1 wuX10 tyX10 tyX10_ok nmX10 hK hP hD hS 0 rfl rfl 0 (by decide) wfX10_86 rfl rfl (by decide +kernel) rfl rfl (Nat.le_of_ble_eq_true rfl) dX10_block_2 (by rw [emZ_1]; rfl) (fun H locs hP hD hS => ?_)
  refine lv_aload_n C.1.1 C.1.2.1 dX10_block_5 rfl (lv_at hl 0 rfl) ?_
  refine lv_iload_n C.1.1 C.1.2.1 dX10_block_6 rfl (lv_at hl 1 rfl) ?_
  obtain ⟨v2, hg, hf⟩ := zB1_el hf
  refine zCVi (As := [.int p1]) (rest := []) (wr := ([] : va_W)) (wn := (kX10 cI cB bV (bP 0) (bS 0) (bW 0) (bN 0) (bO 0) mZ_1 mY mB mL mU mJ mK mG mA ++ kX8 cI cB bP mP)) C.1 hK hA hP hD hS [0, 1, 2, 3, 4, 5, 6, 7, 8, 9, 10, 11, 12, 13, 14, 15, 16, 17, 18, 19, 20, 21, 22, 23, 24] [] [0, 1, 2, 3, 4, 5, 6, 7, 8, 9, 10, 11, 12, 13, 14, 15, 16, 17, 18, 19, 20, 21, 22, 23, 24] 0 (mtX10_isBlock l dC dI cI cB bV bP bS bW bN bO H.size mZ_1 mY mB mL mU mJ mK mG mA mP p1 hg) (zCwV 1 C.1 wlX10_269 wiX10_isBlock ws_X10_isBlock wnX10 wkX10_isBlock rfl rfl (by decide +kernel) ⟨Nat.le_of_ble_eq_true rfl, Nat.le_of_ble_eq_true rfl⟩) rfl rfl (by decide +kernel) rfl rfl rfl rfl hl.1 (Nat.le_of_ble_eq_true rfl) dX10_block_7 ⟨Nat.zero_le _, Nat.zero_le _⟩ rfl (fun H locs hP hD hS => ?_)
  refine lv_if_ne (tgt := 15) C.1.1 C.1.2.1 dX10_block_10 (by decide) (fun hc => ?_) (fun hc => ?_)
  · replace hf := zIf_f hf hc
    refine lv_iload_n C.1.1 C.1.2.1 dX10_block_15 rfl (lv_at hl 2 rfl) ?_
    rcases Classical.em (p2 = 0) with hk3 | hk3
    · replace hf := zIf_t hf hk3
      refine lv_tableIn (off := 52) (tgt := 68) C.1.1 C.1.2.1 dX10_block_16 (by rw [hk3] <;> decide +kernel) (by rw [hk3] <;> decide +kernel) (by rw [hk3] <;> decide +kernel) (by decide) ?_
      refine lv_aload_n C.1.1 C.1.2.1 dX10_block_68 rfl (lv_at hl 0 rfl) ?_
      refine zGet (.ref (bP 0)) C.1 wuX10 hK hP 0 rfl rfl 7 (by decide) wfX10_25 rfl rfl dX10_block_69 ?_
      refine zGetN (.ref (bP 2)) C.1 wuX8 hK hP 14 rfl rfl 4 (by decide) nfX10_171 rfl rfl dX10_block_72 ?_
      refine lv_iload_n C.1.1 C.1.2.1 dX10_block_75 rfl (lv_at hl 1 rfl) ?_
      obtain ⟨hib, hf⟩ := zGd_el hf
      refine va_iald C.1.1 C.1.2.1 hK.1 hP 16 0 rfl rfl hib dX10_block_76 ?_
      cases hf
      rw [← hQ]
      exact zRi C hK hP hD hS dX10_block_77
    · replace hf := zIf_f hf hk3
      rcases Classical.em (p2 = 1) with hk4 | hk4
      · replace hf := zIf_t hf hk4
        refine lv_tableIn (off := 62) (tgt := 78) C.1.1 C.1.2.1 dX10_block_16 (by rw [hk4] <;> decide +kernel) (by rw [hk4] <;> decide +kernel) (by rw [hk4] <;> decide +kernel) (by decide) ?_
        refine lv_aload_n C.1.1 C.1.2.1 dX10_block_78 rfl (lv_at hl 0 rfl) ?_
        refine zGet (.ref (bP 0)) C.1 wuX10 hK hP 0 rfl rfl 7 (by decide) wfX10_25 rfl rfl dX10_block_79 ?_
        refine zGetN (.ref (bP 3)) C.1 wuX8 hK hP 14 rfl rfl 5 (by decide) nfX10_174 rfl rfl dX10_block_82 ?_
        refine lv_iload_n C.1.1 C.1.2.1 dX10_block_85 rfl (lv_at hl 1 rfl) ?_
        obtain ⟨hib, hf⟩ := zGd_el hf
        refine va_iald C.1.1 C.1.2.1 hK.1 hP 17 0 rfl rfl hib dX10_block_86 ?_
        cases hf
        rw [← hQ]
        exact zRi C hK hP hD hS dX10_block_87
      · replace hf := zIf_f hf hk4
        rcases Classical.em (p2 = 2) with hk5 | hk5
        · replace hf := zIf_t hf hk5
          refine lv_tableIn (off := 72) (tgt := 88) C.1.1 C.1.2.1 dX10_block_16 (by rw [hk5] <;> decide +kernel) (by rw [hk5] <;> decide +kernel) (by rw [hk5] <;> decide +kernel) (by decide) ?_
          refine lv_aload_n C.1.1 C.1.2.1 dX10_block_88 rfl (lv_at hl 0 rfl) ?_
          refine lv_iload_n C.1.1 C.1.2.1 dX10_block_89 rfl (lv_at hl 1 rfl) ?_
          obtain ⟨v6, hg, hf⟩ := zB1_el hf
          refine zCVi (As := [.int p1]) (rest := []) (wr := ([] : va_W)) (wn := (kX10 cI cB bV (bP 0) (bS 0) (bW 0) (bN 0) (bO 0) mZ_1 mY mB mL mU mJ mK mG mA ++ kX8 cI cB bP mP)) C.1 hK hA hP hD hS [0, 1, 2, 3, 4, 5, 6, 7, 8, 9, 10, 11, 12, 13, 14, 15, 16, 17, 18, 19, 20, 21, 22, 23, 24] [] [0, 1, 2, 3, 4, 5, 6, 7, 8, 9, 10, 11, 12, 13, 14, 15, 16, 17, 18, 19, 20, 21, 22, 23, 24] 0 (mtX10_opsOf l dC dI cI cB bV bP bS bW bN bO H.size NN mZ_1 mY mB mL mU mJ mK mG mA mP p1 hg) (zCwV 1 C.1 wlX10_272 wiX10_opsOf ws_X10_opsOf wnX10 wkX10_opsOf rfl rfl (by decide +kernel) ⟨Nat.le_of_ble_eq_true rfl, Nat.le_of_ble_eq_true rfl⟩) rfl rfl (by decide +kernel) rfl rfl rfl rfl hl.1 (Nat.le_of_ble_eq_true rfl) dX10_block_90 ⟨Nat.zero_le _, Nat.zero_le _⟩ rfl (fun H locs hP hD hS => ?_)
          cases hf
          rw [← hQ]
          exact zRi C hK hP hD hS dX10_block_93
        · replace hf := zIf_f hf hk5
          rcases Classical.em (p2 = 3) with hk7 | hk7
          · replace hf := zIf_t hf hk7
            refine lv_tableIn (off := 78) (tgt := 94) C.1.1 C.1.2.1 dX10_block_16 (by rw [hk7] <;> decide +kernel) (by rw [hk7] <;> decide +kernel) (by rw [hk7] <;> decide +kernel) (by decide) ?_
            refine lv_aload_n C.1.1 C.1.2.1 dX10_block_94 rfl (lv_at hl 0 rfl) ?_
            refine lv_iload_n C.1.1 C.1.2.1 dX10_block_95 rfl (lv_at hl 1 rfl) ?_
            obtain ⟨v8, hg, hf⟩ := zB1_el hf
            refine zCVi (As := [.int p1]) (rest := []) (wr := ([] : va_W)) (wn := (kX10 cI cB bV (bP 0) (bS 0) (bW 0) (bN 0) (bO 0) mZ_1 mY mB mL mU mJ mK mG mA ++ kX8 cI cB bP mP)) C.1 hK hA hP hD hS [0, 1, 2, 3, 4, 5, 6, 7, 8, 9, 10, 11, 12, 13, 14, 15, 16, 17, 18, 19, 20, 21, 22, 23, 24] [] [0, 1, 2, 3, 4, 5, 6, 7, 8, 9, 10, 11, 12, 13, 14, 15, 16, 17, 18, 19, 20, 21, 22, 23, 24] 0 (mtX10_codeTicks l dC dI cI cB bV bP bS bW bN bO H.size NN mZ_1 mY mB mL mU mJ mK mG mA mP p1 hg) (zCwV 1 C.1 wlX10_275 wiX10_codeTicks ws_X10_codeTicks wnX10 wkX10_codeTicks rfl rfl (by decide +kernel) ⟨Nat.le_of_ble_eq_true rfl, Nat.le_of_ble_eq_true rfl⟩) rfl rfl (by decide +kernel) rfl rfl rfl rfl hl.1 (Nat.le_of_ble_eq_true rfl) dX10_block_96 ⟨Nat.zero_le _, Nat.zero_le _⟩ rfl (fun H locs hP hD hS => ?_)
            cases hf
            rw [← hQ]
            exact zRi C hK hP hD hS dX10_block_99
          · replace hf := zIf_f hf hk7
            rcases Classical.em (p2 = 4) with hk9 | hk9
            · replace hf := zIf_t hf hk9
              refine lv_tableIn (off := 84) (tgt := 100) C.1.1 C.1.2.1 dX10_block_16 (by rw [hk9] <;> decide +kernel) (by rw [hk9] <;> decide +kernel) (by rw [hk9] <;> decide +kernel) (by decide) ?_
              refine lv_aload_n C.1.1 C.1.2.1 dX10_block_100 rfl (lv_at hl 0 rfl) ?_
              refine lv_iload_n C.1.1 C.1.2.1 dX10_block_101 rfl (lv_at hl 1 rfl) ?_
              obtain ⟨v10, hg, hf⟩ := zB1_el hf
              refine zCVi (As := [.int p1]) (rest := []) (wr := ([] : va_W)) (wn := (kX10 cI cB bV (bP 0) (bS 0) (bW 0) (bN 0) (bO 0) mZ_1 mY mB mL mU mJ mK mG mA ++ kX8 cI cB bP mP)) C.1 hK hA hP hD hS [0, 1, 2, 3, 4, 5, 6, 7, 8, 9, 10, 11, 12, 13, 14, 15, 16, 17, 18, 19, 20, 21, 22, 23, 24] [] [0, 1, 2, 3, 4, 5, 6, 7, 8, 9, 10, 11, 12, 13, 14, 15, 16, 17, 18, 19, 20, 21, 22, 23, 24] 0 (mtX10_gatesFor l dC dI cI cB bV bP bS bW bN bO H.size NN mZ_1 mY mB mL mU mJ mK mG mA mP p1 hg) (zCwV 1 C.1 wlX10_278 wiX10_gatesFor ws_X10_gatesFor wnX10 wkX10_gatesFor rfl rfl (by decide +kernel) ⟨Nat.le_of_ble_eq_true rfl, Nat.le_of_ble_eq_true rfl⟩) rfl rfl (by decide +kernel) rfl rfl rfl rfl hl.1 (Nat.le_of_ble_eq_true rfl) dX10_block_102 ⟨Nat.zero_le _, Nat.zero_le _⟩ rfl (fun H locs hP hD hS => ?_)
              cases hf
              rw [← hQ]
              exact zRi C hK hP hD hS dX10_block_105
            · replace hf := zIf_f hf hk9
              rcases Classical.em (p2 = 5) with hk11 | hk11
              · replace hf := zIf_t hf hk11
                refine lv_tableIn (off := 90) (tgt := 106) C.1.1 C.1.2.1 dX10_block_16 (by rw [hk11] <;> decide +kernel) (by rw [hk11] <;> decide +kernel) (by rw [hk11] <;> decide +kernel) (by decide) ?_
                refine lv_aload_n C.1.1 C.1.2.1 dX10_block_106 rfl (lv_at hl 0 rfl) ?_
                refine lv_iload_n C.1.1 C.1.2.1 dX10_block_107 rfl (lv_at hl 1 rfl) ?_
                obtain ⟨v12, mU_13, hg, hf⟩ := zB2_el hf
                refine zCVi (As := [.int p1]) (rest := []) (wr := ([] : va_W)) (wn := (kX10 cI cB bV (bP 0) (bS 0) (bW 0) (bN 0) (bO 0) mZ_1 mY mB mL mU_13 mJ mK mG mA ++ kX8 cI cB bP mP)) C.1 hK hA hP hD hS [0, 1, 2, 3, 4, 5, 6, 7, 8, 9, 10, 11, 12, 13, 14, 15, 16, 17, 18, 19, 20, 21, 22, 23, 24] [] [0, 1, 2, 3, 4, 5, 6, 7, 8, 9, 10, 11, 12, 13, 14, 15, 16, 17, 18, 19, 20, 21, 22, 23, 24] 0 (mtX10_depthFor l dC dI cI cB bV bP bS bW bN bO H.size NN mZ_1 mY mB mL mU mJ mK mG mA mP p1 hg) (zCwV 1 C.1 wlX10_266 wiX10_depthFor ws_X10_depthFor wnX10 wkX10_depthFor rfl rfl (by decide +kernel) ⟨Nat.le_of_ble_eq_true rfl, Nat.le_of_ble_eq_true rfl⟩) rfl rfl (by decide +kernel) rfl rfl rfl rfl hl.1 (Nat.le_of_ble_eq_true rfl) dX10_block_108 ⟨Nat.zero_le _, Nat.zero_le _⟩ rfl (fun H locs hP hD hS => ?_)
                cases hf
                rw [← hQ]
                exact zRi C hK hP hD hS dX10_block_111
              · replace hf := zIf_f hf hk11
                rcases Classical.em (p2 = 6) with hk14 | hk14
                · replace hf := zIf_t hf hk14
                  refine lv_tableIn (off := 96) (tgt := 112) C.1.1 C.1.2.1 dX10_block_16 (by rw [hk14] <;> decide +kernel) (by rw [hk14] <;> decide +kernel) (by rw [hk14] <;> decide +kernel) (by decide) ?_
                  refine lv_aload_n C.1.1 C.1.2.1 dX10_block_112 rfl (lv_at hl 0 rfl) ?_
                  refine lv_iload_n C.1.1 C.1.2.1 dX10_block_113 rfl (lv_at hl 1 rfl) ?_
                  obtain ⟨v15, mU_16, hg, hf⟩ := zB2_el hf
                  refine zCVi (As := [.int p1]) (rest := []) (wr := ([] : va_W)) (wn := (kX10 cI cB bV (bP 0) (bS 0) (bW 0) (bN 0) (bO 0) mZ_1 mY mB mL mU_16 mJ mK mG mA ++ kX8 cI cB bP mP)) C.1 hK hA hP hD hS [0, 1, 2, 3, 4, 5, 6, 7, 8, 9, 10, 11, 12, 13, 14, 15, 16, 17, 18, 19, 20, 21, 22, 23, 24] [] [0, 1, 2, 3, 4, 5, 6, 7, 8, 9, 10, 11, 12, 13, 14, 15, 16, 17, 18, 19, 20, 21, 22, 23, 24] 0 (mtX10_circuitTicks l dC dI cI cB bV bP bS bW bN bO H.size NN mZ_1 mY mB mL mU mJ mK mG mA mP p1 hg) (zCwV 1 C.1 wlX10_281 wiX10_circuitTicks ws_X10_circuitTicks wnX10 wkX10_circuitTicks rfl rfl (by decide +kernel) ⟨Nat.le_of_ble_eq_true rfl, Nat.le_of_ble_eq_true rfl⟩) rfl rfl (by decide +kernel) rfl rfl rfl rfl hl.1 (Nat.le_of_ble_eq_true rfl) dX10_block_114 ⟨Nat.zero_le _, Nat.zero_le _⟩ rfl (fun H locs hP hD hS => ?_)
                  cases hf
                  rw [← hQ]
                  exact zRi C hK hP hD hS dX10_block_117
                · replace hf := zIf_f hf hk14
                  rcases Classical.em (p2 = 7) with hk17 | hk17
                  · replace hf := zIf_t hf hk17
                    refine lv_tableIn (off := 102) (tgt := 118) C.1.1 C.1.2.1 dX10_block_16 (by rw [hk17] <;> decide +kernel) (by rw [hk17] <;> decide +kernel) (by rw [hk17] <;> decide +kernel) (by decide) ?_
                    refine lv_aload_n C.1.1 C.1.2.1 dX10_block_118 rfl (lv_at hl 0 rfl) ?_
                    refine lv_iload_n C.1.1 C.1.2.1 dX10_block_119 rfl (lv_at hl 1 rfl) ?_
                    obtain ⟨v18, hg, hf⟩ := zB1_el hf
                    refine zCVi (As := [.int p1]) (rest := []) (wr := ([] : va_W)) (wn := (kX10 cI cB bV (bP 0) (bS 0) (bW 0) (bN 0) (bO 0) mZ_1 mY mB mL mU mJ mK mG mA ++ kX8 cI cB bP mP)) C.1 hK hA hP hD hS [0, 1, 2, 3, 4, 5, 6, 7, 8, 9, 10, 11, 12, 13, 14, 15, 16, 17, 18, 19, 20, 21, 22, 23, 24] [] [0, 1, 2, 3, 4, 5, 6, 7, 8, 9, 10, 11, 12, 13, 14, 15, 16, 17, 18, 19, 20, 21, 22, 23, 24] 0 (mtX10_readsOf l dC dI cI cB bV bP bS bW bN bO H.size NN mZ_1 mY mB mL mU mJ mK mG mA mP p1 hg) (zCwV 1 C.1 wlX10_284 wiX10_readsOf ws_X10_readsOf wnX10 wkX10_readsOf rfl rfl (by decide +kernel) ⟨Nat.le_of_ble_eq_true rfl, Nat.le_of_ble_eq_true rfl⟩) rfl rfl (by decide +kernel) rfl rfl rfl rfl hl.1 (Nat.le_of_ble_eq_true rfl) dX10_block_120 ⟨Nat.zero_le _, Nat.zero_le _⟩ rfl (fun H locs hP hD hS => ?_)
                    cases hf
                    rw [← hQ]
                    exact zRi C hK hP hD hS dX10_block_123
                  · replace hf := zIf_f hf hk17
                    rcases Classical.em (p2 = 8) with hk19 | hk19
                    · replace hf := zIf_t hf hk19
                      refine lv_tableIn (off := 108) (tgt := 124) C.1.1 C.1.2.1 dX10_block_16 (by rw [hk19] <;> decide +kernel) (by rw [hk19] <;> decide +kernel) (by rw [hk19] <;> decide +kernel) (by decide) ?_
                      refine lv_aload_n C.1.1 C.1.2.1 dX10_block_124 rfl (lv_at hl 0 rfl) ?_
                      refine lv_iload_n C.1.1 C.1.2.1 dX10_block_125 rfl (lv_at hl 1 rfl) ?_
                      obtain ⟨v20, hg, hf⟩ := zB1_el hf
                      refine zCVi (As := [.int p1]) (rest := []) (wr := ([] : va_W)) (wn := (kX10 cI cB bV (bP 0) (bS 0) (bW 0) (bN 0) (bO 0) mZ_1 mY mB mL mU mJ mK mG mA ++ kX8 cI cB bP mP)) C.1 hK hA hP hD hS [0, 1, 2, 3, 4, 5, 6, 7, 8, 9, 10, 11, 12, 13, 14, 15, 16, 17, 18, 19, 20, 21, 22, 23, 24] [] [0, 1, 2, 3, 4, 5, 6, 7, 8, 9, 10, 11, 12, 13, 14, 15, 16, 17, 18, 19, 20, 21, 22, 23, 24] 0 (mtX10_writesOf l dC dI cI cB bV bP bS bW bN bO H.size NN mZ_1 mY mB mL mU mJ mK mG mA mP p1 hg) (zCwV 1 C.1 wlX10_287 wiX10_writesOf ws_X10_writesOf wnX10 wkX10_writesOf rfl rfl (by decide +kernel) ⟨Nat.le_of_ble_eq_true rfl, Nat.le_of_ble_eq_true rfl⟩) rfl rfl (by decide +kernel) rfl rfl rfl rfl hl.1 (Nat.le_of_ble_eq_true rfl) dX10_block_126 ⟨Nat.zero_le _, Nat.zero_le _⟩ rfl (fun H locs hP hD hS => ?_)
                      cases hf
                      rw [← hQ]
                      exact zRi C hK hP hD hS dX10_block_129
                    · replace hf := zIf_f hf hk19
                      have nhk3 := lv_neT hk3 (a := 0) (by decide)
                      have nhk4 := lv_neT hk4 (a := 1) (by decide)
                      have nhk5 := lv_neT hk5 (a := 2) (by decide)
                      have nhk7 := lv_neT hk7 (a := 3) (by decide)
                      have nhk9 := lv_neT hk9 (a := 4) (by decide)
                      have nhk11 := lv_neT hk11 (a := 5) (by decide)
                      have nhk14 := lv_neT hk14 (a := 6) (by decide)
                      have nhk17 := lv_neT hk17 (a := 7) (by decide)
                      have nhk19 := lv_neT hk19 (a := 8) (by decide)
                      refine lv_tableOut (tgt := 130) C.1.1 C.1.2.1 dX10_block_16 (by omega) (by decide) ?_
                      refine lv_iconst (v := (-1)) C.1.1 C.1.2.1 dX10_block_130 (by decide) ?_
                      cases hf
                      rw [← hQ]
                      exact zRi C hK hP hD hS dX10_block_131
  · replace hf := zIf_t hf hc
    refine lv_iconst (v := (-1)) C.1.1 C.1.2.1 dX10_block_13 (by decide) ?_
    cases hf
    rw [← hQ]
    exact zRi C hK hP hD hS dX10_block_14
