def fX10_worked_L13 (mY : Rc) (mP : Rc) (mR : Ar) (p1 : Int32) (J267_3 : Rc → Option (Int32 × Rc)) (n : Nat) (x4 : Int32) (x5 : Int32) (mU_6 : Rc) : Option (Int32 × Rc) := zLp3 (fun (go7 : Int32 → Int32 → Rc → Option (Int32 × Rc)) (x4 : Int32) (x5 : Int32) (mU_6 : Rc) =>
    zGd (inb p1 96) <|
    if (mP 10 p1.toNatClampNeg) ≤ x5 then (
      J267_3 mU_6
    ) else (
      zGd (inb x5 700) <|
      zLet (mP 11 x5.toNatClampNeg) fun x8 =>
      zJn (fun (_ : Unit) =>
          zJn (fun (t10 : Int32) =>
              zGd (inb x4 700) <|
              zLet (rs mU_6 23 (upd (mU_6 23) x4.toNatClampNeg t10)) fun mU_12 =>
              zLet (x4 + 1) fun x13 =>
              zLet (x5 + 1) fun x14 =>
              go7 x13 x14 mU_12
            ) fun J94_11 =>
          if x8 = (9 : Int32) then (
            zGd (inb x5 700) <|
            zGd (inb (mP 12 x5.toNatClampNeg) 8) <|
            J94_11 (mR (mP 12 x5.toNatClampNeg).toNatClampNeg)
          ) else (
            zGd (inb x5 700) <|
            zB1 (fX10_low mY (mP 12 x5.toNatClampNeg)) fun v15 =>
            J94_11 v15
          )
        ) fun J53_9 =>
      if x8 = (9 : Int32) then (
        J53_9 ()
      ) else (
        if x8 = (10 : Int32) then (
          J53_9 ()
        ) else (
          if x8 = (7 : Int32) then (
            zGd (inb (x4 - (1 : Int32)) 700) <|
            zB1 (fX10_low mY ((mU_6 23 (x4 - (1 : Int32)).toNatClampNeg) ^^^ (-1 : Int32))) fun v24 =>
            zGd (inb (x4 - (1 : Int32)) 700) <|
            zLet (rs mU_6 23 (upd (mU_6 23) (x4 - (1 : Int32)).toNatClampNeg v24)) fun mU_25 =>
            zLet (x5 + 1) fun x26 =>
            go7 x4 x26 mU_25
          ) else (
            zLet (x4 + (-1)) fun x16 =>
            zGd (inb (x16 - (1 : Int32)) 700) <|
            zLet (mU_6 23 (x16 - (1 : Int32)).toNatClampNeg) fun x17 =>
            zGd (inb x16 700) <|
            zLet (mU_6 23 x16.toNatClampNeg) fun x18 =>
            zJn (fun (t19 : Int32) =>
                zB1 (fX10_low mY t19) fun v21 =>
                zGd (inb (x16 - (1 : Int32)) 700) <|
                zLet (rs mU_6 23 (upd (mU_6 23) (x16 - (1 : Int32)).toNatClampNeg v21)) fun mU_22 =>
                zLet (x5 + 1) fun x23 =>
                go7 x16 x23 mU_22
              ) fun J257_20 =>
            if x8 = 0 then (
              J257_20 (x17 + x18)
            ) else (
              if x8 = (1 : Int32) then (
                J257_20 (x17 - x18)
              ) else (
                if x8 = (2 : Int32) then (
                  J257_20 (x17 * x18)
                ) else (
                  if x8 = (3 : Int32) then (
                    J257_20 (x17 &&& x18)
                  ) else (
                    if x8 = (4 : Int32) then (
                      J257_20 (x17 ||| x18)
                    ) else (
                      if x8 = (5 : Int32) then (
                        J257_20 (x17 ^^^ x18)
                      ) else (
                        if x18 ≤ x17 then (
                          J257_20 (0 : Int32)
                        ) else (
                          J257_20 (1 : Int32)
                        )
                      )
                    )
                  )
                )
              )
            )
          )
        )
      )
    )
  ) n x4 x5 mU_6
def fX10_worked (NN : Nat) (mY : Rc) (mU : Rc) (mP : Rc) (mR : Ar) (p1 : Int32) : Option (Int32 × Rc) :=
  zGd (inb p1 96) <|
  zLet (mP 9 p1.toNatClampNeg) fun x1 =>
  zJn (fun (mU_2 : Rc) =>
      zGd (inb (0 : Int32) 700) <|
      some ((mU_2 23 (0 : Int32).toNatClampNeg), mU_2)
    ) fun J267_3 =>
  fX10_worked_L13 mY mP mR p1 J267_3 NN (0 : Int32) x1 mU
abbrev rX10_worked : Room := { frames := 1, cells := 0, slots := 0, locals := 21 }
set_option maxHeartbeats 4000000 in
set_option maxRecDepth 100000 in
theorem mtX10_worked (l : Launch) (dC : Nat → ClassId) (dI : Nat → Nat → Nat) (cI cB : ClassId) (bV bP bS bW bN bO bR : Nat → Nat) (sz : Nat) (NN : Nat) (mZ : Rc) (mY : Rc) (mB : Rc) (mL : Rc) (mU : Rc) (mJ : Rc) (mK : Rc) (mG : Rc) (mA : Rc) (mP : Rc) (mR : Ar) (p1 : Int32) {ov : Int32} {mU' : Rc} (hf : fX10_worked NN mY mU mP mR p1 = some (ov, mU')) : zMi l yX10_worked (Cond.code yX10_worked cX10_worked 8 (some .int) :: lw_g) rX10_worked (dC, dI) [(cI, .int), (cB, .byte)] [.ref (bV 0), .int p1, .ref (bR 0)] sz (kX10 cI cB bV (bP 0) (bS 0) (bW 0) (bN 0) (bO 0) mZ mY mB mL mU mJ mK mG mA ++ kX8 cI cB bP mP ++ kA8 cI cB bR mR) ov (kX10 cI cB bV (bP 0) (bS 0) (bW 0) (bN 0) (bO 0) mZ mY mB mL mU' mJ mK mG mA ++ kX8 cI cB bP mP ++ kA8 cI cB bR mR) := by
  refine zSt (cc := cX10_worked) (maxL := 8) (ret := (some .int)) (own := RX10) (fun A => zQi (dC, dI) [(cI, .int), (cB, .byte)] A ov (kX10 cI cB bV (bP 0) (bS 0) (bW 0) (bN 0) (bO 0) mZ mY mB mL mU' mJ mK mG mA ++ kX8 cI cB bP mP ++ kA8 cI cB bR mR)) (by decide) rfl rfl (Nat.le_of_ble_eq_true rfl) ?_
  intro p e s m below meth c ls A H locs C hK hA hP hD hS hl
  generalize hQ : MQ below (zQi (dC, dI) [(cI, .int), (cB, .byte)] A ov (kX10 cI cB bV (bP 0) (bS 0) (bW 0) (bN 0) (bO 0) mZ mY mB mL mU' mJ mK mG mA ++ kX8 cI cB bP mP ++ kA8 cI cB bR mR)) _ s 0 0 A = QQ
  generalize ([.ref (bV 0), .int p1, .ref (bR 0)] : List Value).toArray = args at C hQ ⊢
  have hl : lv_has ls 8 [(0, .ref (bV 0)), (1, .int p1), (2, .ref (bR 0))] := hl
  unfold fX10_worked at hf
  refine lv_iconst (v := 0) C.1.1 C.1.2.1 dX10_worked_0 (by decide) ?_
  refine lv_istore_n (lv' := [(3, .int (0 : Int32)), (0, .ref (bV 0)), (1, .int p1), (2, .ref (bR 0))]) C.1.1 C.1.2.1 dX10_worked_1 rfl hl (by decide) rfl (fun ls hl => ?_)
  refine lv_aload_n C.1.1 C.1.2.1 dX10_worked_2 rfl (lv_at hl 1 rfl) ?_
  refine zGet (.ref (bP 0)) C.1 wuX10 hK hP 0 rfl rfl 7 (by decide) wfX10_25 rfl rfl dX10_worked_3 ?_
  refine zGetN (.ref (bP 7)) C.1 wuX8 hK hP 14 rfl rfl 9 (by decide) nfX10_201 rfl rfl dX10_worked_6 ?_
  refine lv_iload_n C.1.1 C.1.2.1 dX10_worked_9 rfl (lv_at hl 2 rfl) ?_
  obtain ⟨hib, hf⟩ := zGd_el hf
  refine va_iald C.1.1 C.1.2.1 hK.1 hP 21 0 rfl rfl hib dX10_worked_10 ?_
  refine lv_topi (fun x1 ex1 => ?_)
  replace hf := zLet_at hf ex1
  refine lv_istore (lv' := [(4, .int x1), (3, .int (0 : Int32)), (0, .ref (bV 0)), (1, .int p1), (2, .ref (bR 0))]) C.1.1 C.1.2.1 dX10_worked_11 hl (by decide) rfl (fun ls hl => ?_)
  obtain ⟨J267_3, eJ267_3, hf⟩ := zJn_el hf
  have hJ267_3 : ∀ (mU_2 : Rc), J267_3 mU_2 = some (ov, mU') → ∀ (H : Heap) (locs : List Loc), va_P (dC, dI) vwCl (kX10 cI cB bV (bP 0) (bS 0) (bW 0) (bN 0) (bO 0) mZ mY mB mL mU_2 mJ mK mG mA ++ kX8 cI cB bP mP ++ kA8 cI cB bR mR) H → va_D A (kX10 cI cB bV (bP 0) (bS 0) (bW 0) (bN 0) (bO 0) mZ mY mB mL mU_2 mJ mK mG mA ++ kX8 cI cB bP mP ++ kA8 cI cB bR mR) → va_S A s.heap H locs → ∀ (ls : Array Slot), lv_has ls 8 [(0, .ref (bV 0))] → W p l e rX10_worked s m args below meth c H locs 0 0 QQ (F0 m 267 ls []) := by
    intro mU_2 hf H locs hP hD hS ls hl
    rw [eJ267_3] at hf
    refine lv_aload_n C.1.1 C.1.2.1 dX10_worked_267 rfl (lv_at hl 0 rfl) ?_
    refine zGet (.ref (bV 2)) C.1 wuX10 hK hP 0 rfl rfl 23 (by decide) wfX10_50 rfl rfl dX10_worked_268 ?_
    refine lv_iconst (v := 0) C.1.1 C.1.2.1 dX10_worked_271 (by decide) ?_
    obtain ⟨hib, hf⟩ := zGd_el hf
    refine va_iald C.1.1 C.1.2.1 hK.1 hP 2 0 rfl rfl hib dX10_worked_272 ?_
    cases hf
    rw [← hQ]
    exact zRi C hK hP hD hS dX10_worked_273
  refine zLp3_ind (o := (ov, mU')) (P := fun (x4 : Int32) (x5 : Int32) (mU_6 : Rc) => ∀ (H : Heap) (locs : List Loc), va_P (dC, dI) vwCl (kX10 cI cB bV (bP 0) (bS 0) (bW 0) (bN 0) (bO 0) mZ mY mB mL mU_6 mJ mK mG mA ++ kX8 cI cB bP mP ++ kA8 cI cB bR mR) H → va_D A (kX10 cI cB bV (bP 0) (bS 0) (bW 0) (bN 0) (bO 0) mZ mY mB mL mU_6 mJ mK mG mA ++ kX8 cI cB bP mP ++ kA8 cI cB bR mR) → va_S A s.heap H locs → ∀ (ls : Array Slot), lv_has ls 8 [(0, .ref (bV 0)), (1, .int p1), (2, .ref (bR 0)), (3, .int x4), (4, .int x5)] → W p l e rX10_worked s m args below meth c H locs 0 0 QQ (F0 m 13 ls [])) (fun go7 ihgo7 x4 x5 mU_6 hf H locs hP hD hS ls hl => ?_) _ (0 : Int32) x1 mU hf H locs hP hD hS ls (lv_sub hl [2, 3, 4, 1, 0] rfl)
  refine lv_iload C.1.1 C.1.2.1 dX10_worked_13 (lv_at hl 4 rfl) ?_
  refine lv_aload_n C.1.1 C.1.2.1 dX10_worked_15 rfl (lv_at hl 0 rfl) ?_
  refine zGet (.ref (bP 0)) C.1 wuX10 hK hP 0 rfl rfl 7 (by decide) wfX10_25 rfl rfl dX10_worked_16 ?_
  refine zGetN (.ref (bP 8)) C.1 wuX8 hK hP 14 rfl rfl 10 (by decide) nfX10_207 rfl rfl dX10_worked_19 ?_
  refine lv_iload_n C.1.1 C.1.2.1 dX10_worked_22 rfl (lv_at hl 1 rfl) ?_
  obtain ⟨hib, hf⟩ := zGd_el hf
  refine va_iald C.1.1 C.1.2.1 hK.1 hP 22 0 rfl rfl hib dX10_worked_23 ?_
  refine lv_icmp_ge (tgt := 267) C.1.1 C.1.2.1 dX10_worked_24 (by decide) (fun hc => ?_) (fun hc => ?_)
  · replace hf := zIf_t hf hc
    exact hJ267_3 mU_6 hf H locs hP hD hS ls (lv_sub hl [0] rfl)
  · replace hf := zIf_f hf hc
    refine lv_aload_n C.1.1 C.1.2.1 dX10_worked_27 rfl (lv_at hl 0 rfl) ?_
    refine zGet (.ref (bP 0)) C.1 wuX10 hK hP 0 rfl rfl 7 (by decide) wfX10_25 rfl rfl dX10_worked_28 ?_
    refine zGetN (.ref (bP 9)) C.1 wuX8 hK hP 14 rfl rfl 11 (by decide) nfX10_245 rfl rfl dX10_worked_31 ?_
    refine lv_iload C.1.1 C.1.2.1 dX10_worked_34 (lv_at hl 4 rfl) ?_
    obtain ⟨hib, hf⟩ := zGd_el hf
    refine va_iald C.1.1 C.1.2.1 hK.1 hP 23 0 rfl rfl hib dX10_worked_36 ?_
    refine lv_topi (fun x8 ex8 => ?_)
    replace hf := zLet_at hf ex8
    refine lv_istore (lv' := [(5, .int x8), (0, .ref (bV 0)), (1, .int p1), (2, .ref (bR 0)), (3, .int x4), (4, .int x5)]) C.1.1 C.1.2.1 dX10_worked_37 hl (by decide) rfl (fun ls hl => ?_)
    refine lv_iload C.1.1 C.1.2.1 dX10_worked_39 (lv_at hl 0 rfl) ?_
    refine lv_bipush (v := 9) C.1.1 C.1.2.1 dX10_worked_41 (by decide) ?_
    obtain ⟨J53_9, eJ53_9, hf⟩ := zJn_el hf
    have hJ53_9 : ∀ (u : Unit), J53_9 u = some (ov, mU') → ∀ (H : Heap) (locs : List Loc), va_P (dC, dI) vwCl (kX10 cI cB bV (bP 0) (bS 0) (bW 0) (bN 0) (bO 0) mZ mY mB mL mU_6 mJ mK mG mA ++ kX8 cI cB bP mP ++ kA8 cI cB bR mR) H → va_D A (kX10 cI cB bV (bP 0) (bS 0) (bW 0) (bN 0) (bO 0) mZ mY mB mL mU_6 mJ mK mG mA ++ kX8 cI cB bP mP ++ kA8 cI cB bR mR) → va_S A s.heap H locs → ∀ (ls : Array Slot), lv_has ls 8 [(0, .ref (bV 0)), (1, .int p1), (2, .ref (bR 0)), (3, .int x4), (4, .int x5), (5, .int x8)] → W p l e rX10_worked s m args below meth c H locs 0 0 QQ (F0 m 53 ls []) := by
      intro u hf H locs hP hD hS ls hl
      rw [eJ53_9] at hf
      refine lv_aload_n C.1.1 C.1.2.1 dX10_worked_53 rfl (lv_at hl 0 rfl) ?_
      refine zGet (.ref (bV 2)) C.1 wuX10 hK hP 0 rfl rfl 23 (by decide) wfX10_50 rfl rfl dX10_worked_54 ?_
      refine lv_iload_n C.1.1 C.1.2.1 dX10_worked_57 rfl (lv_at hl 3 rfl) ?_
      refine lv_iload C.1.1 C.1.2.1 dX10_worked_58 (lv_at hl 5 rfl) ?_
      refine lv_bipush (v := 9) C.1.1 C.1.2.1 dX10_worked_60 (by decide) ?_
      obtain ⟨J94_11, eJ94_11, hf⟩ := zJn_el hf
      have hJ94_11 : ∀ (t10 : Int32), J94_11 t10 = some (ov, mU') → ∀ (H : Heap) (locs : List Loc), va_P (dC, dI) vwCl (kX10 cI cB bV (bP 0) (bS 0) (bW 0) (bN 0) (bO 0) mZ mY mB mL mU_6 mJ mK mG mA ++ kX8 cI cB bP mP ++ kA8 cI cB bR mR) H → va_D A (kX10 cI cB bV (bP 0) (bS 0) (bW 0) (bN 0) (bO 0) mZ mY mB mL mU_6 mJ mK mG mA ++ kX8 cI cB bP mP ++ kA8 cI cB bR mR) → va_S A s.heap H locs → ∀ (ls : Array Slot), lv_has ls 8 [(0, .ref (bV 0)), (1, .int p1), (2, .ref (bR 0)), (3, .int x4), (4, .int x5)] → W p l e rX10_worked s m args below meth c H locs 0 0 QQ (F0 m 94 ls [.int t10, .int x4, .ref (bV 2)]) := by
        intro t10 hf H locs hP hD hS ls hl
        rw [eJ94_11] at hf
        obtain ⟨hib, hf⟩ := zGd_el hf
        obtain ⟨mU_12, emU_12, hf⟩ := zLet_el hf
        refine zIast (kX10 cI cB bV (bP 0) (bS 0) (bW 0) (bN 0) (bO 0) mZ mY mB mL mU_12 mJ mK mG mA ++ kX8 cI cB bP mP ++ kA8 cI cB bR mR) C.1 hK hP hD hS 2 0 rfl rfl hib dX10_worked_94 (by rw [emU_12]; rfl) (fun H locs hP hD hS => ?_)
        obtain ⟨x13, ex13, hf⟩ := zLet_el hf
        refine lv_iinc (v := x13) (lv' := [(3, .int x13), (0, .ref (bV 0)), (1, .int p1), (2, .ref (bR 0)), (4, .int x5)]) C.1.1 C.1.2.1 dX10_worked_95 hl (k := 3) rfl (by rw [ex13]; rfl) (by decide) rfl (fun ls hl => ?_)
        refine lv_goto (tgt := 261) C.1.1 C.1.2.1 dX10_worked_98 (by decide) ?_
        obtain ⟨x14, ex14, hf⟩ := zLet_el hf
        refine lv_iinc (v := x14) (lv' := [(4, .int x14), (3, .int x13), (0, .ref (bV 0)), (1, .int p1), (2, .ref (bR 0))]) C.1.1 C.1.2.1 dX10_worked_261 hl (k := 4) rfl (by rw [ex14]; rfl) (by decide) rfl (fun ls hl => ?_)
        refine lv_goto (tgt := 13) C.1.1 C.1.2.1 dX10_worked_264 (by decide) ?_
        exact ihgo7 x13 x14 mU_12 hf H locs hP hD hS ls (lv_sub hl [2, 3, 4, 1, 0] rfl)
      refine lv_icmp_ne (tgt := 80) C.1.1 C.1.2.1 dX10_worked_62 (by decide) (fun hc => ?_) (fun hc => ?_)
      · replace hf := zIf_f hf hc
        refine lv_aload_n C.1.1 C.1.2.1 dX10_worked_80 rfl (lv_at hl 0 rfl) ?_
        refine lv_aload_n C.1.1 C.1.2.1 dX10_worked_81 rfl (lv_at hl 0 rfl) ?_
        refine zGet (.ref (bP 0)) C.1 wuX10 hK hP 0 rfl rfl 7 (by decide) wfX10_25 rfl rfl dX10_worked_82 ?_
        refine zGetN (.ref (bP 10)) C.1 wuX8 hK hP 14 rfl rfl 12 (by decide) nfX10_251 rfl rfl dX10_worked_85 ?_
        refine lv_iload C.1.1 C.1.2.1 dX10_worked_88 (lv_at hl 4 rfl) ?_
        obtain ⟨hib, hf⟩ := zGd_el hf
        refine va_iald C.1.1 C.1.2.1 hK.1 hP 24 0 rfl rfl hib dX10_worked_90 ?_
        obtain ⟨v15, hg, hf⟩ := zB1_el hf
        refine zCVi (As := [.int (mP 12 x5.toNatClampNeg)]) (rest := [.int x4, .ref (bV 2)]) (wr := (kX8 cI cB bP mP ++ kA8 cI cB bR mR)) (wn := (kX10 cI cB bV (bP 0) (bS 0) (bW 0) (bN 0) (bO 0) mZ mY mB mL mU_6 mJ mK mG mA ++ kX8 cI cB bP mP ++ kA8 cI cB bR mR)) C.1 hK hA hP hD hS [0, 1, 2, 3, 4, 5, 6, 7, 8, 9, 10, 11, 12, 13] [14, 15, 16, 17, 18, 19, 20, 21, 22, 23, 24, 25] [12, 13, 14, 15, 16, 17, 18, 19, 20, 21, 22, 23, 24, 25, 0, 1, 2, 3, 4, 5, 6, 7, 8, 9, 10, 11] 0 (mtX10_low l dC dI cI cB bV bP bS bW bN bO H.size mZ mY mB mL mU_6 mJ mK mG mA (mP 12 x5.toNatClampNeg) hg) (zCwV 1 C.1 wlX10_239 wiX10_low ws_X10_low wnX10 wkX10_low rfl rfl (by decide +kernel) ⟨Nat.le_of_ble_eq_true rfl, Nat.le_of_ble_eq_true rfl⟩) rfl rfl (by decide +kernel) rfl rfl rfl rfl hl.1 (Nat.le_of_ble_eq_true rfl) dX10_worked_91 ⟨Nat.zero_le _, Nat.zero_le _⟩ rfl (fun H locs hP hD hS => ?_)
        exact hJ94_11 v15 hf H locs hP hD hS ls (lv_sub hl [0, 1, 2, 3, 4] rfl)
      · replace hf := zIf_t hf hc
        refine lv_aload_n C.1.1 C.1.2.1 dX10_worked_65 rfl (lv_at hl 2 rfl) ?_
        refine lv_aload_n C.1.1 C.1.2.1 dX10_worked_66 rfl (lv_at hl 0 rfl) ?_
        refine zGet (.ref (bP 0)) C.1 wuX10 hK hP 0 rfl rfl 7 (by decide) wfX10_25 rfl rfl dX10_worked_67 ?_
        refine zGetN (.ref (bP 10)) C.1 wuX8 hK hP 14 rfl rfl 12 (by decide) nfX10_251 rfl rfl dX10_worked_70 ?_
        refine lv_iload C.1.1 C.1.2.1 dX10_worked_73 (lv_at hl 4 rfl) ?_
        obtain ⟨hib, hf⟩ := zGd_el hf
        refine va_iald C.1.1 C.1.2.1 hK.1 hP 24 0 rfl rfl hib dX10_worked_75 ?_
        obtain ⟨hib, hf⟩ := zGd_el hf
        refine va_iald C.1.1 C.1.2.1 hK.1 hP 25 0 rfl rfl hib dX10_worked_76 ?_
        refine lv_goto (tgt := 94) C.1.1 C.1.2.1 dX10_worked_77 (by decide) ?_
        exact hJ94_11 (mR (mP 12 x5.toNatClampNeg).toNatClampNeg) hf H locs hP hD hS ls (lv_sub hl [0, 1, 2, 3, 4] rfl)
    refine lv_icmp_eq (tgt := 53) C.1.1 C.1.2.1 dX10_worked_43 (by decide) (fun hc => ?_) (fun hc => ?_)
    · replace hf := zIf_t hf hc
      exact hJ53_9 () hf H locs hP hD hS ls (lv_sub hl [1, 2, 3, 4, 5, 0] rfl)
    · replace hf := zIf_f hf hc
      refine lv_iload C.1.1 C.1.2.1 dX10_worked_46 (lv_at hl 0 rfl) ?_
      refine lv_bipush (v := 10) C.1.1 C.1.2.1 dX10_worked_48 (by decide) ?_
      refine lv_icmp_ne (tgt := 101) C.1.1 C.1.2.1 dX10_worked_50 (by decide) (fun hc => ?_) (fun hc => ?_)
      · replace hf := zIf_f hf hc
        refine lv_iload C.1.1 C.1.2.1 dX10_worked_101 (lv_at hl 0 rfl) ?_
        refine lv_bipush (v := 7) C.1.1 C.1.2.1 dX10_worked_103 (by decide) ?_
        refine lv_icmp_ne (tgt := 133) C.1.1 C.1.2.1 dX10_worked_105 (by decide) (fun hc => ?_) (fun hc => ?_)
        · replace hf := zIf_f hf hc
          obtain ⟨x16, ex16, hf⟩ := zLet_el hf
          refine lv_iinc (v := x16) (lv' := [(3, .int x16), (5, .int x8), (0, .ref (bV 0)), (1, .int p1), (2, .ref (bR 0)), (4, .int x5)]) C.1.1 C.1.2.1 dX10_worked_133 hl (k := 4) rfl (by rw [ex16]; rfl) (by decide) rfl (fun ls hl => ?_)
          refine lv_aload_n C.1.1 C.1.2.1 dX10_worked_136 rfl (lv_at hl 2 rfl) ?_
          refine zGet (.ref (bV 2)) C.1 wuX10 hK hP 0 rfl rfl 23 (by decide) wfX10_50 rfl rfl dX10_worked_137 ?_
          refine lv_iload_n C.1.1 C.1.2.1 dX10_worked_140 rfl (lv_at hl 0 rfl) ?_
          refine lv_iconst (v := 1) C.1.1 C.1.2.1 dX10_worked_141 (by decide) ?_
          refine lv_isub C.1.1 C.1.2.1 dX10_worked_142 ?_
          obtain ⟨hib, hf⟩ := zGd_el hf
          refine va_iald C.1.1 C.1.2.1 hK.1 hP 2 0 rfl rfl hib dX10_worked_143 ?_
          refine lv_topi (fun x17 ex17 => ?_)
          replace hf := zLet_at hf ex17
          refine lv_istore (lv' := [(6, .int x17), (3, .int x16), (5, .int x8), (0, .ref (bV 0)), (1, .int p1), (2, .ref (bR 0)), (4, .int x5)]) C.1.1 C.1.2.1 dX10_worked_144 hl (by decide) rfl (fun ls hl => ?_)
          refine lv_aload_n C.1.1 C.1.2.1 dX10_worked_146 rfl (lv_at hl 3 rfl) ?_
          refine zGet (.ref (bV 2)) C.1 wuX10 hK hP 0 rfl rfl 23 (by decide) wfX10_50 rfl rfl dX10_worked_147 ?_
          refine lv_iload_n C.1.1 C.1.2.1 dX10_worked_150 rfl (lv_at hl 1 rfl) ?_
          obtain ⟨hib, hf⟩ := zGd_el hf
          refine va_iald C.1.1 C.1.2.1 hK.1 hP 2 0 rfl rfl hib dX10_worked_151 ?_
          refine lv_topi (fun x18 ex18 => ?_)
          replace hf := zLet_at hf ex18
          refine lv_istore (lv' := [(7, .int x18), (6, .int x17), (3, .int x16), (5, .int x8), (0, .ref (bV 0)), (1, .int p1), (2, .ref (bR 0)), (4, .int x5)]) C.1.1 C.1.2.1 dX10_worked_152 hl (by decide) rfl (fun ls hl => ?_)
          refine lv_aload_n C.1.1 C.1.2.1 dX10_worked_154 rfl (lv_at hl 4 rfl) ?_
          refine zGet (.ref (bV 2)) C.1 wuX10 hK hP 0 rfl rfl 23 (by decide) wfX10_50 rfl rfl dX10_worked_155 ?_
          refine lv_iload_n C.1.1 C.1.2.1 dX10_worked_158 rfl (lv_at hl 2 rfl) ?_
          refine lv_iconst (v := 1) C.1.1 C.1.2.1 dX10_worked_159 (by decide) ?_
          refine lv_isub C.1.1 C.1.2.1 dX10_worked_160 ?_
          refine lv_aload_n C.1.1 C.1.2.1 dX10_worked_161 rfl (lv_at hl 4 rfl) ?_
          refine lv_iload C.1.1 C.1.2.1 dX10_worked_162 (lv_at hl 3 rfl) ?_
          obtain ⟨J257_20, eJ257_20, hf⟩ := zJn_el hf
          have hJ257_20 : ∀ (t19 : Int32), J257_20 t19 = some (ov, mU') → ∀ (H : Heap) (locs : List Loc), va_P (dC, dI) vwCl (kX10 cI cB bV (bP 0) (bS 0) (bW 0) (bN 0) (bO 0) mZ mY mB mL mU_6 mJ mK mG mA ++ kX8 cI cB bP mP ++ kA8 cI cB bR mR) H → va_D A (kX10 cI cB bV (bP 0) (bS 0) (bW 0) (bN 0) (bO 0) mZ mY mB mL mU_6 mJ mK mG mA ++ kX8 cI cB bP mP ++ kA8 cI cB bR mR) → va_S A s.heap H locs → ∀ (ls : Array Slot), lv_has ls 8 [(0, .ref (bV 0)), (1, .int p1), (2, .ref (bR 0)), (3, .int x16), (4, .int x5)] → W p l e rX10_worked s m args below meth c H locs 0 0 QQ (F0 m 257 ls [.int t19, .ref (bV 0), .int (x16 - (1 : Int32)), .ref (bV 2)]) := by
            intro t19 hf H locs hP hD hS ls hl
            rw [eJ257_20] at hf
            obtain ⟨v21, hg, hf⟩ := zB1_el hf
            refine zCVi (As := [.int t19]) (rest := [.int (x16 - (1 : Int32)), .ref (bV 2)]) (wr := (kX8 cI cB bP mP ++ kA8 cI cB bR mR)) (wn := (kX10 cI cB bV (bP 0) (bS 0) (bW 0) (bN 0) (bO 0) mZ mY mB mL mU_6 mJ mK mG mA ++ kX8 cI cB bP mP ++ kA8 cI cB bR mR)) C.1 hK hA hP hD hS [0, 1, 2, 3, 4, 5, 6, 7, 8, 9, 10, 11, 12, 13] [14, 15, 16, 17, 18, 19, 20, 21, 22, 23, 24, 25] [12, 13, 14, 15, 16, 17, 18, 19, 20, 21, 22, 23, 24, 25, 0, 1, 2, 3, 4, 5, 6, 7, 8, 9, 10, 11] 0 (mtX10_low l dC dI cI cB bV bP bS bW bN bO H.size mZ mY mB mL mU_6 mJ mK mG mA t19 hg) (zCwV 1 C.1 wlX10_239 wiX10_low ws_X10_low wnX10 wkX10_low rfl rfl (by decide +kernel) ⟨Nat.le_of_ble_eq_true rfl, Nat.le_of_ble_eq_true rfl⟩) rfl rfl (by decide +kernel) rfl rfl rfl rfl hl.1 (Nat.le_of_ble_eq_true rfl) dX10_worked_257 ⟨Nat.zero_le _, Nat.zero_le _⟩ rfl (fun H locs hP hD hS => ?_)
            obtain ⟨hib, hf⟩ := zGd_el hf
            obtain ⟨mU_22, emU_22, hf⟩ := zLet_el hf
            refine zIast (kX10 cI cB bV (bP 0) (bS 0) (bW 0) (bN 0) (bO 0) mZ mY mB mL mU_22 mJ mK mG mA ++ kX8 cI cB bP mP ++ kA8 cI cB bR mR) C.1 hK hP hD hS 2 0 rfl rfl hib dX10_worked_260 (by rw [emU_22]; rfl) (fun H locs hP hD hS => ?_)
            obtain ⟨x23, ex23, hf⟩ := zLet_el hf
            refine lv_iinc (v := x23) (lv' := [(4, .int x23), (0, .ref (bV 0)), (1, .int p1), (2, .ref (bR 0)), (3, .int x16)]) C.1.1 C.1.2.1 dX10_worked_261 hl (k := 4) rfl (by rw [ex23]; rfl) (by decide) rfl (fun ls hl => ?_)
            refine lv_goto (tgt := 13) C.1.1 C.1.2.1 dX10_worked_264 (by decide) ?_
            exact ihgo7 x16 x23 mU_22 hf H locs hP hD hS ls (lv_sub hl [1, 2, 3, 4, 0] rfl)
          refine lv_if_ne (tgt := 175) C.1.1 C.1.2.1 dX10_worked_164 (by decide) (fun hc => ?_) (fun hc => ?_)
          · replace hf := zIf_f hf hc
            refine lv_iload C.1.1 C.1.2.1 dX10_worked_175 (lv_at hl 3 rfl) ?_
            refine lv_iconst (v := 1) C.1.1 C.1.2.1 dX10_worked_177 (by decide) ?_
            refine lv_icmp_ne (tgt := 189) C.1.1 C.1.2.1 dX10_worked_178 (by decide) (fun hc => ?_) (fun hc => ?_)
            · replace hf := zIf_f hf hc
              refine lv_iload C.1.1 C.1.2.1 dX10_worked_189 (lv_at hl 3 rfl) ?_
              refine lv_iconst (v := 2) C.1.1 C.1.2.1 dX10_worked_191 (by decide) ?_
              refine lv_icmp_ne (tgt := 203) C.1.1 C.1.2.1 dX10_worked_192 (by decide) (fun hc => ?_) (fun hc => ?_)
              · replace hf := zIf_f hf hc
                refine lv_iload C.1.1 C.1.2.1 dX10_worked_203 (lv_at hl 3 rfl) ?_
                refine lv_iconst (v := 3) C.1.1 C.1.2.1 dX10_worked_205 (by decide) ?_
                refine lv_icmp_ne (tgt := 217) C.1.1 C.1.2.1 dX10_worked_206 (by decide) (fun hc => ?_) (fun hc => ?_)
                · replace hf := zIf_f hf hc
                  refine lv_iload C.1.1 C.1.2.1 dX10_worked_217 (lv_at hl 3 rfl) ?_
                  refine lv_iconst (v := 4) C.1.1 C.1.2.1 dX10_worked_219 (by decide) ?_
                  refine lv_icmp_ne (tgt := 231) C.1.1 C.1.2.1 dX10_worked_220 (by decide) (fun hc => ?_) (fun hc => ?_)
                  · replace hf := zIf_f hf hc
                    refine lv_iload C.1.1 C.1.2.1 dX10_worked_231 (lv_at hl 3 rfl) ?_
                    refine lv_iconst (v := 5) C.1.1 C.1.2.1 dX10_worked_233 (by decide) ?_
                    refine lv_icmp_ne (tgt := 245) C.1.1 C.1.2.1 dX10_worked_234 (by decide) (fun hc => ?_) (fun hc => ?_)
                    · replace hf := zIf_f hf hc
                      refine lv_iload C.1.1 C.1.2.1 dX10_worked_245 (lv_at hl 1 rfl) ?_
                      refine lv_iload C.1.1 C.1.2.1 dX10_worked_247 (lv_at hl 0 rfl) ?_
                      refine lv_icmp_ge (tgt := 256) C.1.1 C.1.2.1 dX10_worked_249 (by decide) (fun hc => ?_) (fun hc => ?_)
                      · replace hf := zIf_t hf hc
                        refine lv_iconst (v := 0) C.1.1 C.1.2.1 dX10_worked_256 (by decide) ?_
                        exact hJ257_20 (0 : Int32) hf H locs hP hD hS ls (lv_sub hl [4, 5, 6, 2, 7] rfl)
                      · replace hf := zIf_f hf hc
                        refine lv_iconst (v := 1) C.1.1 C.1.2.1 dX10_worked_252 (by decide) ?_
                        refine lv_goto (tgt := 257) C.1.1 C.1.2.1 dX10_worked_253 (by decide) ?_
                        exact hJ257_20 (1 : Int32) hf H locs hP hD hS ls (lv_sub hl [4, 5, 6, 2, 7] rfl)
                    · replace hf := zIf_t hf hc
                      refine lv_iload C.1.1 C.1.2.1 dX10_worked_237 (lv_at hl 1 rfl) ?_
                      refine lv_iload C.1.1 C.1.2.1 dX10_worked_239 (lv_at hl 0 rfl) ?_
                      refine lv_ixor C.1.1 C.1.2.1 dX10_worked_241 ?_
                      refine lv_goto (tgt := 257) C.1.1 C.1.2.1 dX10_worked_242 (by decide) ?_
                      exact hJ257_20 (x17 ^^^ x18) hf H locs hP hD hS ls (lv_sub hl [4, 5, 6, 2, 7] rfl)
                  · replace hf := zIf_t hf hc
                    refine lv_iload C.1.1 C.1.2.1 dX10_worked_223 (lv_at hl 1 rfl) ?_
                    refine lv_iload C.1.1 C.1.2.1 dX10_worked_225 (lv_at hl 0 rfl) ?_
                    refine lv_ior C.1.1 C.1.2.1 dX10_worked_227 ?_
                    refine lv_goto (tgt := 257) C.1.1 C.1.2.1 dX10_worked_228 (by decide) ?_
                    exact hJ257_20 (x17 ||| x18) hf H locs hP hD hS ls (lv_sub hl [4, 5, 6, 2, 7] rfl)
                · replace hf := zIf_t hf hc
                  refine lv_iload C.1.1 C.1.2.1 dX10_worked_209 (lv_at hl 1 rfl) ?_
                  refine lv_iload C.1.1 C.1.2.1 dX10_worked_211 (lv_at hl 0 rfl) ?_
                  refine lv_iand C.1.1 C.1.2.1 dX10_worked_213 ?_
                  refine lv_goto (tgt := 257) C.1.1 C.1.2.1 dX10_worked_214 (by decide) ?_
                  exact hJ257_20 (x17 &&& x18) hf H locs hP hD hS ls (lv_sub hl [4, 5, 6, 2, 7] rfl)
              · replace hf := zIf_t hf hc
                refine lv_iload C.1.1 C.1.2.1 dX10_worked_195 (lv_at hl 1 rfl) ?_
                refine lv_iload C.1.1 C.1.2.1 dX10_worked_197 (lv_at hl 0 rfl) ?_
                refine lv_imul C.1.1 C.1.2.1 dX10_worked_199 ?_
                refine lv_goto (tgt := 257) C.1.1 C.1.2.1 dX10_worked_200 (by decide) ?_
                exact hJ257_20 (x17 * x18) hf H locs hP hD hS ls (lv_sub hl [4, 5, 6, 2, 7] rfl)
            · replace hf := zIf_t hf hc
              refine lv_iload C.1.1 C.1.2.1 dX10_worked_181 (lv_at hl 1 rfl) ?_
              refine lv_iload C.1.1 C.1.2.1 dX10_worked_183 (lv_at hl 0 rfl) ?_
              refine lv_isub C.1.1 C.1.2.1 dX10_worked_185 ?_
              refine lv_goto (tgt := 257) C.1.1 C.1.2.1 dX10_worked_186 (by decide) ?_
              exact hJ257_20 (x17 - x18) hf H locs hP hD hS ls (lv_sub hl [4, 5, 6, 2, 7] rfl)
          · replace hf := zIf_t hf hc
            refine lv_iload C.1.1 C.1.2.1 dX10_worked_167 (lv_at hl 1 rfl) ?_
            refine lv_iload C.1.1 C.1.2.1 dX10_worked_169 (lv_at hl 0 rfl) ?_
            refine lv_iadd C.1.1 C.1.2.1 dX10_worked_171 ?_
            refine lv_goto (tgt := 257) C.1.1 C.1.2.1 dX10_worked_172 (by decide) ?_
            exact hJ257_20 (x17 + x18) hf H locs hP hD hS ls (lv_sub hl [4, 5, 6, 2, 7] rfl)
        · replace hf := zIf_t hf hc
          refine lv_aload_n C.1.1 C.1.2.1 dX10_worked_108 rfl (lv_at hl 1 rfl) ?_
          refine zGet (.ref (bV 2)) C.1 wuX10 hK hP 0 rfl rfl 23 (by decide) wfX10_50 rfl rfl dX10_worked_109 ?_
          refine lv_iload_n C.1.1 C.1.2.1 dX10_worked_112 rfl (lv_at hl 4 rfl) ?_
          refine lv_iconst (v := 1) C.1.1 C.1.2.1 dX10_worked_113 (by decide) ?_
          refine lv_isub C.1.1 C.1.2.1 dX10_worked_114 ?_
          refine lv_aload_n C.1.1 C.1.2.1 dX10_worked_115 rfl (lv_at hl 1 rfl) ?_
          refine lv_aload_n C.1.1 C.1.2.1 dX10_worked_116 rfl (lv_at hl 1 rfl) ?_
          refine zGet (.ref (bV 2)) C.1 wuX10 hK hP 0 rfl rfl 23 (by decide) wfX10_50 rfl rfl dX10_worked_117 ?_
          refine lv_iload_n C.1.1 C.1.2.1 dX10_worked_120 rfl (lv_at hl 4 rfl) ?_
          refine lv_iconst (v := 1) C.1.1 C.1.2.1 dX10_worked_121 (by decide) ?_
          refine lv_isub C.1.1 C.1.2.1 dX10_worked_122 ?_
          obtain ⟨hib, hf⟩ := zGd_el hf
          refine va_iald C.1.1 C.1.2.1 hK.1 hP 2 0 rfl rfl hib dX10_worked_123 ?_
          refine lv_iconst (v := (-1)) C.1.1 C.1.2.1 dX10_worked_124 (by decide) ?_
          refine lv_ixor C.1.1 C.1.2.1 dX10_worked_125 ?_
          obtain ⟨v24, hg, hf⟩ := zB1_el hf
          refine zCVi (As := [.int ((mU_6 23 (x4 - (1 : Int32)).toNatClampNeg) ^^^ (-1 : Int32))]) (rest := [.int (x4 - (1 : Int32)), .ref (bV 2)]) (wr := (kX8 cI cB bP mP ++ kA8 cI cB bR mR)) (wn := (kX10 cI cB bV (bP 0) (bS 0) (bW 0) (bN 0) (bO 0) mZ mY mB mL mU_6 mJ mK mG mA ++ kX8 cI cB bP mP ++ kA8 cI cB bR mR)) C.1 hK hA hP hD hS [0, 1, 2, 3, 4, 5, 6, 7, 8, 9, 10, 11, 12, 13] [14, 15, 16, 17, 18, 19, 20, 21, 22, 23, 24, 25] [12, 13, 14, 15, 16, 17, 18, 19, 20, 21, 22, 23, 24, 25, 0, 1, 2, 3, 4, 5, 6, 7, 8, 9, 10, 11] 0 (mtX10_low l dC dI cI cB bV bP bS bW bN bO H.size mZ mY mB mL mU_6 mJ mK mG mA ((mU_6 23 (x4 - (1 : Int32)).toNatClampNeg) ^^^ (-1 : Int32)) hg) (zCwV 1 C.1 wlX10_239 wiX10_low ws_X10_low wnX10 wkX10_low rfl rfl (by decide +kernel) ⟨Nat.le_of_ble_eq_true rfl, Nat.le_of_ble_eq_true rfl⟩) rfl rfl (by decide +kernel) rfl rfl rfl rfl hl.1 (Nat.le_of_ble_eq_true rfl) dX10_worked_126 ⟨Nat.zero_le _, Nat.zero_le _⟩ rfl (fun H locs hP hD hS => ?_)
          obtain ⟨hib, hf⟩ := zGd_el hf
          obtain ⟨mU_25, emU_25, hf⟩ := zLet_el hf
          refine zIast (kX10 cI cB bV (bP 0) (bS 0) (bW 0) (bN 0) (bO 0) mZ mY mB mL mU_25 mJ mK mG mA ++ kX8 cI cB bP mP ++ kA8 cI cB bR mR) C.1 hK hP hD hS 2 0 rfl rfl hib dX10_worked_129 (by rw [emU_25]; rfl) (fun H locs hP hD hS => ?_)
          refine lv_goto (tgt := 261) C.1.1 C.1.2.1 dX10_worked_130 (by decide) ?_
          obtain ⟨x26, ex26, hf⟩ := zLet_el hf
          refine lv_iinc (v := x26) (lv' := [(4, .int x26), (5, .int x8), (0, .ref (bV 0)), (1, .int p1), (2, .ref (bR 0)), (3, .int x4)]) C.1.1 C.1.2.1 dX10_worked_261 hl (k := 5) rfl (by rw [ex26]; rfl) (by decide) rfl (fun ls hl => ?_)
          refine lv_goto (tgt := 13) C.1.1 C.1.2.1 dX10_worked_264 (by decide) ?_
          exact ihgo7 x4 x26 mU_25 hf H locs hP hD hS ls (lv_sub hl [2, 3, 4, 5, 0] rfl)
      · replace hf := zIf_t hf hc
        exact hJ53_9 () hf H locs hP hD hS ls (lv_sub hl [1, 2, 3, 4, 5, 0] rfl)
def fX10_does_L5 (mY : Rc) (mP : Rc) (p1 : Int32) (NN : Nat) (J76_4 : Rc → Ar → Option (Rc × Ar)) (n : Nat) (x5 : Int32) (mU_6 : Rc) (mR_7 : Ar) : Option (Rc × Ar) := zLp3 (fun (go8 : Int32 → Rc → Ar → Option (Rc × Ar)) (x5 : Int32) (mU_6 : Rc) (mR_7 : Ar) =>
    zGd (inb p1 12) <|
    if (((8 : Int32) * p1) + (mP 5 p1.toNatClampNeg)) ≤ x5 then (
      J76_4 mU_6 mR_7
    ) else (
      zGd (inb x5 96) <|
      zJn (fun (_ : Unit) =>
          zGd (inb x5 96) <|
          zB2 (fX10_worked NN mY mU_6 mP mR_7 x5) fun v10 mU_11 =>
          zGd (inb (mP 8 x5.toNatClampNeg) 8) <|
          zLet (upd mR_7 (mP 8 x5.toNatClampNeg).toNatClampNeg v10) fun mR_12 =>
          zLet (x5 + 1) fun x13 =>
          go8 x13 mU_11 mR_12
        ) fun J53_9 =>
      if (mP 7 x5.toNatClampNeg) = (-1 : Int32) then (
        J53_9 ()
      ) else (
        zGd (inb x5 96) <|
        zGd (inb (mP 7 x5.toNatClampNeg) 8) <|
        if (mR_7 (mP 7 x5.toNatClampNeg).toNatClampNeg) = 0 then (
          zLet (x5 + 1) fun x14 =>
          go8 x14 mU_6 mR_7
        ) else (
          J53_9 ()
        )
      )
    )
  ) n x5 mU_6 mR_7
def fX10_does (NN : Nat) (mY : Rc) (mU : Rc) (mP : Rc) (mR : Ar) (p1 : Int32) : Option (Rc × Ar) :=
  zLet ((8 : Int32) * p1) fun x1 =>
  zJn (fun (mU_2 : Rc) (mR_3 : Ar) =>
      some (mU_2, mR_3)
    ) fun J76_4 =>
  fX10_does_L5 mY mP p1 NN J76_4 NN x1 mU mR
abbrev rX10_does : Room := { frames := 2, cells := 0, slots := 0, locals := 48 }
set_option maxHeartbeats 4000000 in
set_option maxRecDepth 100000 in
theorem mtX10_does (l : Launch) (dC : Nat → ClassId) (dI : Nat → Nat → Nat) (cI cB : ClassId) (bV bP bS bW bN bO bR : Nat → Nat) (sz : Nat) (NN : Nat) (mZ : Rc) (mY : Rc) (mB : Rc) (mL : Rc) (mU : Rc) (mJ : Rc) (mK : Rc) (mG : Rc) (mA : Rc) (mP : Rc) (mR : Ar) (p1 : Int32) {mU' : Rc} {mR' : Ar} (hf : fX10_does NN mY mU mP mR p1 = some (mU', mR')) : zMv l yX10_does (Cond.code yX10_does cX10_does 4 none :: lw_g) rX10_does (dC, dI) [(cI, .int), (cB, .byte)] [.ref (bV 0), .int p1, .ref (bR 0)] sz (kX10 cI cB bV (bP 0) (bS 0) (bW 0) (bN 0) (bO 0) mZ mY mB mL mU mJ mK mG mA ++ kX8 cI cB bP mP ++ kA8 cI cB bR mR) (kX10 cI cB bV (bP 0) (bS 0) (bW 0) (bN 0) (bO 0) mZ mY mB mL mU' mJ mK mG mA ++ kX8 cI cB bP mP ++ kA8 cI cB bR mR') := by
  refine zSt (cc := cX10_does) (maxL := 4) (ret := none) (own := RX10) (fun A => zQv (dC, dI) [(cI, .int), (cB, .byte)] A (kX10 cI cB bV (bP 0) (bS 0) (bW 0) (bN 0) (bO 0) mZ mY mB mL mU' mJ mK mG mA ++ kX8 cI cB bP mP ++ kA8 cI cB bR mR')) (by decide) rfl rfl (Nat.le_of_ble_eq_true rfl) ?_
  intro p e s m below meth c ls A H locs C hK hA hP hD hS hl
  generalize hQ : MQ below (zQv (dC, dI) [(cI, .int), (cB, .byte)] A (kX10 cI cB bV (bP 0) (bS 0) (bW 0) (bN 0) (bO 0) mZ mY mB mL mU' mJ mK mG mA ++ kX8 cI cB bP mP ++ kA8 cI cB bR mR')) _ s 0 0 A = QQ
  generalize ([.ref (bV 0), .int p1, .ref (bR 0)] : List Value).toArray = args at C hQ ⊢
  have hl : lv_has ls 4 [(0, .ref (bV 0)), (1, .int p1), (2, .ref (bR 0))] := hl
  unfold fX10_does at hf
  refine lv_bipush (v := 8) C.1.1 C.1.2.1 dX10_does_0 (by decide) ?_
  refine lv_iload_n C.1.1 C.1.2.1 dX10_does_2 rfl (lv_at hl 1 rfl) ?_
  refine lv_imul C.1.1 C.1.2.1 dX10_does_3 ?_
  refine lv_topi (fun x1 ex1 => ?_)
  replace hf := zLet_at hf ex1
  refine lv_istore_n (lv' := [(3, .int x1), (0, .ref (bV 0)), (1, .int p1), (2, .ref (bR 0))]) C.1.1 C.1.2.1 dX10_does_4 rfl hl (by decide) rfl (fun ls hl => ?_)
  obtain ⟨J76_4, eJ76_4, hf⟩ := zJn_el hf
  have hJ76_4 : ∀ (mU_2 : Rc) (mR_3 : Ar), J76_4 mU_2 mR_3 = some (mU', mR') → ∀ (H : Heap) (locs : List Loc), va_P (dC, dI) vwCl (kX10 cI cB bV (bP 0) (bS 0) (bW 0) (bN 0) (bO 0) mZ mY mB mL mU_2 mJ mK mG mA ++ kX8 cI cB bP mP ++ kA8 cI cB bR mR_3) H → va_D A (kX10 cI cB bV (bP 0) (bS 0) (bW 0) (bN 0) (bO 0) mZ mY mB mL mU_2 mJ mK mG mA ++ kX8 cI cB bP mP ++ kA8 cI cB bR mR_3) → va_S A s.heap H locs → ∀ (ls : Array Slot), lv_has ls 4 [] → W p l e rX10_does s m args below meth c H locs 0 0 QQ (F0 m 76 ls []) := by
    intro mU_2 mR_3 hf H locs hP hD hS ls hl
    rw [eJ76_4] at hf
    cases hf
    rw [← hQ]
    exact zRv C hK hP hD hS dX10_does_76
  refine zLp3_ind (o := (mU', mR')) (P := fun (x5 : Int32) (mU_6 : Rc) (mR_7 : Ar) => ∀ (H : Heap) (locs : List Loc), va_P (dC, dI) vwCl (kX10 cI cB bV (bP 0) (bS 0) (bW 0) (bN 0) (bO 0) mZ mY mB mL mU_6 mJ mK mG mA ++ kX8 cI cB bP mP ++ kA8 cI cB bR mR_7) H → va_D A (kX10 cI cB bV (bP 0) (bS 0) (bW 0) (bN 0) (bO 0) mZ mY mB mL mU_6 mJ mK mG mA ++ kX8 cI cB bP mP ++ kA8 cI cB bR mR_7) → va_S A s.heap H locs → ∀ (ls : Array Slot), lv_has ls 4 [(0, .ref (bV 0)), (1, .int p1), (2, .ref (bR 0)), (3, .int x5)] → W p l e rX10_does s m args below meth c H locs 0 0 QQ (F0 m 5 ls [])) (fun go8 ihgo8 x5 mU_6 mR_7 hf H locs hP hD hS ls hl => ?_) _ x1 mU mR hf H locs hP hD hS ls (lv_sub hl [1, 2, 3, 0] rfl)
  refine lv_iload_n C.1.1 C.1.2.1 dX10_does_5 rfl (lv_at hl 3 rfl) ?_
  refine lv_bipush (v := 8) C.1.1 C.1.2.1 dX10_does_6 (by decide) ?_
  refine lv_iload_n C.1.1 C.1.2.1 dX10_does_8 rfl (lv_at hl 1 rfl) ?_
  refine lv_imul C.1.1 C.1.2.1 dX10_does_9 ?_
  refine lv_aload_n C.1.1 C.1.2.1 dX10_does_10 rfl (lv_at hl 0 rfl) ?_
  refine zGet (.ref (bP 0)) C.1 wuX10 hK hP 0 rfl rfl 7 (by decide) wfX10_25 rfl rfl dX10_does_11 ?_
  refine zGetN (.ref (bP 3)) C.1 wuX8 hK hP 14 rfl rfl 5 (by decide) nfX10_174 rfl rfl dX10_does_14 ?_
  refine lv_iload_n C.1.1 C.1.2.1 dX10_does_17 rfl (lv_at hl 1 rfl) ?_
  obtain ⟨hib, hf⟩ := zGd_el hf
  refine va_iald C.1.1 C.1.2.1 hK.1 hP 17 0 rfl rfl hib dX10_does_18 ?_
  refine lv_iadd C.1.1 C.1.2.1 dX10_does_19 ?_
  refine lv_icmp_ge (tgt := 76) C.1.1 C.1.2.1 dX10_does_20 (by decide) (fun hc => ?_) (fun hc => ?_)
  · replace hf := zIf_t hf hc
    exact hJ76_4 mU_6 mR_7 hf H locs hP hD hS ls (lv_sub hl [] rfl)
  · replace hf := zIf_f hf hc
    refine lv_aload_n C.1.1 C.1.2.1 dX10_does_23 rfl (lv_at hl 0 rfl) ?_
    refine zGet (.ref (bP 0)) C.1 wuX10 hK hP 0 rfl rfl 7 (by decide) wfX10_25 rfl rfl dX10_does_24 ?_
    refine zGetN (.ref (bP 5)) C.1 wuX8 hK hP 14 rfl rfl 7 (by decide) nfX10_192 rfl rfl dX10_does_27 ?_
    refine lv_iload_n C.1.1 C.1.2.1 dX10_does_30 rfl (lv_at hl 3 rfl) ?_
    obtain ⟨hib, hf⟩ := zGd_el hf
    refine va_iald C.1.1 C.1.2.1 hK.1 hP 19 0 rfl rfl hib dX10_does_31 ?_
    refine lv_iconst (v := (-1)) C.1.1 C.1.2.1 dX10_does_32 (by decide) ?_
    obtain ⟨J53_9, eJ53_9, hf⟩ := zJn_el hf
    have hJ53_9 : ∀ (u : Unit), J53_9 u = some (mU', mR') → ∀ (H : Heap) (locs : List Loc), va_P (dC, dI) vwCl (kX10 cI cB bV (bP 0) (bS 0) (bW 0) (bN 0) (bO 0) mZ mY mB mL mU_6 mJ mK mG mA ++ kX8 cI cB bP mP ++ kA8 cI cB bR mR_7) H → va_D A (kX10 cI cB bV (bP 0) (bS 0) (bW 0) (bN 0) (bO 0) mZ mY mB mL mU_6 mJ mK mG mA ++ kX8 cI cB bP mP ++ kA8 cI cB bR mR_7) → va_S A s.heap H locs → ∀ (ls : Array Slot), lv_has ls 4 [(0, .ref (bV 0)), (1, .int p1), (2, .ref (bR 0)), (3, .int x5)] → W p l e rX10_does s m args below meth c H locs 0 0 QQ (F0 m 53 ls []) := by
      intro u hf H locs hP hD hS ls hl
      rw [eJ53_9] at hf
      refine lv_aload_n C.1.1 C.1.2.1 dX10_does_53 rfl (lv_at hl 2 rfl) ?_
      refine lv_aload_n C.1.1 C.1.2.1 dX10_does_54 rfl (lv_at hl 0 rfl) ?_
      refine zGet (.ref (bP 0)) C.1 wuX10 hK hP 0 rfl rfl 7 (by decide) wfX10_25 rfl rfl dX10_does_55 ?_
      refine zGetN (.ref (bP 6)) C.1 wuX8 hK hP 14 rfl rfl 8 (by decide) nfX10_198 rfl rfl dX10_does_58 ?_
      refine lv_iload_n C.1.1 C.1.2.1 dX10_does_61 rfl (lv_at hl 3 rfl) ?_
      obtain ⟨hib, hf⟩ := zGd_el hf
      refine va_iald C.1.1 C.1.2.1 hK.1 hP 20 0 rfl rfl hib dX10_does_62 ?_
      refine lv_aload_n C.1.1 C.1.2.1 dX10_does_63 rfl (lv_at hl 0 rfl) ?_
      refine lv_iload_n C.1.1 C.1.2.1 dX10_does_64 rfl (lv_at hl 3 rfl) ?_
      refine lv_aload_n C.1.1 C.1.2.1 dX10_does_65 rfl (lv_at hl 2 rfl) ?_
      obtain ⟨v10, mU_11, hg, hf⟩ := zB2_el hf
      refine zCVi (As := [.int x5, .ref (bR 0)]) (rest := [.int (mP 8 x5.toNatClampNeg), .ref (bR 0)]) (wr := ([] : va_W)) (wn := (kX10 cI cB bV (bP 0) (bS 0) (bW 0) (bN 0) (bO 0) mZ mY mB mL mU_11 mJ mK mG mA ++ kX8 cI cB bP mP ++ kA8 cI cB bR mR_7)) C.1 hK hA hP hD hS [0, 1, 2, 3, 4, 5, 6, 7, 8, 9, 10, 11, 12, 13, 14, 15, 16, 17, 18, 19, 20, 21, 22, 23, 24, 25] [] [0, 1, 2, 3, 4, 5, 6, 7, 8, 9, 10, 11, 12, 13, 14, 15, 16, 17, 18, 19, 20, 21, 22, 23, 24, 25] 0 (mtX10_worked l dC dI cI cB bV bP bS bW bN bO bR H.size NN mZ mY mB mL mU_6 mJ mK mG mA mP mR_7 x5 hg) (zCwV 2 C.1 wlX10_316 wiX10_worked ws_X10_worked wnX10 wkX10_worked rfl rfl (by decide +kernel) ⟨Nat.le_of_ble_eq_true rfl, Nat.le_of_ble_eq_true rfl⟩) rfl rfl (by decide +kernel) rfl rfl rfl rfl hl.1 (Nat.le_of_ble_eq_true rfl) dX10_does_66 ⟨Nat.zero_le _, Nat.zero_le _⟩ rfl (fun H locs hP hD hS => ?_)
      obtain ⟨hib, hf⟩ := zGd_el hf
      obtain ⟨mR_12, emR_12, hf⟩ := zLet_el hf
      refine zIast (kX10 cI cB bV (bP 0) (bS 0) (bW 0) (bN 0) (bO 0) mZ mY mB mL mU_11 mJ mK mG mA ++ kX8 cI cB bP mP ++ kA8 cI cB bR mR_12) C.1 hK hP hD hS 25 0 rfl rfl hib dX10_does_69 (by rw [emR_12]; rfl) (fun H locs hP hD hS => ?_)
      obtain ⟨x13, ex13, hf⟩ := zLet_el hf
      refine lv_iinc (v := x13) (lv' := [(3, .int x13), (0, .ref (bV 0)), (1, .int p1), (2, .ref (bR 0))]) C.1.1 C.1.2.1 dX10_does_70 hl (k := 3) rfl (by rw [ex13]; rfl) (by decide) rfl (fun ls hl => ?_)
      refine lv_goto (tgt := 5) C.1.1 C.1.2.1 dX10_does_73 (by decide) ?_
      exact ihgo8 x13 mU_11 mR_12 hf H locs hP hD hS ls (lv_sub hl [1, 2, 3, 0] rfl)
    refine lv_icmp_eq (tgt := 53) C.1.1 C.1.2.1 dX10_does_33 (by decide) (fun hc => ?_) (fun hc => ?_)
    · replace hf := zIf_t hf hc
      exact hJ53_9 () hf H locs hP hD hS ls (lv_sub hl [0, 1, 2, 3] rfl)
    · replace hf := zIf_f hf hc
      refine lv_aload_n C.1.1 C.1.2.1 dX10_does_36 rfl (lv_at hl 2 rfl) ?_
      refine lv_aload_n C.1.1 C.1.2.1 dX10_does_37 rfl (lv_at hl 0 rfl) ?_
      refine zGet (.ref (bP 0)) C.1 wuX10 hK hP 0 rfl rfl 7 (by decide) wfX10_25 rfl rfl dX10_does_38 ?_
      refine zGetN (.ref (bP 5)) C.1 wuX8 hK hP 14 rfl rfl 7 (by decide) nfX10_192 rfl rfl dX10_does_41 ?_
      refine lv_iload_n C.1.1 C.1.2.1 dX10_does_44 rfl (lv_at hl 3 rfl) ?_
      obtain ⟨hib, hf⟩ := zGd_el hf
      refine va_iald C.1.1 C.1.2.1 hK.1 hP 19 0 rfl rfl hib dX10_does_45 ?_
      obtain ⟨hib, hf⟩ := zGd_el hf
      refine va_iald C.1.1 C.1.2.1 hK.1 hP 25 0 rfl rfl hib dX10_does_46 ?_
      refine lv_if_ne (tgt := 53) C.1.1 C.1.2.1 dX10_does_47 (by decide) (fun hc => ?_) (fun hc => ?_)
      · replace hf := zIf_f hf hc
        exact hJ53_9 () hf H locs hP hD hS ls (lv_sub hl [0, 1, 2, 3] rfl)
      · replace hf := zIf_t hf hc
        refine lv_goto (tgt := 70) C.1.1 C.1.2.1 dX10_does_50 (by decide) ?_
        obtain ⟨x14, ex14, hf⟩ := zLet_el hf
        refine lv_iinc (v := x14) (lv' := [(3, .int x14), (0, .ref (bV 0)), (1, .int p1), (2, .ref (bR 0))]) C.1.1 C.1.2.1 dX10_does_70 hl (k := 3) rfl (by rw [ex14]; rfl) (by decide) rfl (fun ls hl => ?_)
        refine lv_goto (tgt := 5) C.1.1 C.1.2.1 dX10_does_73 (by decide) ?_
        exact ihgo8 x14 mU_6 mR_7 hf H locs hP hD hS ls (lv_sub hl [1, 2, 3, 0] rfl)
def fX10_run_L42 (mY : Rc) (mP : Rc) (NN : Nat) (x12 : Int32) (J70_18 : Rc → Ar → Option (Int32 × Rc × Rc × Rc × Rc × Ar)) (n : Nat) (x20 : Int32) (mU_21 : Rc) (mN_22 : Ar) : Option (Int32 × Rc × Rc × Rc × Rc × Ar) := zLp3 (fun (go23 : Int32 → Rc → Ar → Option (Int32 × Rc × Rc × Rc × Rc × Ar)) (x20 : Int32) (mU_21 : Rc) (mN_22 : Ar) =>
    zGd (inb x12 12) <|
    if (mP 4 x12.toNatClampNeg) ≤ x20 then (
      J70_18 mU_21 mN_22
    ) else (
      zB2 (fX10_does NN mY mU_21 mP mN_22 x12) fun mU_24 mN_25 =>
      zLet (x20 + 1) fun x26 =>
      go23 x26 mU_24 mN_25
    )
  ) n x20 mU_21 mN_22
def fX10_run_L29 (mY : Rc) (mP : Rc) (NN : Nat) (J76_7 : Rc → Ar → Option (Int32 × Rc × Rc × Rc × Rc × Ar)) (n : Nat) (x12 : Int32) (mU_13 : Rc) (mN_14 : Ar) : Option (Int32 × Rc × Rc × Rc × Rc × Ar) := zLp3 (fun (go15 : Int32 → Rc → Ar → Option (Int32 × Rc × Rc × Rc × Rc × Ar)) (x12 : Int32) (mU_13 : Rc) (mN_14 : Ar) =>
    if (mP 0 0) ≤ x12 then (
      J76_7 mU_13 mN_14
    ) else (
      zJn (fun (mU_16 : Rc) (mN_17 : Ar) =>
          zLet (x12 + 1) fun x19 =>
          go15 x19 mU_16 mN_17
        ) fun J70_18 =>
      fX10_run_L42 mY mP NN x12 J70_18 NN (0 : Int32) mU_13 mN_14
    )
  ) n x12 mU_13 mN_14
def fX10_run (NN : Nat) (mZ : Rc) (mY : Rc) (mU : Rc) (mJ : Rc) (mK : Rc) (mP : Rc) (mN : Ar) (p1 : Int32) : Option (Int32 × Rc × Rc × Rc × Rc × Ar) :=
  zLet (rs mZ 0 (fun _ => (0 : Int32))) fun mZ_1 =>
  zB1 (fX10_asked mY mP p1) fun v2 =>
  if v2 ≤ 0 then (
    zB2 (fX10_needs NN mY mU mJ mP) fun mU_3 mJ_4 =>
    zJn (fun (mU_5 : Rc) (mN_6 : Ar) =>
        zB2 (fX10_ticksOf NN mY mJ_4 mK mP p1) fun v8 mK_9 =>
        zB2 (fX10_done mZ_1 v8) fun v10 mZ_11 =>
        some (v10, mZ_11, mU_5, mJ_4, mK_9, mN_6)
      ) fun J76_7 =>
    fX10_run_L29 mY mP NN J76_7 NN (0 : Int32) mU_3 mN
  ) else (
    zB1 (fX10_asked mY mP p1) fun v27 =>
    zB2 (fX10_refused mZ_1 v27) fun v28 mZ_29 =>
    some (v28, mZ_29, mU, mJ, mK, mN)
  )
abbrev rX10_run : Room := { frames := 5, cells := 0, slots := 0, locals := 121 }
set_option maxHeartbeats 4000000 in
set_option maxRecDepth 100000 in
theorem mtX10_run (l : Launch) (dC : Nat → ClassId) (dI : Nat → Nat → Nat) (cI cB : ClassId) (bV bP bS bW bN bO : Nat → Nat) (sz : Nat) (NN : Nat) (mZ : Rc) (mY : Rc) (mB : Rc) (mL : Rc) (mU : Rc) (mJ : Rc) (mK : Rc) (mG : Rc) (mA : Rc) (mP : Rc) (mN : Ar) (p1 : Int32) {ov : Int32} {mZ' : Rc} {mU' : Rc} {mJ' : Rc} {mK' : Rc} {mN' : Ar} (hf : fX10_run NN mZ mY mU mJ mK mP mN p1 = some (ov, mZ', mU', mJ', mK', mN')) : zMi l yX10_run (Cond.code yX10_run cX10_run 4 (some .int) :: lw_g) rX10_run (dC, dI) [(cI, .int), (cB, .byte)] [.ref (bV 0), .int p1] sz (kX10 cI cB bV (bP 0) (bS 0) (bW 0) (bN 0) (bO 0) mZ mY mB mL mU mJ mK mG mA ++ kX8 cI cB bP mP ++ kA8 cI cB bN mN) ov (kX10 cI cB bV (bP 0) (bS 0) (bW 0) (bN 0) (bO 0) mZ' mY mB mL mU' mJ' mK' mG mA ++ kX8 cI cB bP mP ++ kA8 cI cB bN mN') := by
  refine zSt (cc := cX10_run) (maxL := 4) (ret := (some .int)) (own := RX10) (fun A => zQi (dC, dI) [(cI, .int), (cB, .byte)] A ov (kX10 cI cB bV (bP 0) (bS 0) (bW 0) (bN 0) (bO 0) mZ' mY mB mL mU' mJ' mK' mG mA ++ kX8 cI cB bP mP ++ kA8 cI cB bN mN')) (by decide) rfl rfl (Nat.le_of_ble_eq_true rfl) ?_
  intro p e s m below meth c ls A H locs C hK hA hP hD hS hl
  generalize hQ : MQ below (zQi (dC, dI) [(cI, .int), (cB, .byte)] A ov (kX10 cI cB bV (bP 0) (bS 0) (bW 0) (bN 0) (bO 0) mZ' mY mB mL mU' mJ' mK' mG mA ++ kX8 cI cB bP mP ++ kA8 cI cB bN mN')) _ s 0 0 A = QQ
  generalize ([.ref (bV 0), .int p1] : List Value).toArray = args at C hQ ⊢
  have hl : lv_has ls 4 [(0, .ref (bV 0)), (1, .int p1)] := hl
  unfold fX10_run at hf
  refine lv_aload_n C.1.1 C.1.2.1 dX10_run_0 rfl (lv_at hl 0 rfl) ?_
  refine lv_iconst (v := 0) C.1.1 C.1.2.1 dX10_run_1 (by decide) ?_
  obtain ⟨mZ_1, emZ_1, hf⟩ := zLet_el hf
  refine zPut (ty := .int) (kX10 cI cB bV (bP 0) (bS 0) (bW 0) (bN 0) (bO 0) mZ_1 mY mB mL mU mJ mK mG mA ++ kX8 cI cB bP mP ++ kA8 cI cB bN mN) C.1 wuX10 tyX10 tyX10_ok nmX10 hK hP hD hS 0 rfl rfl 0 (by decide) wfX10_86 rfl rfl (by decide +kernel) rfl rfl (Nat.le_of_ble_eq_true rfl) dX10_run_2 (by rw [emZ_1]; rfl) (fun H locs hP hD hS => ?_)
  refine lv_aload_n C.1.1 C.1.2.1 dX10_run_5 rfl (lv_at hl 0 rfl) ?_
  refine lv_iload_n C.1.1 C.1.2.1 dX10_run_6 rfl (lv_at hl 1 rfl) ?_
  obtain ⟨v2, hg, hf⟩ := zB1_el hf
  refine zCVi (As := [.int p1]) (rest := []) (wr := (kA8 cI cB bN mN)) (wn := (kX10 cI cB bV (bP 0) (bS 0) (bW 0) (bN 0) (bO 0) mZ_1 mY mB mL mU mJ mK mG mA ++ kX8 cI cB bP mP ++ kA8 cI cB bN mN)) C.1 hK hA hP hD hS [0, 1, 2, 3, 4, 5, 6, 7, 8, 9, 10, 11, 12, 13, 14, 15, 16, 17, 18, 19, 20, 21, 22, 23, 24] [25] [1, 2, 3, 4, 5, 6, 7, 8, 9, 10, 11, 12, 13, 14, 15, 16, 17, 18, 19, 20, 21, 22, 23, 24, 25, 0] 0 (mtX10_asked l dC dI cI cB bV bP bS bW bN bO H.size mZ_1 mY mB mL mU mJ mK mG mA mP p1 hg) (zCwV 1 C.1 wlX10_293 wiX10_asked ws_X10_asked wnX10 wkX10_asked rfl rfl (by decide +kernel) ⟨Nat.le_of_ble_eq_true rfl, Nat.le_of_ble_eq_true rfl⟩) rfl rfl (by decide +kernel) rfl rfl rfl rfl hl.1 (Nat.le_of_ble_eq_true rfl) dX10_run_7 ⟨Nat.zero_le _, Nat.zero_le _⟩ rfl (fun H locs hP hD hS => ?_)
  refine lv_if_le (tgt := 23) C.1.1 C.1.2.1 dX10_run_10 (by decide) (fun hc => ?_) (fun hc => ?_)
  · replace hf := zIf_t hf hc
    refine lv_aload_n C.1.1 C.1.2.1 dX10_run_23 rfl (lv_at hl 0 rfl) ?_
    obtain ⟨mU_3, mJ_4, hg, hf⟩ := zB2_el hf
    refine zCVv (As := []) (rest := []) (wr := (kA8 cI cB bN mN)) (wn := (kX10 cI cB bV (bP 0) (bS 0) (bW 0) (bN 0) (bO 0) mZ_1 mY mB mL mU_3 mJ_4 mK mG mA ++ kX8 cI cB bP mP ++ kA8 cI cB bN mN)) C.1 hK hA hP hD hS [0, 1, 2, 3, 4, 5, 6, 7, 8, 9, 10, 11, 12, 13, 14, 15, 16, 17, 18, 19, 20, 21, 22, 23, 24] [25] [1, 2, 3, 4, 5, 6, 7, 8, 9, 10, 11, 12, 13, 14, 15, 16, 17, 18, 19, 20, 21, 22, 23, 24, 25, 0] 0 (mtX10_needs l dC dI cI cB bV bP bS bW bN bO H.size NN mZ_1 mY mB mL mU mJ mK mG mA mP hg) (zCwV 0 C.1 wlX10_296 wiX10_needs ws_X10_needs wnX10 wkX10_needs rfl rfl (by decide +kernel) ⟨Nat.le_of_ble_eq_true rfl, Nat.le_of_ble_eq_true rfl⟩) rfl rfl (by decide +kernel) rfl rfl rfl rfl hl.1 (Nat.le_of_ble_eq_true rfl) dX10_run_24 ⟨Nat.zero_le _, Nat.zero_le _⟩ rfl (fun H locs hP hD hS => ?_)
    refine lv_iconst (v := 0) C.1.1 C.1.2.1 dX10_run_27 (by decide) ?_
    refine lv_istore_n (lv' := [(2, .int (0 : Int32)), (0, .ref (bV 0)), (1, .int p1)]) C.1.1 C.1.2.1 dX10_run_28 rfl hl (by decide) rfl (fun ls hl => ?_)
    obtain ⟨J76_7, eJ76_7, hf⟩ := zJn_el hf
    have hJ76_7 : ∀ (mU_5 : Rc) (mN_6 : Ar), J76_7 mU_5 mN_6 = some (ov, mZ', mU', mJ', mK', mN') → ∀ (H : Heap) (locs : List Loc), va_P (dC, dI) vwCl (kX10 cI cB bV (bP 0) (bS 0) (bW 0) (bN 0) (bO 0) mZ_1 mY mB mL mU_5 mJ_4 mK mG mA ++ kX8 cI cB bP mP ++ kA8 cI cB bN mN_6) H → va_D A (kX10 cI cB bV (bP 0) (bS 0) (bW 0) (bN 0) (bO 0) mZ_1 mY mB mL mU_5 mJ_4 mK mG mA ++ kX8 cI cB bP mP ++ kA8 cI cB bN mN_6) → va_S A s.heap H locs → ∀ (ls : Array Slot), lv_has ls 4 [(0, .ref (bV 0)), (1, .int p1)] → W p l e rX10_run s m args below meth c H locs 0 0 QQ (F0 m 76 ls []) := by
      intro mU_5 mN_6 hf H locs hP hD hS ls hl
      rw [eJ76_7] at hf
      refine lv_aload_n C.1.1 C.1.2.1 dX10_run_76 rfl (lv_at hl 0 rfl) ?_
      refine lv_aload_n C.1.1 C.1.2.1 dX10_run_77 rfl (lv_at hl 0 rfl) ?_
      refine lv_iload_n C.1.1 C.1.2.1 dX10_run_78 rfl (lv_at hl 1 rfl) ?_
      obtain ⟨v8, mK_9, hg, hf⟩ := zB2_el hf
      refine zCVi (As := [.int p1]) (rest := [.ref (bV 0)]) (wr := (kA8 cI cB bN mN_6)) (wn := (kX10 cI cB bV (bP 0) (bS 0) (bW 0) (bN 0) (bO 0) mZ_1 mY mB mL mU_5 mJ_4 mK_9 mG mA ++ kX8 cI cB bP mP ++ kA8 cI cB bN mN_6)) C.1 hK hA hP hD hS [0, 1, 2, 3, 4, 5, 6, 7, 8, 9, 10, 11, 12, 13, 14, 15, 16, 17, 18, 19, 20, 21, 22, 23, 24] [25] [1, 2, 3, 4, 5, 6, 7, 8, 9, 10, 11, 12, 13, 14, 15, 16, 17, 18, 19, 20, 21, 22, 23, 24, 25, 0] 0 (mtX10_ticksOf l dC dI cI cB bV bP bS bW bN bO H.size NN mZ_1 mY mB mL mU_5 mJ_4 mK mG mA mP p1 hg) (zCwV 1 C.1 wlX10_299 wiX10_ticksOf ws_X10_ticksOf wnX10 wkX10_ticksOf rfl rfl (by decide +kernel) ⟨Nat.le_of_ble_eq_true rfl, Nat.le_of_ble_eq_true rfl⟩) rfl rfl (by decide +kernel) rfl rfl rfl rfl hl.1 (Nat.le_of_ble_eq_true rfl) dX10_run_79 ⟨Nat.zero_le _, Nat.zero_le _⟩ rfl (fun H locs hP hD hS => ?_)
      obtain ⟨v10, mZ_11, hg, hf⟩ := zB2_el hf
      refine zCVi (As := [.int v8]) (rest := []) (wr := (kX8 cI cB bP mP ++ kA8 cI cB bN mN_6)) (wn := (kX10 cI cB bV (bP 0) (bS 0) (bW 0) (bN 0) (bO 0) mZ_11 mY mB mL mU_5 mJ_4 mK_9 mG mA ++ kX8 cI cB bP mP ++ kA8 cI cB bN mN_6)) C.1 hK hA hP hD hS [0, 1, 2, 3, 4, 5, 6, 7, 8, 9, 10, 11, 12, 13] [14, 15, 16, 17, 18, 19, 20, 21, 22, 23, 24, 25] [12, 13, 14, 15, 16, 17, 18, 19, 20, 21, 22, 23, 24, 25, 0, 1, 2, 3, 4, 5, 6, 7, 8, 9, 10, 11] 0 (mtX10_done l dC dI cI cB bV bP bS bW bN bO H.size mZ_1 mY mB mL mU_5 mJ_4 mK_9 mG mA v8 hg) (zCwV 1 C.1 wlX10_233 wiX10_done ws_X10_done wnX10 wkX10_done rfl rfl (by decide +kernel) ⟨Nat.le_of_ble_eq_true rfl, Nat.le_of_ble_eq_true rfl⟩) rfl rfl (by decide +kernel) rfl rfl rfl rfl hl.1 (Nat.le_of_ble_eq_true rfl) dX10_run_82 ⟨Nat.zero_le _, Nat.zero_le _⟩ rfl (fun H locs hP hD hS => ?_)
      cases hf
      rw [← hQ]
      exact zRi C hK hP hD hS dX10_run_85
    refine zLp3_ind (o := (ov, mZ', mU', mJ', mK', mN')) (P := fun (x12 : Int32) (mU_13 : Rc) (mN_14 : Ar) => ∀ (H : Heap) (locs : List Loc), va_P (dC, dI) vwCl (kX10 cI cB bV (bP 0) (bS 0) (bW 0) (bN 0) (bO 0) mZ_1 mY mB mL mU_13 mJ_4 mK mG mA ++ kX8 cI cB bP mP ++ kA8 cI cB bN mN_14) H → va_D A (kX10 cI cB bV (bP 0) (bS 0) (bW 0) (bN 0) (bO 0) mZ_1 mY mB mL mU_13 mJ_4 mK mG mA ++ kX8 cI cB bP mP ++ kA8 cI cB bN mN_14) → va_S A s.heap H locs → ∀ (ls : Array Slot), lv_has ls 4 [(0, .ref (bV 0)), (1, .int p1), (2, .int x12)] → W p l e rX10_run s m args below meth c H locs 0 0 QQ (F0 m 29 ls [])) (fun go15 ihgo15 x12 mU_13 mN_14 hf H locs hP hD hS ls hl => ?_) _ (0 : Int32) mU_3 mN hf H locs hP hD hS ls (lv_sub hl [1, 2, 0] rfl)
    refine lv_iload_n C.1.1 C.1.2.1 dX10_run_29 rfl (lv_at hl 2 rfl) ?_
    refine lv_aload_n C.1.1 C.1.2.1 dX10_run_30 rfl (lv_at hl 0 rfl) ?_
    refine zGet (.ref (bP 0)) C.1 wuX10 hK hP 0 rfl rfl 7 (by decide) wfX10_25 rfl rfl dX10_run_31 ?_
    refine zGetN (.int (mP 0 0)) C.1 wuX8 hK hP 14 rfl rfl 0 (by decide) nfX10_146 rfl rfl dX10_run_34 ?_
    refine lv_icmp_ge (tgt := 76) C.1.1 C.1.2.1 dX10_run_37 (by decide) (fun hc => ?_) (fun hc => ?_)
    · replace hf := zIf_t hf hc
      exact hJ76_7 mU_13 mN_14 hf H locs hP hD hS ls (lv_sub hl [0, 1] rfl)
    · replace hf := zIf_f hf hc
      refine lv_iconst (v := 0) C.1.1 C.1.2.1 dX10_run_40 (by decide) ?_
      refine lv_istore_n (lv' := [(3, .int (0 : Int32)), (0, .ref (bV 0)), (1, .int p1), (2, .int x12)]) C.1.1 C.1.2.1 dX10_run_41 rfl hl (by decide) rfl (fun ls hl => ?_)
      obtain ⟨J70_18, eJ70_18, hf⟩ := zJn_el hf
      have hJ70_18 : ∀ (mU_16 : Rc) (mN_17 : Ar), J70_18 mU_16 mN_17 = some (ov, mZ', mU', mJ', mK', mN') → ∀ (H : Heap) (locs : List Loc), va_P (dC, dI) vwCl (kX10 cI cB bV (bP 0) (bS 0) (bW 0) (bN 0) (bO 0) mZ_1 mY mB mL mU_16 mJ_4 mK mG mA ++ kX8 cI cB bP mP ++ kA8 cI cB bN mN_17) H → va_D A (kX10 cI cB bV (bP 0) (bS 0) (bW 0) (bN 0) (bO 0) mZ_1 mY mB mL mU_16 mJ_4 mK mG mA ++ kX8 cI cB bP mP ++ kA8 cI cB bN mN_17) → va_S A s.heap H locs → ∀ (ls : Array Slot), lv_has ls 4 [(0, .ref (bV 0)), (1, .int p1), (2, .int x12)] → W p l e rX10_run s m args below meth c H locs 0 0 QQ (F0 m 70 ls []) := by
        intro mU_16 mN_17 hf H locs hP hD hS ls hl
        rw [eJ70_18] at hf
        obtain ⟨x19, ex19, hf⟩ := zLet_el hf
        refine lv_iinc (v := x19) (lv' := [(2, .int x19), (0, .ref (bV 0)), (1, .int p1)]) C.1.1 C.1.2.1 dX10_run_70 hl (k := 2) rfl (by rw [ex19]; rfl) (by decide) rfl (fun ls hl => ?_)
        refine lv_goto (tgt := 29) C.1.1 C.1.2.1 dX10_run_73 (by decide) ?_
        exact ihgo15 x19 mU_16 mN_17 hf H locs hP hD hS ls (lv_sub hl [1, 2, 0] rfl)
      refine zLp3_ind (o := (ov, mZ', mU', mJ', mK', mN')) (P := fun (x20 : Int32) (mU_21 : Rc) (mN_22 : Ar) => ∀ (H : Heap) (locs : List Loc), va_P (dC, dI) vwCl (kX10 cI cB bV (bP 0) (bS 0) (bW 0) (bN 0) (bO 0) mZ_1 mY mB mL mU_21 mJ_4 mK mG mA ++ kX8 cI cB bP mP ++ kA8 cI cB bN mN_22) H → va_D A (kX10 cI cB bV (bP 0) (bS 0) (bW 0) (bN 0) (bO 0) mZ_1 mY mB mL mU_21 mJ_4 mK mG mA ++ kX8 cI cB bP mP ++ kA8 cI cB bN mN_22) → va_S A s.heap H locs → ∀ (ls : Array Slot), lv_has ls 4 [(0, .ref (bV 0)), (1, .int p1), (2, .int x12), (3, .int x20)] → W p l e rX10_run s m args below meth c H locs 0 0 QQ (F0 m 42 ls [])) (fun go23 ihgo23 x20 mU_21 mN_22 hf H locs hP hD hS ls hl => ?_) _ (0 : Int32) mU_13 mN_14 hf H locs hP hD hS ls (lv_sub hl [1, 2, 3, 0] rfl)
      refine lv_iload_n C.1.1 C.1.2.1 dX10_run_42 rfl (lv_at hl 3 rfl) ?_
      refine lv_aload_n C.1.1 C.1.2.1 dX10_run_43 rfl (lv_at hl 0 rfl) ?_
      refine zGet (.ref (bP 0)) C.1 wuX10 hK hP 0 rfl rfl 7 (by decide) wfX10_25 rfl rfl dX10_run_44 ?_
      refine zGetN (.ref (bP 2)) C.1 wuX8 hK hP 14 rfl rfl 4 (by decide) nfX10_171 rfl rfl dX10_run_47 ?_
      refine lv_iload_n C.1.1 C.1.2.1 dX10_run_50 rfl (lv_at hl 2 rfl) ?_
      obtain ⟨hib, hf⟩ := zGd_el hf
      refine va_iald C.1.1 C.1.2.1 hK.1 hP 16 0 rfl rfl hib dX10_run_51 ?_
      refine lv_icmp_ge (tgt := 70) C.1.1 C.1.2.1 dX10_run_52 (by decide) (fun hc => ?_) (fun hc => ?_)
      · replace hf := zIf_t hf hc
        exact hJ70_18 mU_21 mN_22 hf H locs hP hD hS ls (lv_sub hl [0, 1, 2] rfl)
      · replace hf := zIf_f hf hc
        refine lv_aload_n C.1.1 C.1.2.1 dX10_run_55 rfl (lv_at hl 0 rfl) ?_
        refine lv_iload_n C.1.1 C.1.2.1 dX10_run_56 rfl (lv_at hl 2 rfl) ?_
        refine lv_aload_n C.1.1 C.1.2.1 dX10_run_57 rfl (lv_at hl 0 rfl) ?_
        refine zGet (.ref (bN 0)) C.1 wuX10 hK hP 0 rfl rfl 21 (by decide) wfX10_43 rfl rfl dX10_run_58 ?_
        obtain ⟨mU_24, mN_25, hg, hf⟩ := zB2_el hf
        refine zCVv (As := [.int x12, .ref (bN 0)]) (rest := []) (wr := ([] : va_W)) (wn := (kX10 cI cB bV (bP 0) (bS 0) (bW 0) (bN 0) (bO 0) mZ_1 mY mB mL mU_24 mJ_4 mK mG mA ++ kX8 cI cB bP mP ++ kA8 cI cB bN mN_25)) C.1 hK hA hP hD hS [0, 1, 2, 3, 4, 5, 6, 7, 8, 9, 10, 11, 12, 13, 14, 15, 16, 17, 18, 19, 20, 21, 22, 23, 24, 25] [] [0, 1, 2, 3, 4, 5, 6, 7, 8, 9, 10, 11, 12, 13, 14, 15, 16, 17, 18, 19, 20, 21, 22, 23, 24, 25] 0 (mtX10_does l dC dI cI cB bV bP bS bW bN bO bN H.size NN mZ_1 mY mB mL mU_21 mJ_4 mK mG mA mP mN_22 x12 hg) (zCwV 2 C.1 wlX10_320 wiX10_does ws_X10_does wnX10 wkX10_does rfl rfl (by decide +kernel) ⟨Nat.le_of_ble_eq_true rfl, Nat.le_of_ble_eq_true rfl⟩) rfl rfl (by decide +kernel) rfl rfl rfl rfl hl.1 (Nat.le_of_ble_eq_true rfl) dX10_run_61 ⟨Nat.zero_le _, Nat.zero_le _⟩ rfl (fun H locs hP hD hS => ?_)
        obtain ⟨x26, ex26, hf⟩ := zLet_el hf
        refine lv_iinc (v := x26) (lv' := [(3, .int x26), (0, .ref (bV 0)), (1, .int p1), (2, .int x12)]) C.1.1 C.1.2.1 dX10_run_64 hl (k := 3) rfl (by rw [ex26]; rfl) (by decide) rfl (fun ls hl => ?_)
        refine lv_goto (tgt := 42) C.1.1 C.1.2.1 dX10_run_67 (by decide) ?_
        exact ihgo23 x26 mU_24 mN_25 hf H locs hP hD hS ls (lv_sub hl [1, 2, 3, 0] rfl)
  · replace hf := zIf_f hf hc
    refine lv_aload_n C.1.1 C.1.2.1 dX10_run_13 rfl (lv_at hl 0 rfl) ?_
    refine lv_aload_n C.1.1 C.1.2.1 dX10_run_14 rfl (lv_at hl 0 rfl) ?_
    refine lv_iload_n C.1.1 C.1.2.1 dX10_run_15 rfl (lv_at hl 1 rfl) ?_
    obtain ⟨v27, hg, hf⟩ := zB1_el hf
    refine zCVi (As := [.int p1]) (rest := [.ref (bV 0)]) (wr := (kA8 cI cB bN mN)) (wn := (kX10 cI cB bV (bP 0) (bS 0) (bW 0) (bN 0) (bO 0) mZ_1 mY mB mL mU mJ mK mG mA ++ kX8 cI cB bP mP ++ kA8 cI cB bN mN)) C.1 hK hA hP hD hS [0, 1, 2, 3, 4, 5, 6, 7, 8, 9, 10, 11, 12, 13, 14, 15, 16, 17, 18, 19, 20, 21, 22, 23, 24] [25] [1, 2, 3, 4, 5, 6, 7, 8, 9, 10, 11, 12, 13, 14, 15, 16, 17, 18, 19, 20, 21, 22, 23, 24, 25, 0] 0 (mtX10_asked l dC dI cI cB bV bP bS bW bN bO H.size mZ_1 mY mB mL mU mJ mK mG mA mP p1 hg) (zCwV 1 C.1 wlX10_293 wiX10_asked ws_X10_asked wnX10 wkX10_asked rfl rfl (by decide +kernel) ⟨Nat.le_of_ble_eq_true rfl, Nat.le_of_ble_eq_true rfl⟩) rfl rfl (by decide +kernel) rfl rfl rfl rfl hl.1 (Nat.le_of_ble_eq_true rfl) dX10_run_16 ⟨Nat.zero_le _, Nat.zero_le _⟩ rfl (fun H locs hP hD hS => ?_)
    obtain ⟨v28, mZ_29, hg, hf⟩ := zB2_el hf
    refine zCVi (As := [.int v27]) (rest := []) (wr := (kX8 cI cB bP mP ++ kA8 cI cB bN mN)) (wn := (kX10 cI cB bV (bP 0) (bS 0) (bW 0) (bN 0) (bO 0) mZ_29 mY mB mL mU mJ mK mG mA ++ kX8 cI cB bP mP ++ kA8 cI cB bN mN)) C.1 hK hA hP hD hS [0, 1, 2, 3, 4, 5, 6, 7, 8, 9, 10, 11, 12, 13] [14, 15, 16, 17, 18, 19, 20, 21, 22, 23, 24, 25] [12, 13, 14, 15, 16, 17, 18, 19, 20, 21, 22, 23, 24, 25, 0, 1, 2, 3, 4, 5, 6, 7, 8, 9, 10, 11] 0 (mtX10_refused l dC dI cI cB bV bP bS bW bN bO H.size mZ_1 mY mB mL mU mJ mK mG mA v27 hg) (zCwV 1 C.1 wlX10_221 wiX10_refused ws_X10_refused wnX10 wkX10_refused rfl rfl (by decide +kernel) ⟨Nat.le_of_ble_eq_true rfl, Nat.le_of_ble_eq_true rfl⟩) rfl rfl (by decide +kernel) rfl rfl rfl rfl hl.1 (Nat.le_of_ble_eq_true rfl) dX10_run_19 ⟨Nat.zero_le _, Nat.zero_le _⟩ rfl (fun H locs hP hD hS => ?_)
    cases hf
    rw [← hQ]
    exact zRi C hK hP hD hS dX10_run_22
def fX10_blocked (mY : Rc) (mP : Rc) (p1 : Int32) : Option (Int32) :=
  if (mY 9 0) = 0 then (
    some (4 : Int32)
  ) else (
    zB1 (fX10_isBlock mY mP p1) fun v1 =>
    if v1 = 0 then (
      some (1 : Int32)
    ) else (
      some (0 : Int32)
    )
  )
abbrev rX10_blocked : Room := { frames := 1, cells := 0, slots := 0, locals := 21 }
set_option maxHeartbeats 4000000 in
set_option maxRecDepth 100000 in
theorem mtX10_blocked (l : Launch) (dC : Nat → ClassId) (dI : Nat → Nat → Nat) (cI cB : ClassId) (bV bP bS bW bN bO : Nat → Nat) (sz : Nat) (mZ : Rc) (mY : Rc) (mB : Rc) (mL : Rc) (mU : Rc) (mJ : Rc) (mK : Rc) (mG : Rc) (mA : Rc) (mP : Rc) (p1 : Int32) {ov : Int32} (hf : fX10_blocked mY mP p1 = some ov) : zMi l yX10_blocked (Cond.code yX10_blocked cX10_blocked 2 (some .int) :: lw_g) rX10_blocked (dC, dI) [(cI, .int), (cB, .byte)] [.ref (bV 0), .int p1] sz (kX10 cI cB bV (bP 0) (bS 0) (bW 0) (bN 0) (bO 0) mZ mY mB mL mU mJ mK mG mA ++ kX8 cI cB bP mP) ov (kX10 cI cB bV (bP 0) (bS 0) (bW 0) (bN 0) (bO 0) mZ mY mB mL mU mJ mK mG mA ++ kX8 cI cB bP mP) := by
  refine zSt (cc := cX10_blocked) (maxL := 2) (ret := (some .int)) (own := RX10) (fun A => zQi (dC, dI) [(cI, .int), (cB, .byte)] A ov (kX10 cI cB bV (bP 0) (bS 0) (bW 0) (bN 0) (bO 0) mZ mY mB mL mU mJ mK mG mA ++ kX8 cI cB bP mP)) (by decide) rfl rfl (Nat.le_of_ble_eq_true rfl) ?_
  intro p e s m below meth c ls A H locs C hK hA hP hD hS hl
  generalize hQ : MQ below (zQi (dC, dI) [(cI, .int), (cB, .byte)] A ov (kX10 cI cB bV (bP 0) (bS 0) (bW 0) (bN 0) (bO 0) mZ mY mB mL mU mJ mK mG mA ++ kX8 cI cB bP mP)) _ s 0 0 A = QQ
  generalize ([.ref (bV 0), .int p1] : List Value).toArray = args at C hQ ⊢
  have hl : lv_has ls 2 [(0, .ref (bV 0)), (1, .int p1)] := hl
  unfold fX10_blocked at hf
  refine lv_aload_n C.1.1 C.1.2.1 dX10_blocked_0 rfl (lv_at hl 0 rfl) ?_
  refine zGet (.int (mY 9 0)) C.1 wuX10 hK hP 0 rfl rfl 9 (by decide) wfX10_230 rfl rfl dX10_blocked_1 ?_
  refine lv_if_ne (tgt := 11) C.1.1 C.1.2.1 dX10_blocked_4 (by decide) (fun hc => ?_) (fun hc => ?_)
  · replace hf := zIf_f hf hc
    refine lv_aload_n C.1.1 C.1.2.1 dX10_blocked_11 rfl (lv_at hl 0 rfl) ?_
    refine lv_iload_n C.1.1 C.1.2.1 dX10_blocked_12 rfl (lv_at hl 1 rfl) ?_
    obtain ⟨v1, hg, hf⟩ := zB1_el hf
    refine zCVi (As := [.int p1]) (rest := []) (wr := ([] : va_W)) (wn := (kX10 cI cB bV (bP 0) (bS 0) (bW 0) (bN 0) (bO 0) mZ mY mB mL mU mJ mK mG mA ++ kX8 cI cB bP mP)) C.1 hK hA hP hD hS [0, 1, 2, 3, 4, 5, 6, 7, 8, 9, 10, 11, 12, 13, 14, 15, 16, 17, 18, 19, 20, 21, 22, 23, 24] [] [0, 1, 2, 3, 4, 5, 6, 7, 8, 9, 10, 11, 12, 13, 14, 15, 16, 17, 18, 19, 20, 21, 22, 23, 24] 0 (mtX10_isBlock l dC dI cI cB bV bP bS bW bN bO H.size mZ mY mB mL mU mJ mK mG mA mP p1 hg) (zCwV 1 C.1 wlX10_269 wiX10_isBlock ws_X10_isBlock wnX10 wkX10_isBlock rfl rfl (by decide +kernel) ⟨Nat.le_of_ble_eq_true rfl, Nat.le_of_ble_eq_true rfl⟩) rfl rfl (by decide +kernel) rfl rfl rfl rfl hl.1 (Nat.le_of_ble_eq_true rfl) dX10_blocked_13 ⟨Nat.zero_le _, Nat.zero_le _⟩ rfl (fun H locs hP hD hS => ?_)
    refine lv_if_eq (tgt := 23) C.1.1 C.1.2.1 dX10_blocked_16 (by decide) (fun hc => ?_) (fun hc => ?_)
    · replace hf := zIf_t hf hc
      refine lv_iconst (v := 1) C.1.1 C.1.2.1 dX10_blocked_23 (by decide) ?_
      cases hf
      rw [← hQ]
      exact zRi C hK hP hD hS dX10_blocked_24
    · replace hf := zIf_f hf hc
      refine lv_iconst (v := 0) C.1.1 C.1.2.1 dX10_blocked_19 (by decide) ?_
      refine lv_goto (tgt := 24) C.1.1 C.1.2.1 dX10_blocked_20 (by decide) ?_
      cases hf
      rw [← hQ]
      exact zRi C hK hP hD hS dX10_blocked_24
  · replace hf := zIf_t hf hc
    refine lv_iconst (v := 4) C.1.1 C.1.2.1 dX10_blocked_7 (by decide) ?_
    refine lv_goto (tgt := 24) C.1.1 C.1.2.1 dX10_blocked_8 (by decide) ?_
    cases hf
    rw [← hQ]
    exact zRi C hK hP hD hS dX10_blocked_24
def fX10_once (NN : Nat) (mZ : Rc) (mY : Rc) (mU : Rc) (mP : Rc) (mN : Ar) (p1 : Int32) (p2 : Int32) : Option (Int32 × Rc × Rc × Ar) :=
  zLet (rs mZ 0 (fun _ => (0 : Int32))) fun mZ_1 =>
  zB1 (fX10_blocked mY mP p1) fun v2 =>
  if v2 ≤ 0 then (
    zB2 (fX10_does NN mY mU mP mN p1) fun mU_3 mN_4 =>
    zB2 (fX10_granted mZ_1) fun v5 mZ_6 =>
    zGd (zbit v5) <|
    some (v5, mZ_6, mU_3, mN_4)
  ) else (
    zB1 (fX10_blocked mY mP p1) fun v7 =>
    zB2 (fX10_denied mZ_1 v7) fun v8 mZ_9 =>
    zGd (zbit v8) <|
    some (v8, mZ_9, mU, mN)
  )
abbrev rX10_once : Room := { frames := 3, cells := 0, slots := 0, locals := 71 }
set_option maxHeartbeats 4000000 in
set_option maxRecDepth 100000 in
theorem mtX10_once (l : Launch) (dC : Nat → ClassId) (dI : Nat → Nat → Nat) (cI cB : ClassId) (bV bP bS bW bN bO : Nat → Nat) (sz : Nat) (NN : Nat) (mZ : Rc) (mY : Rc) (mB : Rc) (mL : Rc) (mU : Rc) (mJ : Rc) (mK : Rc) (mG : Rc) (mA : Rc) (mP : Rc) (mN : Ar) (p1 : Int32) (p2 : Int32) {ov : Int32} {mZ' : Rc} {mU' : Rc} {mN' : Ar} (hf : fX10_once NN mZ mY mU mP mN p1 p2 = some (ov, mZ', mU', mN')) : zMi l yX10_once (Cond.code yX10_once cX10_once 3 (some .boolean) :: lw_g) rX10_once (dC, dI) [(cI, .int), (cB, .byte)] [.ref (bV 0), .int p1, .int p2] sz (kX10 cI cB bV (bP 0) (bS 0) (bW 0) (bN 0) (bO 0) mZ mY mB mL mU mJ mK mG mA ++ kX8 cI cB bP mP ++ kA8 cI cB bN mN) ov (kX10 cI cB bV (bP 0) (bS 0) (bW 0) (bN 0) (bO 0) mZ' mY mB mL mU' mJ mK mG mA ++ kX8 cI cB bP mP ++ kA8 cI cB bN mN') := by
  refine zSt (cc := cX10_once) (maxL := 3) (ret := (some .boolean)) (own := RX10) (fun A => zQi (dC, dI) [(cI, .int), (cB, .byte)] A ov (kX10 cI cB bV (bP 0) (bS 0) (bW 0) (bN 0) (bO 0) mZ' mY mB mL mU' mJ mK mG mA ++ kX8 cI cB bP mP ++ kA8 cI cB bN mN')) (by decide) rfl rfl (Nat.le_of_ble_eq_true rfl) ?_
  intro p e s m below meth c ls A H locs C hK hA hP hD hS hl
  generalize hQ : MQ below (zQi (dC, dI) [(cI, .int), (cB, .byte)] A ov (kX10 cI cB bV (bP 0) (bS 0) (bW 0) (bN 0) (bO 0) mZ' mY mB mL mU' mJ mK mG mA ++ kX8 cI cB bP mP ++ kA8 cI cB bN mN')) _ s 0 0 A = QQ
  generalize ([.ref (bV 0), .int p1, .int p2] : List Value).toArray = args at C hQ ⊢
  have hl : lv_has ls 3 [(0, .ref (bV 0)), (1, .int p1), (2, .int p2)] := hl
  unfold fX10_once at hf
  refine lv_aload_n C.1.1 C.1.2.1 dX10_once_0 rfl (lv_at hl 0 rfl) ?_
  refine lv_iconst (v := 0) C.1.1 C.1.2.1 dX10_once_1 (by decide) ?_
  obtain ⟨mZ_1, emZ_1, hf⟩ := zLet_el hf
  refine zPut (ty := .int) (kX10 cI cB bV (bP 0) (bS 0) (bW 0) (bN 0) (bO 0) mZ_1 mY mB mL mU mJ mK mG mA ++ kX8 cI cB bP mP ++ kA8 cI cB bN mN) C.1 wuX10 tyX10 tyX10_ok nmX10 hK hP hD hS 0 rfl rfl 0 (by decide) wfX10_86 rfl rfl (by decide +kernel) rfl rfl (Nat.le_of_ble_eq_true rfl) dX10_once_2 (by rw [emZ_1]; rfl) (fun H locs hP hD hS => ?_)
  refine lv_aload_n C.1.1 C.1.2.1 dX10_once_5 rfl (lv_at hl 0 rfl) ?_
  refine lv_iload_n C.1.1 C.1.2.1 dX10_once_6 rfl (lv_at hl 1 rfl) ?_
  obtain ⟨v2, hg, hf⟩ := zB1_el hf
  refine zCVi (As := [.int p1]) (rest := []) (wr := (kA8 cI cB bN mN)) (wn := (kX10 cI cB bV (bP 0) (bS 0) (bW 0) (bN 0) (bO 0) mZ_1 mY mB mL mU mJ mK mG mA ++ kX8 cI cB bP mP ++ kA8 cI cB bN mN)) C.1 hK hA hP hD hS [0, 1, 2, 3, 4, 5, 6, 7, 8, 9, 10, 11, 12, 13, 14, 15, 16, 17, 18, 19, 20, 21, 22, 23, 24] [25] [1, 2, 3, 4, 5, 6, 7, 8, 9, 10, 11, 12, 13, 14, 15, 16, 17, 18, 19, 20, 21, 22, 23, 24, 25, 0] 0 (mtX10_blocked l dC dI cI cB bV bP bS bW bN bO H.size mZ_1 mY mB mL mU mJ mK mG mA mP p1 hg) (zCwV 1 C.1 wlX10_324 wiX10_blocked ws_X10_blocked wnX10 wkX10_blocked rfl rfl (by decide +kernel) ⟨Nat.le_of_ble_eq_true rfl, Nat.le_of_ble_eq_true rfl⟩) rfl rfl (by decide +kernel) rfl rfl rfl rfl hl.1 (Nat.le_of_ble_eq_true rfl) dX10_once_7 ⟨Nat.zero_le _, Nat.zero_le _⟩ rfl (fun H locs hP hD hS => ?_)
  refine lv_if_le (tgt := 23) C.1.1 C.1.2.1 dX10_once_10 (by decide) (fun hc => ?_) (fun hc => ?_)
  · replace hf := zIf_t hf hc
    refine lv_aload_n C.1.1 C.1.2.1 dX10_once_23 rfl (lv_at hl 0 rfl) ?_
    refine lv_iload_n C.1.1 C.1.2.1 dX10_once_24 rfl (lv_at hl 1 rfl) ?_
    refine lv_aload_n C.1.1 C.1.2.1 dX10_once_25 rfl (lv_at hl 0 rfl) ?_
    refine zGet (.ref (bN 0)) C.1 wuX10 hK hP 0 rfl rfl 21 (by decide) wfX10_43 rfl rfl dX10_once_26 ?_
    obtain ⟨mU_3, mN_4, hg, hf⟩ := zB2_el hf
    refine zCVv (As := [.int p1, .ref (bN 0)]) (rest := []) (wr := ([] : va_W)) (wn := (kX10 cI cB bV (bP 0) (bS 0) (bW 0) (bN 0) (bO 0) mZ_1 mY mB mL mU_3 mJ mK mG mA ++ kX8 cI cB bP mP ++ kA8 cI cB bN mN_4)) C.1 hK hA hP hD hS [0, 1, 2, 3, 4, 5, 6, 7, 8, 9, 10, 11, 12, 13, 14, 15, 16, 17, 18, 19, 20, 21, 22, 23, 24, 25] [] [0, 1, 2, 3, 4, 5, 6, 7, 8, 9, 10, 11, 12, 13, 14, 15, 16, 17, 18, 19, 20, 21, 22, 23, 24, 25] 0 (mtX10_does l dC dI cI cB bV bP bS bW bN bO bN H.size NN mZ_1 mY mB mL mU mJ mK mG mA mP mN p1 hg) (zCwV 2 C.1 wlX10_320 wiX10_does ws_X10_does wnX10 wkX10_does rfl rfl (by decide +kernel) ⟨Nat.le_of_ble_eq_true rfl, Nat.le_of_ble_eq_true rfl⟩) rfl rfl (by decide +kernel) rfl rfl rfl rfl hl.1 (Nat.le_of_ble_eq_true rfl) dX10_once_29 ⟨Nat.zero_le _, Nat.zero_le _⟩ rfl (fun H locs hP hD hS => ?_)
    refine lv_aload_n C.1.1 C.1.2.1 dX10_once_32 rfl (lv_at hl 0 rfl) ?_
    obtain ⟨v5, mZ_6, hg, hf⟩ := zB2_el hf
    refine zCVi (As := []) (rest := []) (wr := (kX8 cI cB bP mP ++ kA8 cI cB bN mN_4)) (wn := (kX10 cI cB bV (bP 0) (bS 0) (bW 0) (bN 0) (bO 0) mZ_6 mY mB mL mU_3 mJ mK mG mA ++ kX8 cI cB bP mP ++ kA8 cI cB bN mN_4)) C.1 hK hA hP hD hS [0, 1, 2, 3, 4, 5, 6, 7, 8, 9, 10, 11, 12, 13] [14, 15, 16, 17, 18, 19, 20, 21, 22, 23, 24, 25] [12, 13, 14, 15, 16, 17, 18, 19, 20, 21, 22, 23, 24, 25, 0, 1, 2, 3, 4, 5, 6, 7, 8, 9, 10, 11] 0 (mtX10_granted l dC dI cI cB bV bP bS bW bN bO H.size mZ_1 mY mB mL mU_3 mJ mK mG mA hg) (zCwV 0 C.1 wlX10_242 wiX10_granted ws_X10_granted wnX10 wkX10_granted rfl rfl (by decide +kernel) ⟨Nat.le_of_ble_eq_true rfl, Nat.le_of_ble_eq_true rfl⟩) rfl rfl (by decide +kernel) rfl rfl rfl rfl hl.1 (Nat.le_of_ble_eq_true rfl) dX10_once_33 ⟨Nat.zero_le _, Nat.zero_le _⟩ rfl (fun H locs hP hD hS => ?_)
    obtain ⟨hz, hf⟩ := zGd_el hf
    cases hf
    rw [← hQ]
    exact zRz C (zbit_n hz).1 hK hP hD hS dX10_once_36
  · replace hf := zIf_f hf hc
    refine lv_aload_n C.1.1 C.1.2.1 dX10_once_13 rfl (lv_at hl 0 rfl) ?_
    refine lv_aload_n C.1.1 C.1.2.1 dX10_once_14 rfl (lv_at hl 0 rfl) ?_
    refine lv_iload_n C.1.1 C.1.2.1 dX10_once_15 rfl (lv_at hl 1 rfl) ?_
    obtain ⟨v7, hg, hf⟩ := zB1_el hf
    refine zCVi (As := [.int p1]) (rest := [.ref (bV 0)]) (wr := (kA8 cI cB bN mN)) (wn := (kX10 cI cB bV (bP 0) (bS 0) (bW 0) (bN 0) (bO 0) mZ_1 mY mB mL mU mJ mK mG mA ++ kX8 cI cB bP mP ++ kA8 cI cB bN mN)) C.1 hK hA hP hD hS [0, 1, 2, 3, 4, 5, 6, 7, 8, 9, 10, 11, 12, 13, 14, 15, 16, 17, 18, 19, 20, 21, 22, 23, 24] [25] [1, 2, 3, 4, 5, 6, 7, 8, 9, 10, 11, 12, 13, 14, 15, 16, 17, 18, 19, 20, 21, 22, 23, 24, 25, 0] 0 (mtX10_blocked l dC dI cI cB bV bP bS bW bN bO H.size mZ_1 mY mB mL mU mJ mK mG mA mP p1 hg) (zCwV 1 C.1 wlX10_324 wiX10_blocked ws_X10_blocked wnX10 wkX10_blocked rfl rfl (by decide +kernel) ⟨Nat.le_of_ble_eq_true rfl, Nat.le_of_ble_eq_true rfl⟩) rfl rfl (by decide +kernel) rfl rfl rfl rfl hl.1 (Nat.le_of_ble_eq_true rfl) dX10_once_16 ⟨Nat.zero_le _, Nat.zero_le _⟩ rfl (fun H locs hP hD hS => ?_)
    obtain ⟨v8, mZ_9, hg, hf⟩ := zB2_el hf
    refine zCVi (As := [.int v7]) (rest := []) (wr := (kX8 cI cB bP mP ++ kA8 cI cB bN mN)) (wn := (kX10 cI cB bV (bP 0) (bS 0) (bW 0) (bN 0) (bO 0) mZ_9 mY mB mL mU mJ mK mG mA ++ kX8 cI cB bP mP ++ kA8 cI cB bN mN)) C.1 hK hA hP hD hS [0, 1, 2, 3, 4, 5, 6, 7, 8, 9, 10, 11, 12, 13] [14, 15, 16, 17, 18, 19, 20, 21, 22, 23, 24, 25] [12, 13, 14, 15, 16, 17, 18, 19, 20, 21, 22, 23, 24, 25, 0, 1, 2, 3, 4, 5, 6, 7, 8, 9, 10, 11] 0 (mtX10_denied l dC dI cI cB bV bP bS bW bN bO H.size mZ_1 mY mB mL mU mJ mK mG mA v7 hg) (zCwV 1 C.1 wlX10_236 wiX10_denied ws_X10_denied wnX10 wkX10_denied rfl rfl (by decide +kernel) ⟨Nat.le_of_ble_eq_true rfl, Nat.le_of_ble_eq_true rfl⟩) rfl rfl (by decide +kernel) rfl rfl rfl rfl hl.1 (Nat.le_of_ble_eq_true rfl) dX10_once_19 ⟨Nat.zero_le _, Nat.zero_le _⟩ rfl (fun H locs hP hD hS => ?_)
    obtain ⟨hz, hf⟩ := zGd_el hf
    cases hf
    rw [← hQ]
    exact zRz C (zbit_n hz).1 hK hP hD hS dX10_once_22
def fX10_tries_L2 (mN : Ar) (J26_2 : Ar → Option (Rc × Ar)) (n : Nat) (x5 : Int32) (mO_6 : Ar) : Option (Rc × Ar) := zLp2 (fun (go7 : Int32 → Ar → Option (Rc × Ar)) (x5 : Int32) (mO_6 : Ar) =>
    if (8 : Int32) ≤ x5 then (
      J26_2 mO_6
    ) else (
      zGd (inb x5 8) <|
      zGd (inb x5 8) <|
      zLet (upd mO_6 x5.toNatClampNeg (mN x5.toNatClampNeg)) fun mO_8 =>
      zLet (x5 + 1) fun x9 =>
      go7 x9 mO_8
    )
  ) n x5 mO_6
def fX10_tries (NN : Nat) (mY : Rc) (mU : Rc) (mP : Rc) (mN : Ar) (mO : Ar) (p1 : Int32) : Option (Rc × Ar) :=
  zJn (fun (mO_1 : Ar) =>
      zB2 (fX10_does NN mY mU mP mO_1 p1) fun mU_3 mO_4 =>
      some (mU_3, mO_4)
    ) fun J26_2 =>
  fX10_tries_L2 mN J26_2 NN (0 : Int32) mO
abbrev rX10_tries : Room := { frames := 3, cells := 0, slots := 0, locals := 71 }
set_option maxHeartbeats 4000000 in
set_option maxRecDepth 100000 in
theorem mtX10_tries (l : Launch) (dC : Nat → ClassId) (dI : Nat → Nat → Nat) (cI cB : ClassId) (bV bP bS bW bN bO : Nat → Nat) (sz : Nat) (NN : Nat) (mZ : Rc) (mY : Rc) (mB : Rc) (mL : Rc) (mU : Rc) (mJ : Rc) (mK : Rc) (mG : Rc) (mA : Rc) (mP : Rc) (mN : Ar) (mO : Ar) (p1 : Int32) {mU' : Rc} {mO' : Ar} (hf : fX10_tries NN mY mU mP mN mO p1 = some (mU', mO')) : zMv l yX10_tries (Cond.code yX10_tries cX10_tries 3 none :: lw_g) rX10_tries (dC, dI) [(cI, .int), (cB, .byte)] [.ref (bV 0), .int p1] sz (kX10 cI cB bV (bP 0) (bS 0) (bW 0) (bN 0) (bO 0) mZ mY mB mL mU mJ mK mG mA ++ kX8 cI cB bP mP ++ kA8 cI cB bN mN ++ kA8 cI cB bO mO) (kX10 cI cB bV (bP 0) (bS 0) (bW 0) (bN 0) (bO 0) mZ mY mB mL mU' mJ mK mG mA ++ kX8 cI cB bP mP ++ kA8 cI cB bN mN ++ kA8 cI cB bO mO') := by
  refine zSt (cc := cX10_tries) (maxL := 3) (ret := none) (own := RX10) (fun A => zQv (dC, dI) [(cI, .int), (cB, .byte)] A (kX10 cI cB bV (bP 0) (bS 0) (bW 0) (bN 0) (bO 0) mZ mY mB mL mU' mJ mK mG mA ++ kX8 cI cB bP mP ++ kA8 cI cB bN mN ++ kA8 cI cB bO mO')) (by decide) rfl rfl (Nat.le_of_ble_eq_true rfl) ?_
  intro p e s m below meth c ls A H locs C hK hA hP hD hS hl
  generalize hQ : MQ below (zQv (dC, dI) [(cI, .int), (cB, .byte)] A (kX10 cI cB bV (bP 0) (bS 0) (bW 0) (bN 0) (bO 0) mZ mY mB mL mU' mJ mK mG mA ++ kX8 cI cB bP mP ++ kA8 cI cB bN mN ++ kA8 cI cB bO mO')) _ s 0 0 A = QQ
  generalize ([.ref (bV 0), .int p1] : List Value).toArray = args at C hQ ⊢
  have hl : lv_has ls 3 [(0, .ref (bV 0)), (1, .int p1)] := hl
  unfold fX10_tries at hf
  refine lv_iconst (v := 0) C.1.1 C.1.2.1 dX10_tries_0 (by decide) ?_
  refine lv_istore_n (lv' := [(2, .int (0 : Int32)), (0, .ref (bV 0)), (1, .int p1)]) C.1.1 C.1.2.1 dX10_tries_1 rfl hl (by decide) rfl (fun ls hl => ?_)
  obtain ⟨J26_2, eJ26_2, hf⟩ := zJn_el hf
  have hJ26_2 : ∀ (mO_1 : Ar), J26_2 mO_1 = some (mU', mO') → ∀ (H : Heap) (locs : List Loc), va_P (dC, dI) vwCl (kX10 cI cB bV (bP 0) (bS 0) (bW 0) (bN 0) (bO 0) mZ mY mB mL mU mJ mK mG mA ++ kX8 cI cB bP mP ++ kA8 cI cB bN mN ++ kA8 cI cB bO mO_1) H → va_D A (kX10 cI cB bV (bP 0) (bS 0) (bW 0) (bN 0) (bO 0) mZ mY mB mL mU mJ mK mG mA ++ kX8 cI cB bP mP ++ kA8 cI cB bN mN ++ kA8 cI cB bO mO_1) → va_S A s.heap H locs → ∀ (ls : Array Slot), lv_has ls 3 [(0, .ref (bV 0)), (1, .int p1)] → W p l e rX10_tries s m args below meth c H locs 0 0 QQ (F0 m 26 ls []) := by
    intro mO_1 hf H locs hP hD hS ls hl
    rw [eJ26_2] at hf
    refine lv_aload_n C.1.1 C.1.2.1 dX10_tries_26 rfl (lv_at hl 0 rfl) ?_
    refine lv_iload_n C.1.1 C.1.2.1 dX10_tries_27 rfl (lv_at hl 1 rfl) ?_
    refine lv_aload_n C.1.1 C.1.2.1 dX10_tries_28 rfl (lv_at hl 0 rfl) ?_
    refine zGet (.ref (bO 0)) C.1 wuX10 hK hP 0 rfl rfl 22 (by decide) wfX10_47 rfl rfl dX10_tries_29 ?_
    obtain ⟨mU_3, mO_4, hg, hf⟩ := zB2_el hf
    refine zCVv (As := [.int p1, .ref (bO 0)]) (rest := []) (wr := (kA8 cI cB bN mN)) (wn := (kX10 cI cB bV (bP 0) (bS 0) (bW 0) (bN 0) (bO 0) mZ mY mB mL mU_3 mJ mK mG mA ++ kX8 cI cB bP mP ++ kA8 cI cB bN mN ++ kA8 cI cB bO mO_4)) C.1 hK hA hP hD hS [0, 1, 2, 3, 4, 5, 6, 7, 8, 9, 10, 11, 12, 13, 14, 15, 16, 17, 18, 19, 20, 21, 22, 23, 24, 26] [25] [1, 2, 3, 4, 5, 6, 7, 8, 9, 10, 11, 12, 13, 14, 15, 16, 17, 18, 19, 20, 21, 22, 23, 24, 25, 0, 26] 0 (mtX10_does l dC dI cI cB bV bP bS bW bN bO bO H.size NN mZ mY mB mL mU mJ mK mG mA mP mO_1 p1 hg) (zCwV 2 C.1 wlX10_320 wiX10_does ws_X10_does wnX10 wkX10_does rfl rfl (by decide +kernel) ⟨Nat.le_of_ble_eq_true rfl, Nat.le_of_ble_eq_true rfl⟩) rfl rfl (by decide +kernel) rfl rfl rfl rfl hl.1 (Nat.le_of_ble_eq_true rfl) dX10_tries_32 ⟨Nat.zero_le _, Nat.zero_le _⟩ rfl (fun H locs hP hD hS => ?_)
    cases hf
    rw [← hQ]
    exact zRv C hK hP hD hS dX10_tries_35
  refine zLp2_ind (o := (mU', mO')) (P := fun (x5 : Int32) (mO_6 : Ar) => ∀ (H : Heap) (locs : List Loc), va_P (dC, dI) vwCl (kX10 cI cB bV (bP 0) (bS 0) (bW 0) (bN 0) (bO 0) mZ mY mB mL mU mJ mK mG mA ++ kX8 cI cB bP mP ++ kA8 cI cB bN mN ++ kA8 cI cB bO mO_6) H → va_D A (kX10 cI cB bV (bP 0) (bS 0) (bW 0) (bN 0) (bO 0) mZ mY mB mL mU mJ mK mG mA ++ kX8 cI cB bP mP ++ kA8 cI cB bN mN ++ kA8 cI cB bO mO_6) → va_S A s.heap H locs → ∀ (ls : Array Slot), lv_has ls 3 [(0, .ref (bV 0)), (1, .int p1), (2, .int x5)] → W p l e rX10_tries s m args below meth c H locs 0 0 QQ (F0 m 2 ls [])) (fun go7 ihgo7 x5 mO_6 hf H locs hP hD hS ls hl => ?_) _ (0 : Int32) mO hf H locs hP hD hS ls (lv_sub hl [1, 2, 0] rfl)
  refine lv_iload_n C.1.1 C.1.2.1 dX10_tries_2 rfl (lv_at hl 2 rfl) ?_
  refine lv_bipush (v := 8) C.1.1 C.1.2.1 dX10_tries_3 (by decide) ?_
  refine lv_icmp_ge (tgt := 26) C.1.1 C.1.2.1 dX10_tries_5 (by decide) (fun hc => ?_) (fun hc => ?_)
  · replace hf := zIf_t hf hc
    exact hJ26_2 mO_6 hf H locs hP hD hS ls (lv_sub hl [0, 1] rfl)
  · replace hf := zIf_f hf hc
    refine lv_aload_n C.1.1 C.1.2.1 dX10_tries_8 rfl (lv_at hl 0 rfl) ?_
    refine zGet (.ref (bO 0)) C.1 wuX10 hK hP 0 rfl rfl 22 (by decide) wfX10_47 rfl rfl dX10_tries_9 ?_
    refine lv_iload_n C.1.1 C.1.2.1 dX10_tries_12 rfl (lv_at hl 2 rfl) ?_
    refine lv_aload_n C.1.1 C.1.2.1 dX10_tries_13 rfl (lv_at hl 0 rfl) ?_
    refine zGet (.ref (bN 0)) C.1 wuX10 hK hP 0 rfl rfl 21 (by decide) wfX10_43 rfl rfl dX10_tries_14 ?_
    refine lv_iload_n C.1.1 C.1.2.1 dX10_tries_17 rfl (lv_at hl 2 rfl) ?_
    obtain ⟨hib, hf⟩ := zGd_el hf
    refine va_iald C.1.1 C.1.2.1 hK.1 hP 25 0 rfl rfl hib dX10_tries_18 ?_
    obtain ⟨hib, hf⟩ := zGd_el hf
    obtain ⟨mO_8, emO_8, hf⟩ := zLet_el hf
    refine zIast (kX10 cI cB bV (bP 0) (bS 0) (bW 0) (bN 0) (bO 0) mZ mY mB mL mU mJ mK mG mA ++ kX8 cI cB bP mP ++ kA8 cI cB bN mN ++ kA8 cI cB bO mO_8) C.1 hK hP hD hS 26 0 rfl rfl hib dX10_tries_19 (by rw [emO_8]; rfl) (fun H locs hP hD hS => ?_)
    obtain ⟨x9, ex9, hf⟩ := zLet_el hf
    refine lv_iinc (v := x9) (lv' := [(2, .int x9), (0, .ref (bV 0)), (1, .int p1)]) C.1.1 C.1.2.1 dX10_tries_20 hl (k := 2) rfl (by rw [ex9]; rfl) (by decide) rfl (fun ls hl => ?_)
    refine lv_goto (tgt := 2) C.1.1 C.1.2.1 dX10_tries_23 (by decide) ?_
    exact ihgo7 x9 mO_8 hf H locs hP hD hS ls (lv_sub hl [1, 2, 0] rfl)
def fX10_changes (NN : Nat) (mZ : Rc) (mY : Rc) (mU : Rc) (mP : Rc) (mN : Ar) (mO : Ar) (p1 : Int32) (p2 : Int32) : Option (Int32 × Rc × Rc × Ar) :=
  zLet (rs mZ 0 (fun _ => (0 : Int32))) fun mZ_1 =>
  if (mY 9 0) = 0 then (
    zB2 (fX10_refused mZ_1 (4 : Int32)) fun v11 mZ_12 =>
    some (v11, mZ_12, mU, mO)
  ) else (
    zB1 (fX10_isBlock mY mP p1) fun v2 =>
    zJn (fun (_ : Unit) =>
        zB2 (fX10_refused mZ_1 (1 : Int32)) fun v4 mZ_5 =>
        some (v4, mZ_5, mU, mO)
      ) fun J36_3 =>
    if v2 = 0 then (
      J36_3 ()
    ) else (
      zB1 (fX10_in p2 (0 : Int32) (7 : Int32)) fun v6 =>
      if v6 = 0 then (
        J36_3 ()
      ) else (
        zB2 (fX10_tries NN mY mU mP mN mO p1) fun mU_7 mO_8 =>
        zGd (inb p2 8) <|
        zGd (inb p2 8) <|
        zB2 (fX10_done mZ_1 ((mO_8 p2.toNatClampNeg) ^^^ (mN p2.toNatClampNeg))) fun v9 mZ_10 =>
        some (v9, mZ_10, mU_7, mO_8)
      )
    )
  )
abbrev rX10_changes : Room := { frames := 4, cells := 0, slots := 0, locals := 93 }
set_option maxHeartbeats 4000000 in
set_option maxRecDepth 100000 in
theorem mtX10_changes (l : Launch) (dC : Nat → ClassId) (dI : Nat → Nat → Nat) (cI cB : ClassId) (bV bP bS bW bN bO : Nat → Nat) (sz : Nat) (NN : Nat) (mZ : Rc) (mY : Rc) (mB : Rc) (mL : Rc) (mU : Rc) (mJ : Rc) (mK : Rc) (mG : Rc) (mA : Rc) (mP : Rc) (mN : Ar) (mO : Ar) (p1 : Int32) (p2 : Int32) {ov : Int32} {mZ' : Rc} {mU' : Rc} {mO' : Ar} (hf : fX10_changes NN mZ mY mU mP mN mO p1 p2 = some (ov, mZ', mU', mO')) : zMi l yX10_changes (Cond.code yX10_changes cX10_changes 3 (some .int) :: lw_g) rX10_changes (dC, dI) [(cI, .int), (cB, .byte)] [.ref (bV 0), .int p1, .int p2] sz (kX10 cI cB bV (bP 0) (bS 0) (bW 0) (bN 0) (bO 0) mZ mY mB mL mU mJ mK mG mA ++ kX8 cI cB bP mP ++ kA8 cI cB bN mN ++ kA8 cI cB bO mO) ov (kX10 cI cB bV (bP 0) (bS 0) (bW 0) (bN 0) (bO 0) mZ' mY mB mL mU' mJ mK mG mA ++ kX8 cI cB bP mP ++ kA8 cI cB bN mN ++ kA8 cI cB bO mO') := by
  refine zSt (cc := cX10_changes) (maxL := 3) (ret := (some .int)) (own := RX10) (fun A => zQi (dC, dI) [(cI, .int), (cB, .byte)] A ov (kX10 cI cB bV (bP 0) (bS 0) (bW 0) (bN 0) (bO 0) mZ' mY mB mL mU' mJ mK mG mA ++ kX8 cI cB bP mP ++ kA8 cI cB bN mN ++ kA8 cI cB bO mO')) (by decide) rfl rfl (Nat.le_of_ble_eq_true rfl) ?_
  intro p e s m below meth c ls A H locs C hK hA hP hD hS hl
  generalize hQ : MQ below (zQi (dC, dI) [(cI, .int), (cB, .byte)] A ov (kX10 cI cB bV (bP 0) (bS 0) (bW 0) (bN 0) (bO 0) mZ' mY mB mL mU' mJ mK mG mA ++ kX8 cI cB bP mP ++ kA8 cI cB bN mN ++ kA8 cI cB bO mO')) _ s 0 0 A = QQ
  generalize ([.ref (bV 0), .int p1, .int p2] : List Value).toArray = args at C hQ ⊢
  have hl : lv_has ls 3 [(0, .ref (bV 0)), (1, .int p1), (2, .int p2)] := hl
  unfold fX10_changes at hf
  refine lv_aload_n C.1.1 C.1.2.1 dX10_changes_0 rfl (lv_at hl 0 rfl) ?_
  refine lv_iconst (v := 0) C.1.1 C.1.2.1 dX10_changes_1 (by decide) ?_
  obtain ⟨mZ_1, emZ_1, hf⟩ := zLet_el hf
  refine zPut (ty := .int) (kX10 cI cB bV (bP 0) (bS 0) (bW 0) (bN 0) (bO 0) mZ_1 mY mB mL mU mJ mK mG mA ++ kX8 cI cB bP mP ++ kA8 cI cB bN mN ++ kA8 cI cB bO mO) C.1 wuX10 tyX10 tyX10_ok nmX10 hK hP hD hS 0 rfl rfl 0 (by decide) wfX10_86 rfl rfl (by decide +kernel) rfl rfl (Nat.le_of_ble_eq_true rfl) dX10_changes_2 (by rw [emZ_1]; rfl) (fun H locs hP hD hS => ?_)
  refine lv_aload_n C.1.1 C.1.2.1 dX10_changes_5 rfl (lv_at hl 0 rfl) ?_
  refine zGet (.int (mY 9 0)) C.1 wuX10 hK hP 0 rfl rfl 9 (by decide) wfX10_230 rfl rfl dX10_changes_6 ?_
  refine lv_if_ne (tgt := 18) C.1.1 C.1.2.1 dX10_changes_9 (by decide) (fun hc => ?_) (fun hc => ?_)
  · replace hf := zIf_f hf hc
    refine lv_aload_n C.1.1 C.1.2.1 dX10_changes_18 rfl (lv_at hl 0 rfl) ?_
    refine lv_iload_n C.1.1 C.1.2.1 dX10_changes_19 rfl (lv_at hl 1 rfl) ?_
    obtain ⟨v2, hg, hf⟩ := zB1_el hf
    refine zCVi (As := [.int p1]) (rest := []) (wr := (kA8 cI cB bN mN ++ kA8 cI cB bO mO)) (wn := (kX10 cI cB bV (bP 0) (bS 0) (bW 0) (bN 0) (bO 0) mZ_1 mY mB mL mU mJ mK mG mA ++ kX8 cI cB bP mP ++ kA8 cI cB bN mN ++ kA8 cI cB bO mO)) C.1 hK hA hP hD hS [0, 1, 2, 3, 4, 5, 6, 7, 8, 9, 10, 11, 12, 13, 14, 15, 16, 17, 18, 19, 20, 21, 22, 23, 24] [25, 26] [2, 3, 4, 5, 6, 7, 8, 9, 10, 11, 12, 13, 14, 15, 16, 17, 18, 19, 20, 21, 22, 23, 24, 25, 26, 0, 1] 0 (mtX10_isBlock l dC dI cI cB bV bP bS bW bN bO H.size mZ_1 mY mB mL mU mJ mK mG mA mP p1 hg) (zCwV 1 C.1 wlX10_269 wiX10_isBlock ws_X10_isBlock wnX10 wkX10_isBlock rfl rfl (by decide +kernel) ⟨Nat.le_of_ble_eq_true rfl, Nat.le_of_ble_eq_true rfl⟩) rfl rfl (by decide +kernel) rfl rfl rfl rfl hl.1 (Nat.le_of_ble_eq_true rfl) dX10_changes_20 ⟨Nat.zero_le _, Nat.zero_le _⟩ rfl (fun H locs hP hD hS => ?_)
    obtain ⟨J36_3, eJ36_3, hf⟩ := zJn_el hf
    have hJ36_3 : ∀ (u : Unit), J36_3 u = some (ov, mZ', mU', mO') → ∀ (H : Heap) (locs : List Loc), va_P (dC, dI) vwCl (kX10 cI cB bV (bP 0) (bS 0) (bW 0) (bN 0) (bO 0) mZ_1 mY mB mL mU mJ mK mG mA ++ kX8 cI cB bP mP ++ kA8 cI cB bN mN ++ kA8 cI cB bO mO) H → va_D A (kX10 cI cB bV (bP 0) (bS 0) (bW 0) (bN 0) (bO 0) mZ_1 mY mB mL mU mJ mK mG mA ++ kX8 cI cB bP mP ++ kA8 cI cB bN mN ++ kA8 cI cB bO mO) → va_S A s.heap H locs → ∀ (ls : Array Slot), lv_has ls 3 [(0, .ref (bV 0))] → W p l e rX10_changes s m args below meth c H locs 0 0 QQ (F0 m 36 ls []) := by
      intro u hf H locs hP hD hS ls hl
      rw [eJ36_3] at hf
      refine lv_aload_n C.1.1 C.1.2.1 dX10_changes_36 rfl (lv_at hl 0 rfl) ?_
      refine lv_iconst (v := 1) C.1.1 C.1.2.1 dX10_changes_37 (by decide) ?_
      obtain ⟨v4, mZ_5, hg, hf⟩ := zB2_el hf
      refine zCVi (As := [.int (1 : Int32)]) (rest := []) (wr := (kX8 cI cB bP mP ++ kA8 cI cB bN mN ++ kA8 cI cB bO mO)) (wn := (kX10 cI cB bV (bP 0) (bS 0) (bW 0) (bN 0) (bO 0) mZ_5 mY mB mL mU mJ mK mG mA ++ kX8 cI cB bP mP ++ kA8 cI cB bN mN ++ kA8 cI cB bO mO)) C.1 hK hA hP hD hS [0, 1, 2, 3, 4, 5, 6, 7, 8, 9, 10, 11, 12, 13] [14, 15, 16, 17, 18, 19, 20, 21, 22, 23, 24, 25, 26] [13, 14, 15, 16, 17, 18, 19, 20, 21, 22, 23, 24, 25, 26, 0, 1, 2, 3, 4, 5, 6, 7, 8, 9, 10, 11, 12] 0 (mtX10_refused l dC dI cI cB bV bP bS bW bN bO H.size mZ_1 mY mB mL mU mJ mK mG mA (1 : Int32) hg) (zCwV 1 C.1 wlX10_221 wiX10_refused ws_X10_refused wnX10 wkX10_refused rfl rfl (by decide +kernel) ⟨Nat.le_of_ble_eq_true rfl, Nat.le_of_ble_eq_true rfl⟩) rfl rfl (by decide +kernel) rfl rfl rfl rfl hl.1 (Nat.le_of_ble_eq_true rfl) dX10_changes_38 ⟨Nat.zero_le _, Nat.zero_le _⟩ rfl (fun H locs hP hD hS => ?_)
      cases hf
      rw [← hQ]
      exact zRi C hK hP hD hS dX10_changes_41
    refine lv_if_eq (tgt := 36) C.1.1 C.1.2.1 dX10_changes_23 (by decide) (fun hc => ?_) (fun hc => ?_)
    · replace hf := zIf_t hf hc
      exact hJ36_3 () hf H locs hP hD hS ls (lv_sub hl [0] rfl)
    · replace hf := zIf_f hf hc
      refine lv_iload_n C.1.1 C.1.2.1 dX10_changes_26 rfl (lv_at hl 2 rfl) ?_
      refine lv_iconst (v := 0) C.1.1 C.1.2.1 dX10_changes_27 (by decide) ?_
      refine lv_bipush (v := 7) C.1.1 C.1.2.1 dX10_changes_28 (by decide) ?_
      obtain ⟨v6, hg, hf⟩ := zB1_el hf
      refine zCSi (As := [.int p2, .int (0 : Int32), .int (7 : Int32)]) (rest := []) (wr := (kX10 cI cB bV (bP 0) (bS 0) (bW 0) (bN 0) (bO 0) mZ_1 mY mB mL mU mJ mK mG mA ++ kX8 cI cB bP mP ++ kA8 cI cB bN mN ++ kA8 cI cB bO mO)) (wn := (kX10 cI cB bV (bP 0) (bS 0) (bW 0) (bN 0) (bO 0) mZ_1 mY mB mL mU mJ mK mG mA ++ kX8 cI cB bP mP ++ kA8 cI cB bN mN ++ kA8 cI cB bO mO)) C.1 hK hA hP hD hS [] [0, 1, 2, 3, 4, 5, 6, 7, 8, 9, 10, 11, 12, 13, 14, 15, 16, 17, 18, 19, 20, 21, 22, 23, 24, 25, 26] [0, 1, 2, 3, 4, 5, 6, 7, 8, 9, 10, 11, 12, 13, 14, 15, 16, 17, 18, 19, 20, 21, 22, 23, 24, 25, 26] (mtX10_in l dC dI cI cB H.size p2 (0 : Int32) (7 : Int32) hg) (zCwS 3 C.1 wlX10_167 wtX10_in wnX10 wkX10_in rfl rfl (by decide +kernel) ⟨Nat.le_of_ble_eq_true rfl, Nat.le_of_ble_eq_true rfl⟩) rfl rfl (by decide +kernel) rfl rfl hl.1 (Nat.le_of_ble_eq_true rfl) dX10_changes_30 ⟨Nat.zero_le _, Nat.zero_le _⟩ rfl (fun H locs hP hD hS => ?_)
      refine lv_if_ne (tgt := 42) C.1.1 C.1.2.1 dX10_changes_33 (by decide) (fun hc => ?_) (fun hc => ?_)
      · replace hf := zIf_f hf hc
        refine lv_aload_n C.1.1 C.1.2.1 dX10_changes_42 rfl (lv_at hl 0 rfl) ?_
        refine lv_iload_n C.1.1 C.1.2.1 dX10_changes_43 rfl (lv_at hl 1 rfl) ?_
        obtain ⟨mU_7, mO_8, hg, hf⟩ := zB2_el hf
        refine zCVv (As := [.int p1]) (rest := []) (wr := ([] : va_W)) (wn := (kX10 cI cB bV (bP 0) (bS 0) (bW 0) (bN 0) (bO 0) mZ_1 mY mB mL mU_7 mJ mK mG mA ++ kX8 cI cB bP mP ++ kA8 cI cB bN mN ++ kA8 cI cB bO mO_8)) C.1 hK hA hP hD hS [0, 1, 2, 3, 4, 5, 6, 7, 8, 9, 10, 11, 12, 13, 14, 15, 16, 17, 18, 19, 20, 21, 22, 23, 24, 25, 26] [] [0, 1, 2, 3, 4, 5, 6, 7, 8, 9, 10, 11, 12, 13, 14, 15, 16, 17, 18, 19, 20, 21, 22, 23, 24, 25, 26] 0 (mtX10_tries l dC dI cI cB bV bP bS bW bN bO H.size NN mZ_1 mY mB mL mU mJ mK mG mA mP mN mO p1 hg) (zCwV 1 C.1 wlX10_327 wiX10_tries ws_X10_tries wnX10 wkX10_tries rfl rfl (by decide +kernel) ⟨Nat.le_of_ble_eq_true rfl, Nat.le_of_ble_eq_true rfl⟩) rfl rfl (by decide +kernel) rfl rfl rfl rfl hl.1 (Nat.le_of_ble_eq_true rfl) dX10_changes_44 ⟨Nat.zero_le _, Nat.zero_le _⟩ rfl (fun H locs hP hD hS => ?_)
        refine lv_aload_n C.1.1 C.1.2.1 dX10_changes_47 rfl (lv_at hl 0 rfl) ?_
        refine lv_aload_n C.1.1 C.1.2.1 dX10_changes_48 rfl (lv_at hl 0 rfl) ?_
        refine zGet (.ref (bO 0)) C.1 wuX10 hK hP 0 rfl rfl 22 (by decide) wfX10_47 rfl rfl dX10_changes_49 ?_
        refine lv_iload_n C.1.1 C.1.2.1 dX10_changes_52 rfl (lv_at hl 2 rfl) ?_
        obtain ⟨hib, hf⟩ := zGd_el hf
        refine va_iald C.1.1 C.1.2.1 hK.1 hP 26 0 rfl rfl hib dX10_changes_53 ?_
        refine lv_aload_n C.1.1 C.1.2.1 dX10_changes_54 rfl (lv_at hl 0 rfl) ?_
        refine zGet (.ref (bN 0)) C.1 wuX10 hK hP 0 rfl rfl 21 (by decide) wfX10_43 rfl rfl dX10_changes_55 ?_
        refine lv_iload_n C.1.1 C.1.2.1 dX10_changes_58 rfl (lv_at hl 2 rfl) ?_
        obtain ⟨hib, hf⟩ := zGd_el hf
        refine va_iald C.1.1 C.1.2.1 hK.1 hP 25 0 rfl rfl hib dX10_changes_59 ?_
        refine lv_ixor C.1.1 C.1.2.1 dX10_changes_60 ?_
        obtain ⟨v9, mZ_10, hg, hf⟩ := zB2_el hf
        refine zCVi (As := [.int ((mO_8 p2.toNatClampNeg) ^^^ (mN p2.toNatClampNeg))]) (rest := []) (wr := (kX8 cI cB bP mP ++ kA8 cI cB bN mN ++ kA8 cI cB bO mO_8)) (wn := (kX10 cI cB bV (bP 0) (bS 0) (bW 0) (bN 0) (bO 0) mZ_10 mY mB mL mU_7 mJ mK mG mA ++ kX8 cI cB bP mP ++ kA8 cI cB bN mN ++ kA8 cI cB bO mO_8)) C.1 hK hA hP hD hS [0, 1, 2, 3, 4, 5, 6, 7, 8, 9, 10, 11, 12, 13] [14, 15, 16, 17, 18, 19, 20, 21, 22, 23, 24, 25, 26] [13, 14, 15, 16, 17, 18, 19, 20, 21, 22, 23, 24, 25, 26, 0, 1, 2, 3, 4, 5, 6, 7, 8, 9, 10, 11, 12] 0 (mtX10_done l dC dI cI cB bV bP bS bW bN bO H.size mZ_1 mY mB mL mU_7 mJ mK mG mA ((mO_8 p2.toNatClampNeg) ^^^ (mN p2.toNatClampNeg)) hg) (zCwV 1 C.1 wlX10_233 wiX10_done ws_X10_done wnX10 wkX10_done rfl rfl (by decide +kernel) ⟨Nat.le_of_ble_eq_true rfl, Nat.le_of_ble_eq_true rfl⟩) rfl rfl (by decide +kernel) rfl rfl rfl rfl hl.1 (Nat.le_of_ble_eq_true rfl) dX10_changes_61 ⟨Nat.zero_le _, Nat.zero_le _⟩ rfl (fun H locs hP hD hS => ?_)
        cases hf
        rw [← hQ]
        exact zRi C hK hP hD hS dX10_changes_64
      · replace hf := zIf_t hf hc
        exact hJ36_3 () hf H locs hP hD hS ls (lv_sub hl [0] rfl)
  · replace hf := zIf_t hf hc
    refine lv_aload_n C.1.1 C.1.2.1 dX10_changes_12 rfl (lv_at hl 0 rfl) ?_
    refine lv_iconst (v := 4) C.1.1 C.1.2.1 dX10_changes_13 (by decide) ?_
    obtain ⟨v11, mZ_12, hg, hf⟩ := zB2_el hf
    refine zCVi (As := [.int (4 : Int32)]) (rest := []) (wr := (kX8 cI cB bP mP ++ kA8 cI cB bN mN ++ kA8 cI cB bO mO)) (wn := (kX10 cI cB bV (bP 0) (bS 0) (bW 0) (bN 0) (bO 0) mZ_12 mY mB mL mU mJ mK mG mA ++ kX8 cI cB bP mP ++ kA8 cI cB bN mN ++ kA8 cI cB bO mO)) C.1 hK hA hP hD hS [0, 1, 2, 3, 4, 5, 6, 7, 8, 9, 10, 11, 12, 13] [14, 15, 16, 17, 18, 19, 20, 21, 22, 23, 24, 25, 26] [13, 14, 15, 16, 17, 18, 19, 20, 21, 22, 23, 24, 25, 26, 0, 1, 2, 3, 4, 5, 6, 7, 8, 9, 10, 11, 12] 0 (mtX10_refused l dC dI cI cB bV bP bS bW bN bO H.size mZ_1 mY mB mL mU mJ mK mG mA (4 : Int32) hg) (zCwV 1 C.1 wlX10_221 wiX10_refused ws_X10_refused wnX10 wkX10_refused rfl rfl (by decide +kernel) ⟨Nat.le_of_ble_eq_true rfl, Nat.le_of_ble_eq_true rfl⟩) rfl rfl (by decide +kernel) rfl rfl rfl rfl hl.1 (Nat.le_of_ble_eq_true rfl) dX10_changes_14 ⟨Nat.zero_le _, Nat.zero_le _⟩ rfl (fun H locs hP hD hS => ?_)
    cases hf
    rw [← hQ]
    exact zRi C hK hP hD hS dX10_changes_17
def fX10_still_L32 (mN : Ar) (mO_4 : Ar) (J69_6 : Int32 → Option (Int32 × Rc × Rc × Ar)) (n : Nat) (x11 : Int32) (x12 : Int32) : Option (Int32 × Rc × Rc × Ar) := zLp2 (fun (go13 : Int32 → Int32 → Option (Int32 × Rc × Rc × Ar)) (x11 : Int32) (x12 : Int32) =>
    if (8 : Int32) ≤ x12 then (
      J69_6 x11
    ) else (
      if x11 = 0 then (
        zLet (x12 + 1) fun x14 =>
        go13 (0 : Int32) x14
      ) else (
        zGd (inb x12 8) <|
        zGd (inb x12 8) <|
        if (mO_4 x12.toNatClampNeg) = (mN x12.toNatClampNeg) then (
          zLet (x12 + 1) fun x16 =>
          go13 (1 : Int32) x16
        ) else (
          zLet (x12 + 1) fun x15 =>
          go13 (0 : Int32) x15
        )
      )
    )
  ) n x11 x12
def fX10_still (NN : Nat) (mZ : Rc) (mY : Rc) (mU : Rc) (mP : Rc) (mN : Ar) (mO : Ar) (p1 : Int32) : Option (Int32 × Rc × Rc × Ar) :=
  zLet (rs mZ 0 (fun _ => (0 : Int32))) fun mZ_1 =>
  zB1 (fX10_blocked mY mP p1) fun v2 =>
  if v2 ≤ 0 then (
    zB2 (fX10_tries NN mY mU mP mN mO p1) fun mU_3 mO_4 =>
    zJn (fun (x5 : Int32) =>
        zJn (fun (t7 : Int32) =>
            zB2 (fX10_done mZ_1 t7) fun v9 mZ_10 =>
            some (v9, mZ_10, mU_3, mO_4)
          ) fun J79_8 =>
        if x5 = 0 then (
          J79_8 (0 : Int32)
        ) else (
          J79_8 (1 : Int32)
        )
      ) fun J69_6 =>
    fX10_still_L32 mN mO_4 J69_6 NN (1 : Int32) (0 : Int32)
  ) else (
    zB1 (fX10_blocked mY mP p1) fun v17 =>
    zB2 (fX10_refused mZ_1 v17) fun v18 mZ_19 =>
    some (v18, mZ_19, mU, mO)
  )
abbrev rX10_still : Room := { frames := 4, cells := 0, slots := 0, locals := 93 }
set_option maxHeartbeats 4000000 in
set_option maxRecDepth 100000 in
theorem mtX10_still (l : Launch) (dC : Nat → ClassId) (dI : Nat → Nat → Nat) (cI cB : ClassId) (bV bP bS bW bN bO : Nat → Nat) (sz : Nat) (NN : Nat) (mZ : Rc) (mY : Rc) (mB : Rc) (mL : Rc) (mU : Rc) (mJ : Rc) (mK : Rc) (mG : Rc) (mA : Rc) (mP : Rc) (mN : Ar) (mO : Ar) (p1 : Int32) {ov : Int32} {mZ' : Rc} {mU' : Rc} {mO' : Ar} (hf : fX10_still NN mZ mY mU mP mN mO p1 = some (ov, mZ', mU', mO')) : zMi l yX10_still (Cond.code yX10_still cX10_still 4 (some .int) :: lw_g) rX10_still (dC, dI) [(cI, .int), (cB, .byte)] [.ref (bV 0), .int p1] sz (kX10 cI cB bV (bP 0) (bS 0) (bW 0) (bN 0) (bO 0) mZ mY mB mL mU mJ mK mG mA ++ kX8 cI cB bP mP ++ kA8 cI cB bN mN ++ kA8 cI cB bO mO) ov (kX10 cI cB bV (bP 0) (bS 0) (bW 0) (bN 0) (bO 0) mZ' mY mB mL mU' mJ mK mG mA ++ kX8 cI cB bP mP ++ kA8 cI cB bN mN ++ kA8 cI cB bO mO') := by
  refine zSt (cc := cX10_still) (maxL := 4) (ret := (some .int)) (own := RX10) (fun A => zQi (dC, dI) [(cI, .int), (cB, .byte)] A ov (kX10 cI cB bV (bP 0) (bS 0) (bW 0) (bN 0) (bO 0) mZ' mY mB mL mU' mJ mK mG mA ++ kX8 cI cB bP mP ++ kA8 cI cB bN mN ++ kA8 cI cB bO mO')) (by decide) rfl rfl (Nat.le_of_ble_eq_true rfl) ?_
  intro p e s m below meth c ls A H locs C hK hA hP hD hS hl
  generalize hQ : MQ below (zQi (dC, dI) [(cI, .int), (cB, .byte)] A ov (kX10 cI cB bV (bP 0) (bS 0) (bW 0) (bN 0) (bO 0) mZ' mY mB mL mU' mJ mK mG mA ++ kX8 cI cB bP mP ++ kA8 cI cB bN mN ++ kA8 cI cB bO mO')) _ s 0 0 A = QQ
  generalize ([.ref (bV 0), .int p1] : List Value).toArray = args at C hQ ⊢
  have hl : lv_has ls 4 [(0, .ref (bV 0)), (1, .int p1)] := hl
  unfold fX10_still at hf
  refine lv_aload_n C.1.1 C.1.2.1 dX10_still_0 rfl (lv_at hl 0 rfl) ?_
  refine lv_iconst (v := 0) C.1.1 C.1.2.1 dX10_still_1 (by decide) ?_
  obtain ⟨mZ_1, emZ_1, hf⟩ := zLet_el hf
  refine zPut (ty := .int) (kX10 cI cB bV (bP 0) (bS 0) (bW 0) (bN 0) (bO 0) mZ_1 mY mB mL mU mJ mK mG mA ++ kX8 cI cB bP mP ++ kA8 cI cB bN mN ++ kA8 cI cB bO mO) C.1 wuX10 tyX10 tyX10_ok nmX10 hK hP hD hS 0 rfl rfl 0 (by decide) wfX10_86 rfl rfl (by decide +kernel) rfl rfl (Nat.le_of_ble_eq_true rfl) dX10_still_2 (by rw [emZ_1]; rfl) (fun H locs hP hD hS => ?_)
  refine lv_aload_n C.1.1 C.1.2.1 dX10_still_5 rfl (lv_at hl 0 rfl) ?_
  refine lv_iload_n C.1.1 C.1.2.1 dX10_still_6 rfl (lv_at hl 1 rfl) ?_
  obtain ⟨v2, hg, hf⟩ := zB1_el hf
  refine zCVi (As := [.int p1]) (rest := []) (wr := (kA8 cI cB bN mN ++ kA8 cI cB bO mO)) (wn := (kX10 cI cB bV (bP 0) (bS 0) (bW 0) (bN 0) (bO 0) mZ_1 mY mB mL mU mJ mK mG mA ++ kX8 cI cB bP mP ++ kA8 cI cB bN mN ++ kA8 cI cB bO mO)) C.1 hK hA hP hD hS [0, 1, 2, 3, 4, 5, 6, 7, 8, 9, 10, 11, 12, 13, 14, 15, 16, 17, 18, 19, 20, 21, 22, 23, 24] [25, 26] [2, 3, 4, 5, 6, 7, 8, 9, 10, 11, 12, 13, 14, 15, 16, 17, 18, 19, 20, 21, 22, 23, 24, 25, 26, 0, 1] 0 (mtX10_blocked l dC dI cI cB bV bP bS bW bN bO H.size mZ_1 mY mB mL mU mJ mK mG mA mP p1 hg) (zCwV 1 C.1 wlX10_324 wiX10_blocked ws_X10_blocked wnX10 wkX10_blocked rfl rfl (by decide +kernel) ⟨Nat.le_of_ble_eq_true rfl, Nat.le_of_ble_eq_true rfl⟩) rfl rfl (by decide +kernel) rfl rfl rfl rfl hl.1 (Nat.le_of_ble_eq_true rfl) dX10_still_7 ⟨Nat.zero_le _, Nat.zero_le _⟩ rfl (fun H locs hP hD hS => ?_)
  refine lv_if_le (tgt := 23) C.1.1 C.1.2.1 dX10_still_10 (by decide) (fun hc => ?_) (fun hc => ?_)
  · replace hf := zIf_t hf hc
    refine lv_aload_n C.1.1 C.1.2.1 dX10_still_23 rfl (lv_at hl 0 rfl) ?_
    refine lv_iload_n C.1.1 C.1.2.1 dX10_still_24 rfl (lv_at hl 1 rfl) ?_
    obtain ⟨mU_3, mO_4, hg, hf⟩ := zB2_el hf
    refine zCVv (As := [.int p1]) (rest := []) (wr := ([] : va_W)) (wn := (kX10 cI cB bV (bP 0) (bS 0) (bW 0) (bN 0) (bO 0) mZ_1 mY mB mL mU_3 mJ mK mG mA ++ kX8 cI cB bP mP ++ kA8 cI cB bN mN ++ kA8 cI cB bO mO_4)) C.1 hK hA hP hD hS [0, 1, 2, 3, 4, 5, 6, 7, 8, 9, 10, 11, 12, 13, 14, 15, 16, 17, 18, 19, 20, 21, 22, 23, 24, 25, 26] [] [0, 1, 2, 3, 4, 5, 6, 7, 8, 9, 10, 11, 12, 13, 14, 15, 16, 17, 18, 19, 20, 21, 22, 23, 24, 25, 26] 0 (mtX10_tries l dC dI cI cB bV bP bS bW bN bO H.size NN mZ_1 mY mB mL mU mJ mK mG mA mP mN mO p1 hg) (zCwV 1 C.1 wlX10_327 wiX10_tries ws_X10_tries wnX10 wkX10_tries rfl rfl (by decide +kernel) ⟨Nat.le_of_ble_eq_true rfl, Nat.le_of_ble_eq_true rfl⟩) rfl rfl (by decide +kernel) rfl rfl rfl rfl hl.1 (Nat.le_of_ble_eq_true rfl) dX10_still_25 ⟨Nat.zero_le _, Nat.zero_le _⟩ rfl (fun H locs hP hD hS => ?_)
    refine lv_iconst (v := 1) C.1.1 C.1.2.1 dX10_still_28 (by decide) ?_
    refine lv_istore_n (lv' := [(2, .int (1 : Int32)), (0, .ref (bV 0)), (1, .int p1)]) C.1.1 C.1.2.1 dX10_still_29 rfl hl (by decide) rfl (fun ls hl => ?_)
    refine lv_iconst (v := 0) C.1.1 C.1.2.1 dX10_still_30 (by decide) ?_
    refine lv_istore_n (lv' := [(3, .int (0 : Int32)), (2, .int (1 : Int32)), (0, .ref (bV 0)), (1, .int p1)]) C.1.1 C.1.2.1 dX10_still_31 rfl hl (by decide) rfl (fun ls hl => ?_)
    obtain ⟨J69_6, eJ69_6, hf⟩ := zJn_el hf
    have hJ69_6 : ∀ (x5 : Int32), J69_6 x5 = some (ov, mZ', mU', mO') → ∀ (H : Heap) (locs : List Loc), va_P (dC, dI) vwCl (kX10 cI cB bV (bP 0) (bS 0) (bW 0) (bN 0) (bO 0) mZ_1 mY mB mL mU_3 mJ mK mG mA ++ kX8 cI cB bP mP ++ kA8 cI cB bN mN ++ kA8 cI cB bO mO_4) H → va_D A (kX10 cI cB bV (bP 0) (bS 0) (bW 0) (bN 0) (bO 0) mZ_1 mY mB mL mU_3 mJ mK mG mA ++ kX8 cI cB bP mP ++ kA8 cI cB bN mN ++ kA8 cI cB bO mO_4) → va_S A s.heap H locs → ∀ (ls : Array Slot), lv_has ls 4 [(0, .ref (bV 0)), (2, .int x5)] → W p l e rX10_still s m args below meth c H locs 0 0 QQ (F0 m 69 ls []) := by
      intro x5 hf H locs hP hD hS ls hl
      rw [eJ69_6] at hf
      refine lv_aload_n C.1.1 C.1.2.1 dX10_still_69 rfl (lv_at hl 0 rfl) ?_
      refine lv_iload_n C.1.1 C.1.2.1 dX10_still_70 rfl (lv_at hl 1 rfl) ?_
      obtain ⟨J79_8, eJ79_8, hf⟩ := zJn_el hf
      have hJ79_8 : ∀ (t7 : Int32), J79_8 t7 = some (ov, mZ', mU', mO') → ∀ (H : Heap) (locs : List Loc), va_P (dC, dI) vwCl (kX10 cI cB bV (bP 0) (bS 0) (bW 0) (bN 0) (bO 0) mZ_1 mY mB mL mU_3 mJ mK mG mA ++ kX8 cI cB bP mP ++ kA8 cI cB bN mN ++ kA8 cI cB bO mO_4) H → va_D A (kX10 cI cB bV (bP 0) (bS 0) (bW 0) (bN 0) (bO 0) mZ_1 mY mB mL mU_3 mJ mK mG mA ++ kX8 cI cB bP mP ++ kA8 cI cB bN mN ++ kA8 cI cB bO mO_4) → va_S A s.heap H locs → ∀ (ls : Array Slot), lv_has ls 4 [] → W p l e rX10_still s m args below meth c H locs 0 0 QQ (F0 m 79 ls [.int t7, .ref (bV 0)]) := by
        intro t7 hf H locs hP hD hS ls hl
        rw [eJ79_8] at hf
        obtain ⟨v9, mZ_10, hg, hf⟩ := zB2_el hf
        refine zCVi (As := [.int t7]) (rest := []) (wr := (kX8 cI cB bP mP ++ kA8 cI cB bN mN ++ kA8 cI cB bO mO_4)) (wn := (kX10 cI cB bV (bP 0) (bS 0) (bW 0) (bN 0) (bO 0) mZ_10 mY mB mL mU_3 mJ mK mG mA ++ kX8 cI cB bP mP ++ kA8 cI cB bN mN ++ kA8 cI cB bO mO_4)) C.1 hK hA hP hD hS [0, 1, 2, 3, 4, 5, 6, 7, 8, 9, 10, 11, 12, 13] [14, 15, 16, 17, 18, 19, 20, 21, 22, 23, 24, 25, 26] [13, 14, 15, 16, 17, 18, 19, 20, 21, 22, 23, 24, 25, 26, 0, 1, 2, 3, 4, 5, 6, 7, 8, 9, 10, 11, 12] 0 (mtX10_done l dC dI cI cB bV bP bS bW bN bO H.size mZ_1 mY mB mL mU_3 mJ mK mG mA t7 hg) (zCwV 1 C.1 wlX10_233 wiX10_done ws_X10_done wnX10 wkX10_done rfl rfl (by decide +kernel) ⟨Nat.le_of_ble_eq_true rfl, Nat.le_of_ble_eq_true rfl⟩) rfl rfl (by decide +kernel) rfl rfl rfl rfl hl.1 (Nat.le_of_ble_eq_true rfl) dX10_still_79 ⟨Nat.zero_le _, Nat.zero_le _⟩ rfl (fun H locs hP hD hS => ?_)
        cases hf
        rw [← hQ]
        exact zRi C hK hP hD hS dX10_still_82
      refine lv_if_eq (tgt := 78) C.1.1 C.1.2.1 dX10_still_71 (by decide) (fun hc => ?_) (fun hc => ?_)
      · replace hf := zIf_t hf hc
        refine lv_iconst (v := 0) C.1.1 C.1.2.1 dX10_still_78 (by decide) ?_
        exact hJ79_8 (0 : Int32) hf H locs hP hD hS ls (lv_sub hl [] rfl)
      · replace hf := zIf_f hf hc
        refine lv_iconst (v := 1) C.1.1 C.1.2.1 dX10_still_74 (by decide) ?_
        refine lv_goto (tgt := 79) C.1.1 C.1.2.1 dX10_still_75 (by decide) ?_
        exact hJ79_8 (1 : Int32) hf H locs hP hD hS ls (lv_sub hl [] rfl)
    refine zLp2_ind (o := (ov, mZ', mU', mO')) (P := fun (x11 : Int32) (x12 : Int32) => ∀ (H : Heap) (locs : List Loc), va_P (dC, dI) vwCl (kX10 cI cB bV (bP 0) (bS 0) (bW 0) (bN 0) (bO 0) mZ_1 mY mB mL mU_3 mJ mK mG mA ++ kX8 cI cB bP mP ++ kA8 cI cB bN mN ++ kA8 cI cB bO mO_4) H → va_D A (kX10 cI cB bV (bP 0) (bS 0) (bW 0) (bN 0) (bO 0) mZ_1 mY mB mL mU_3 mJ mK mG mA ++ kX8 cI cB bP mP ++ kA8 cI cB bN mN ++ kA8 cI cB bO mO_4) → va_S A s.heap H locs → ∀ (ls : Array Slot), lv_has ls 4 [(0, .ref (bV 0)), (2, .int x11), (3, .int x12)] → W p l e rX10_still s m args below meth c H locs 0 0 QQ (F0 m 32 ls [])) (fun go13 ihgo13 x11 x12 hf H locs hP hD hS ls hl => ?_) _ (1 : Int32) (0 : Int32) hf H locs hP hD hS ls (lv_sub hl [2, 1, 0] rfl)
    refine lv_iload_n C.1.1 C.1.2.1 dX10_still_32 rfl (lv_at hl 2 rfl) ?_
    refine lv_bipush (v := 8) C.1.1 C.1.2.1 dX10_still_33 (by decide) ?_
    refine lv_icmp_ge (tgt := 69) C.1.1 C.1.2.1 dX10_still_35 (by decide) (fun hc => ?_) (fun hc => ?_)
    · replace hf := zIf_t hf hc
      exact hJ69_6 x11 hf H locs hP hD hS ls (lv_sub hl [0, 1] rfl)
    · replace hf := zIf_f hf hc
      refine lv_iload_n C.1.1 C.1.2.1 dX10_still_38 rfl (lv_at hl 1 rfl) ?_
      refine lv_if_eq (tgt := 61) C.1.1 C.1.2.1 dX10_still_39 (by decide) (fun hc => ?_) (fun hc => ?_)
      · replace hf := zIf_t hf hc
        refine lv_iconst (v := 0) C.1.1 C.1.2.1 dX10_still_61 (by decide) ?_
        refine lv_istore_n (lv' := [(2, .int (0 : Int32)), (0, .ref (bV 0)), (3, .int x12)]) C.1.1 C.1.2.1 dX10_still_62 rfl hl (by decide) rfl (fun ls hl => ?_)
        obtain ⟨x14, ex14, hf⟩ := zLet_el hf
        refine lv_iinc (v := x14) (lv' := [(3, .int x14), (2, .int (0 : Int32)), (0, .ref (bV 0))]) C.1.1 C.1.2.1 dX10_still_63 hl (k := 2) rfl (by rw [ex14]; rfl) (by decide) rfl (fun ls hl => ?_)
        refine lv_goto (tgt := 32) C.1.1 C.1.2.1 dX10_still_66 (by decide) ?_
        exact ihgo13 (0 : Int32) x14 hf H locs hP hD hS ls (lv_sub hl [2, 1, 0] rfl)
      · replace hf := zIf_f hf hc
        refine lv_aload_n C.1.1 C.1.2.1 dX10_still_42 rfl (lv_at hl 0 rfl) ?_
        refine zGet (.ref (bO 0)) C.1 wuX10 hK hP 0 rfl rfl 22 (by decide) wfX10_47 rfl rfl dX10_still_43 ?_
        refine lv_iload_n C.1.1 C.1.2.1 dX10_still_46 rfl (lv_at hl 2 rfl) ?_
        obtain ⟨hib, hf⟩ := zGd_el hf
        refine va_iald C.1.1 C.1.2.1 hK.1 hP 26 0 rfl rfl hib dX10_still_47 ?_
        refine lv_aload_n C.1.1 C.1.2.1 dX10_still_48 rfl (lv_at hl 0 rfl) ?_
        refine zGet (.ref (bN 0)) C.1 wuX10 hK hP 0 rfl rfl 21 (by decide) wfX10_43 rfl rfl dX10_still_49 ?_
        refine lv_iload_n C.1.1 C.1.2.1 dX10_still_52 rfl (lv_at hl 2 rfl) ?_
        obtain ⟨hib, hf⟩ := zGd_el hf
        refine va_iald C.1.1 C.1.2.1 hK.1 hP 25 0 rfl rfl hib dX10_still_53 ?_
        refine lv_icmp_ne (tgt := 61) C.1.1 C.1.2.1 dX10_still_54 (by decide) (fun hc => ?_) (fun hc => ?_)
        · replace hf := zIf_f hf hc
          refine lv_iconst (v := 0) C.1.1 C.1.2.1 dX10_still_61 (by decide) ?_
          refine lv_istore_n (lv' := [(2, .int (0 : Int32)), (0, .ref (bV 0)), (3, .int x12)]) C.1.1 C.1.2.1 dX10_still_62 rfl hl (by decide) rfl (fun ls hl => ?_)
          obtain ⟨x15, ex15, hf⟩ := zLet_el hf
          refine lv_iinc (v := x15) (lv' := [(3, .int x15), (2, .int (0 : Int32)), (0, .ref (bV 0))]) C.1.1 C.1.2.1 dX10_still_63 hl (k := 2) rfl (by rw [ex15]; rfl) (by decide) rfl (fun ls hl => ?_)
          refine lv_goto (tgt := 32) C.1.1 C.1.2.1 dX10_still_66 (by decide) ?_
          exact ihgo13 (0 : Int32) x15 hf H locs hP hD hS ls (lv_sub hl [2, 1, 0] rfl)
        · replace hf := zIf_t hf hc
          refine lv_iconst (v := 1) C.1.1 C.1.2.1 dX10_still_57 (by decide) ?_
          refine lv_goto (tgt := 62) C.1.1 C.1.2.1 dX10_still_58 (by decide) ?_
          refine lv_istore_n (lv' := [(2, .int (1 : Int32)), (0, .ref (bV 0)), (3, .int x12)]) C.1.1 C.1.2.1 dX10_still_62 rfl hl (by decide) rfl (fun ls hl => ?_)
          obtain ⟨x16, ex16, hf⟩ := zLet_el hf
          refine lv_iinc (v := x16) (lv' := [(3, .int x16), (2, .int (1 : Int32)), (0, .ref (bV 0))]) C.1.1 C.1.2.1 dX10_still_63 hl (k := 2) rfl (by rw [ex16]; rfl) (by decide) rfl (fun ls hl => ?_)
          refine lv_goto (tgt := 32) C.1.1 C.1.2.1 dX10_still_66 (by decide) ?_
          exact ihgo13 (1 : Int32) x16 hf H locs hP hD hS ls (lv_sub hl [2, 1, 0] rfl)
  · replace hf := zIf_f hf hc
    refine lv_aload_n C.1.1 C.1.2.1 dX10_still_13 rfl (lv_at hl 0 rfl) ?_
    refine lv_aload_n C.1.1 C.1.2.1 dX10_still_14 rfl (lv_at hl 0 rfl) ?_
    refine lv_iload_n C.1.1 C.1.2.1 dX10_still_15 rfl (lv_at hl 1 rfl) ?_
    obtain ⟨v17, hg, hf⟩ := zB1_el hf
    refine zCVi (As := [.int p1]) (rest := [.ref (bV 0)]) (wr := (kA8 cI cB bN mN ++ kA8 cI cB bO mO)) (wn := (kX10 cI cB bV (bP 0) (bS 0) (bW 0) (bN 0) (bO 0) mZ_1 mY mB mL mU mJ mK mG mA ++ kX8 cI cB bP mP ++ kA8 cI cB bN mN ++ kA8 cI cB bO mO)) C.1 hK hA hP hD hS [0, 1, 2, 3, 4, 5, 6, 7, 8, 9, 10, 11, 12, 13, 14, 15, 16, 17, 18, 19, 20, 21, 22, 23, 24] [25, 26] [2, 3, 4, 5, 6, 7, 8, 9, 10, 11, 12, 13, 14, 15, 16, 17, 18, 19, 20, 21, 22, 23, 24, 25, 26, 0, 1] 0 (mtX10_blocked l dC dI cI cB bV bP bS bW bN bO H.size mZ_1 mY mB mL mU mJ mK mG mA mP p1 hg) (zCwV 1 C.1 wlX10_324 wiX10_blocked ws_X10_blocked wnX10 wkX10_blocked rfl rfl (by decide +kernel) ⟨Nat.le_of_ble_eq_true rfl, Nat.le_of_ble_eq_true rfl⟩) rfl rfl (by decide +kernel) rfl rfl rfl rfl hl.1 (Nat.le_of_ble_eq_true rfl) dX10_still_16 ⟨Nat.zero_le _, Nat.zero_le _⟩ rfl (fun H locs hP hD hS => ?_)
    obtain ⟨v18, mZ_19, hg, hf⟩ := zB2_el hf
    refine zCVi (As := [.int v17]) (rest := []) (wr := (kX8 cI cB bP mP ++ kA8 cI cB bN mN ++ kA8 cI cB bO mO)) (wn := (kX10 cI cB bV (bP 0) (bS 0) (bW 0) (bN 0) (bO 0) mZ_19 mY mB mL mU mJ mK mG mA ++ kX8 cI cB bP mP ++ kA8 cI cB bN mN ++ kA8 cI cB bO mO)) C.1 hK hA hP hD hS [0, 1, 2, 3, 4, 5, 6, 7, 8, 9, 10, 11, 12, 13] [14, 15, 16, 17, 18, 19, 20, 21, 22, 23, 24, 25, 26] [13, 14, 15, 16, 17, 18, 19, 20, 21, 22, 23, 24, 25, 26, 0, 1, 2, 3, 4, 5, 6, 7, 8, 9, 10, 11, 12] 0 (mtX10_refused l dC dI cI cB bV bP bS bW bN bO H.size mZ_1 mY mB mL mU mJ mK mG mA v17 hg) (zCwV 1 C.1 wlX10_221 wiX10_refused ws_X10_refused wnX10 wkX10_refused rfl rfl (by decide +kernel) ⟨Nat.le_of_ble_eq_true rfl, Nat.le_of_ble_eq_true rfl⟩) rfl rfl (by decide +kernel) rfl rfl rfl rfl hl.1 (Nat.le_of_ble_eq_true rfl) dX10_still_19 ⟨Nat.zero_le _, Nat.zero_le _⟩ rfl (fun H locs hP hD hS => ?_)
    cases hf
    rw [← hQ]
    exact zRi C hK hP hD hS dX10_still_22
def fX10_name (mZ : Rc) (mY : Rc) (mP : Rc) (p1 : Int32) (p2 : Int32) : Option (Int32 × Rc) :=
  zB1 (fX10_isBlock mY mP p1) fun v1 =>
  zJn (fun (t2 : Int32) =>
      zLet (rs mZ 0 (fun _ => t2)) fun mZ_4 =>
      if (mZ_4 0 0) ≤ 0 then (
        zGd (inb (((8 : Int32) * p1) + p2) 96) <|
        some ((mP 6 (((8 : Int32) * p1) + p2).toNatClampNeg), mZ_4)
      ) else (
        some ((0 : Int32), mZ_4)
      )
    ) fun J31_3 =>
  zJn (fun (_ : Unit) =>
      J31_3 (1 : Int32)
    ) fun J26_5 =>
  if v1 = 0 then (
    J26_5 ()
  ) else (
    if p2 < 0 then (
      J26_5 ()
    ) else (
      zGd (inb p1 12) <|
      if p2 < (mP 3 p1.toNatClampNeg) then (
        J31_3 (0 : Int32)
      ) else (
        J26_5 ()
      )
    )
  )
abbrev rX10_name : Room := { frames := 1, cells := 0, slots := 0, locals := 21 }
set_option maxHeartbeats 4000000 in
set_option maxRecDepth 100000 in
theorem mtX10_name (l : Launch) (dC : Nat → ClassId) (dI : Nat → Nat → Nat) (cI cB : ClassId) (bV bP bS bW bN bO : Nat → Nat) (sz : Nat) (mZ : Rc) (mY : Rc) (mB : Rc) (mL : Rc) (mU : Rc) (mJ : Rc) (mK : Rc) (mG : Rc) (mA : Rc) (mP : Rc) (p1 : Int32) (p2 : Int32) {ov : Int32} {mZ' : Rc} (hf : fX10_name mZ mY mP p1 p2 = some (ov, mZ')) : zMi l yX10_name (Cond.code yX10_name cX10_name 3 (some .int) :: lw_g) rX10_name (dC, dI) [(cI, .int), (cB, .byte)] [.ref (bV 0), .int p1, .int p2] sz (kX10 cI cB bV (bP 0) (bS 0) (bW 0) (bN 0) (bO 0) mZ mY mB mL mU mJ mK mG mA ++ kX8 cI cB bP mP) ov (kX10 cI cB bV (bP 0) (bS 0) (bW 0) (bN 0) (bO 0) mZ' mY mB mL mU mJ mK mG mA ++ kX8 cI cB bP mP) := by
  refine zSt (cc := cX10_name) (maxL := 3) (ret := (some .int)) (own := RX10) (fun A => zQi (dC, dI) [(cI, .int), (cB, .byte)] A ov (kX10 cI cB bV (bP 0) (bS 0) (bW 0) (bN 0) (bO 0) mZ' mY mB mL mU mJ mK mG mA ++ kX8 cI cB bP mP)) (by decide) rfl rfl (Nat.le_of_ble_eq_true rfl) ?_
  intro p e s m below meth c ls A H locs C hK hA hP hD hS hl
  generalize hQ : MQ below (zQi (dC, dI) [(cI, .int), (cB, .byte)] A ov (kX10 cI cB bV (bP 0) (bS 0) (bW 0) (bN 0) (bO 0) mZ' mY mB mL mU mJ mK mG mA ++ kX8 cI cB bP mP)) _ s 0 0 A = QQ
  generalize ([.ref (bV 0), .int p1, .int p2] : List Value).toArray = args at C hQ ⊢
  have hl : lv_has ls 3 [(0, .ref (bV 0)), (1, .int p1), (2, .int p2)] := hl
  unfold fX10_name at hf
  refine lv_aload_n C.1.1 C.1.2.1 dX10_name_0 rfl (lv_at hl 0 rfl) ?_
  refine lv_aload_n C.1.1 C.1.2.1 dX10_name_1 rfl (lv_at hl 0 rfl) ?_
  refine lv_iload_n C.1.1 C.1.2.1 dX10_name_2 rfl (lv_at hl 1 rfl) ?_
  obtain ⟨v1, hg, hf⟩ := zB1_el hf
  refine zCVi (As := [.int p1]) (rest := [.ref (bV 0)]) (wr := ([] : va_W)) (wn := (kX10 cI cB bV (bP 0) (bS 0) (bW 0) (bN 0) (bO 0) mZ mY mB mL mU mJ mK mG mA ++ kX8 cI cB bP mP)) C.1 hK hA hP hD hS [0, 1, 2, 3, 4, 5, 6, 7, 8, 9, 10, 11, 12, 13, 14, 15, 16, 17, 18, 19, 20, 21, 22, 23, 24] [] [0, 1, 2, 3, 4, 5, 6, 7, 8, 9, 10, 11, 12, 13, 14, 15, 16, 17, 18, 19, 20, 21, 22, 23, 24] 0 (mtX10_isBlock l dC dI cI cB bV bP bS bW bN bO H.size mZ mY mB mL mU mJ mK mG mA mP p1 hg) (zCwV 1 C.1 wlX10_269 wiX10_isBlock ws_X10_isBlock wnX10 wkX10_isBlock rfl rfl (by decide +kernel) ⟨Nat.le_of_ble_eq_true rfl, Nat.le_of_ble_eq_true rfl⟩) rfl rfl (by decide +kernel) rfl rfl rfl rfl hl.1 (Nat.le_of_ble_eq_true rfl) dX10_name_3 ⟨Nat.zero_le _, Nat.zero_le _⟩ rfl (fun H locs hP hD hS => ?_)
  obtain ⟨J31_3, eJ31_3, hf⟩ := zJn_el hf
  have hJ31_3 : ∀ (t2 : Int32), J31_3 t2 = some (ov, mZ') → ∀ (H : Heap) (locs : List Loc), va_P (dC, dI) vwCl (kX10 cI cB bV (bP 0) (bS 0) (bW 0) (bN 0) (bO 0) mZ mY mB mL mU mJ mK mG mA ++ kX8 cI cB bP mP) H → va_D A (kX10 cI cB bV (bP 0) (bS 0) (bW 0) (bN 0) (bO 0) mZ mY mB mL mU mJ mK mG mA ++ kX8 cI cB bP mP) → va_S A s.heap H locs → ∀ (ls : Array Slot), lv_has ls 3 [(0, .ref (bV 0)), (1, .int p1), (2, .int p2)] → W p l e rX10_name s m args below meth c H locs 0 0 QQ (F0 m 31 ls [.int t2, .ref (bV 0)]) := by
    intro t2 hf H locs hP hD hS ls hl
    rw [eJ31_3] at hf
    obtain ⟨mZ_4, emZ_4, hf⟩ := zLet_el hf
    refine zPut (ty := .int) (kX10 cI cB bV (bP 0) (bS 0) (bW 0) (bN 0) (bO 0) mZ_4 mY mB mL mU mJ mK mG mA ++ kX8 cI cB bP mP) C.1 wuX10 tyX10 tyX10_ok nmX10 hK hP hD hS 0 rfl rfl 0 (by decide) wfX10_86 rfl rfl (by decide +kernel) rfl rfl (Nat.le_of_ble_eq_true rfl) dX10_name_31 (by rw [emZ_4]; rfl) (fun H locs hP hD hS => ?_)
    refine lv_aload_n C.1.1 C.1.2.1 dX10_name_34 rfl (lv_at hl 0 rfl) ?_
    refine zGet (.int (mZ_4 0 0)) C.1 wuX10 hK hP 0 rfl rfl 0 (by decide) wfX10_86 rfl rfl dX10_name_35 ?_
    refine lv_if_le (tgt := 45) C.1.1 C.1.2.1 dX10_name_38 (by decide) (fun hc => ?_) (fun hc => ?_)
    · replace hf := zIf_t hf hc
      refine lv_aload_n C.1.1 C.1.2.1 dX10_name_45 rfl (lv_at hl 0 rfl) ?_
      refine zGet (.ref (bP 0)) C.1 wuX10 hK hP 0 rfl rfl 7 (by decide) wfX10_25 rfl rfl dX10_name_46 ?_
      refine zGetN (.ref (bP 4)) C.1 wuX8 hK hP 14 rfl rfl 6 (by decide) nfX10_161 rfl rfl dX10_name_49 ?_
      refine lv_bipush (v := 8) C.1.1 C.1.2.1 dX10_name_52 (by decide) ?_
      refine lv_iload_n C.1.1 C.1.2.1 dX10_name_54 rfl (lv_at hl 1 rfl) ?_
      refine lv_imul C.1.1 C.1.2.1 dX10_name_55 ?_
      refine lv_iload_n C.1.1 C.1.2.1 dX10_name_56 rfl (lv_at hl 2 rfl) ?_
      refine lv_iadd C.1.1 C.1.2.1 dX10_name_57 ?_
      obtain ⟨hib, hf⟩ := zGd_el hf
      refine va_bald C.1.1 C.1.2.1 hK.1 hP 18 1 rfl rfl hib dX10_name_58 ?_
      cases hf
      rw [← hQ]
      exact zRi C hK hP hD hS dX10_name_59
    · replace hf := zIf_f hf hc
      refine lv_iconst (v := 0) C.1.1 C.1.2.1 dX10_name_41 (by decide) ?_
      refine lv_goto (tgt := 59) C.1.1 C.1.2.1 dX10_name_42 (by decide) ?_
      cases hf
      rw [← hQ]
      exact zRi C hK hP hD hS dX10_name_59
  obtain ⟨J26_5, eJ26_5, hf⟩ := zJn_el hf
  have hJ26_5 : ∀ (u : Unit), J26_5 u = some (ov, mZ') → ∀ (H : Heap) (locs : List Loc), va_P (dC, dI) vwCl (kX10 cI cB bV (bP 0) (bS 0) (bW 0) (bN 0) (bO 0) mZ mY mB mL mU mJ mK mG mA ++ kX8 cI cB bP mP) H → va_D A (kX10 cI cB bV (bP 0) (bS 0) (bW 0) (bN 0) (bO 0) mZ mY mB mL mU mJ mK mG mA ++ kX8 cI cB bP mP) → va_S A s.heap H locs → ∀ (ls : Array Slot), lv_has ls 3 [(0, .ref (bV 0)), (1, .int p1), (2, .int p2)] → W p l e rX10_name s m args below meth c H locs 0 0 QQ (F0 m 26 ls [.ref (bV 0)]) := by
    intro u hf H locs hP hD hS ls hl
    rw [eJ26_5] at hf
    refine lv_iconst (v := 1) C.1.1 C.1.2.1 dX10_name_26 (by decide) ?_
    refine lv_goto (tgt := 31) C.1.1 C.1.2.1 dX10_name_27 (by decide) ?_
    exact hJ31_3 (1 : Int32) hf H locs hP hD hS ls (lv_sub hl [0, 1, 2] rfl)
  refine lv_if_eq (tgt := 26) C.1.1 C.1.2.1 dX10_name_6 (by decide) (fun hc => ?_) (fun hc => ?_)
  · replace hf := zIf_t hf hc
    exact hJ26_5 () hf H locs hP hD hS ls (lv_sub hl [0, 1, 2] rfl)
  · replace hf := zIf_f hf hc
    refine lv_iload_n C.1.1 C.1.2.1 dX10_name_9 rfl (lv_at hl 2 rfl) ?_
    refine lv_if_lt (tgt := 26) C.1.1 C.1.2.1 dX10_name_10 (by decide) (fun hc => ?_) (fun hc => ?_)
    · replace hf := zIf_t hf hc
      exact hJ26_5 () hf H locs hP hD hS ls (lv_sub hl [0, 1, 2] rfl)
    · replace hf := zIf_f hf hc
      refine lv_iload_n C.1.1 C.1.2.1 dX10_name_13 rfl (lv_at hl 2 rfl) ?_
      refine lv_aload_n C.1.1 C.1.2.1 dX10_name_14 rfl (lv_at hl 0 rfl) ?_
      refine zGet (.ref (bP 0)) C.1 wuX10 hK hP 0 rfl rfl 7 (by decide) wfX10_25 rfl rfl dX10_name_15 ?_
      refine zGetN (.ref (bP 1)) C.1 wuX8 hK hP 14 rfl rfl 3 (by decide) nfX10_158 rfl rfl dX10_name_18 ?_
      refine lv_iload_n C.1.1 C.1.2.1 dX10_name_21 rfl (lv_at hl 1 rfl) ?_
      obtain ⟨hib, hf⟩ := zGd_el hf
      refine va_iald C.1.1 C.1.2.1 hK.1 hP 15 0 rfl rfl hib dX10_name_22 ?_
      refine lv_icmp_lt (tgt := 30) C.1.1 C.1.2.1 dX10_name_23 (by decide) (fun hc => ?_) (fun hc => ?_)
      · replace hf := zIf_t hf hc
        refine lv_iconst (v := 0) C.1.1 C.1.2.1 dX10_name_30 (by decide) ?_
        exact hJ31_3 (0 : Int32) hf H locs hP hD hS ls (lv_sub hl [0, 1, 2] rfl)
      · replace hf := zIf_f hf hc
        exact hJ26_5 () hf H locs hP hD hS ls (lv_sub hl [0, 1, 2] rfl)
def fX10_count (mZ : Rc) (mY : Rc) (mB : Rc) (mP : Rc) (p1 : Int32) : Option (Int32 × Rc) :=
  zLet (rs mZ 0 (fun _ => (0 : Int32))) fun mZ_1 =>
  if p1 = 0 then (
    some ((mY 4 0), mZ_1)
  ) else (
    if p1 = 1 then (
      some ((mY 5 0), mZ_1)
    ) else (
      if p1 = 2 then (
        some ((mY 6 0), mZ_1)
      ) else (
        if p1 = 3 then (
          if (mY 9 0) = 0 then (
            some ((0 : Int32), mZ_1)
          ) else (
            some ((mP 0 0), mZ_1)
          )
        ) else (
          if p1 = 4 then (
            some ((mB 12 0), mZ_1)
          ) else (
            if p1 = 5 then (
              if (mY 9 0) = 0 then (
                some ((0 : Int32), mZ_1)
              ) else (
                some ((mP 2 0), mZ_1)
              )
            ) else (
              some ((-1 : Int32), mZ_1)
            )
          )
        )
      )
    )
  )
abbrev rX10_count : Room := { frames := 0, cells := 0, slots := 0, locals := 0 }
set_option maxHeartbeats 4000000 in
set_option maxRecDepth 100000 in
theorem mtX10_count (l : Launch) (dC : Nat → ClassId) (dI : Nat → Nat → Nat) (cI cB : ClassId) (bV bP bS bW bN bO : Nat → Nat) (sz : Nat) (mZ : Rc) (mY : Rc) (mB : Rc) (mL : Rc) (mU : Rc) (mJ : Rc) (mK : Rc) (mG : Rc) (mA : Rc) (mP : Rc) (p1 : Int32) {ov : Int32} {mZ' : Rc} (hf : fX10_count mZ mY mB mP p1 = some (ov, mZ')) : zMi l yX10_count (Cond.code yX10_count cX10_count 2 (some .int) :: lw_g) rX10_count (dC, dI) [(cI, .int), (cB, .byte)] [.ref (bV 0), .int p1] sz (kX10 cI cB bV (bP 0) (bS 0) (bW 0) (bN 0) (bO 0) mZ mY mB mL mU mJ mK mG mA ++ kX8 cI cB bP mP) ov (kX10 cI cB bV (bP 0) (bS 0) (bW 0) (bN 0) (bO 0) mZ' mY mB mL mU mJ mK mG mA ++ kX8 cI cB bP mP) := by
  refine zSt (cc := cX10_count) (maxL := 2) (ret := (some .int)) (own := RX10) (fun A => zQi (dC, dI) [(cI, .int), (cB, .byte)] A ov (kX10 cI cB bV (bP 0) (bS 0) (bW 0) (bN 0) (bO 0) mZ' mY mB mL mU mJ mK mG mA ++ kX8 cI cB bP mP)) (by decide) rfl rfl (Nat.le_of_ble_eq_true rfl) ?_
  intro p e s m below meth c ls A H locs C hK hA hP hD hS hl
  generalize hQ : MQ below (zQi (dC, dI) [(cI, .int), (cB, .byte)] A ov (kX10 cI cB bV (bP 0) (bS 0) (bW 0) (bN 0) (bO 0) mZ' mY mB mL mU mJ mK mG mA ++ kX8 cI cB bP mP)) _ s 0 0 A = QQ
  generalize ([.ref (bV 0), .int p1] : List Value).toArray = args at C hQ ⊢
  have hl : lv_has ls 2 [(0, .ref (bV 0)), (1, .int p1)] := hl
  unfold fX10_count at hf
  refine lv_aload_n C.1.1 C.1.2.1 dX10_count_0 rfl (lv_at hl 0 rfl) ?_
  refine lv_iconst (v := 0) C.1.1 C.1.2.1 dX10_count_1 (by decide) ?_
  obtain ⟨mZ_1, emZ_1, hf⟩ := zLet_el hf
  refine zPut (ty := .int) (kX10 cI cB bV (bP 0) (bS 0) (bW 0) (bN 0) (bO 0) mZ_1 mY mB mL mU mJ mK mG mA ++ kX8 cI cB bP mP) C.1 wuX10 tyX10 tyX10_ok nmX10 hK hP hD hS 0 rfl rfl 0 (by decide) wfX10_86 rfl rfl (by decide +kernel) rfl rfl (Nat.le_of_ble_eq_true rfl) dX10_count_2 (by rw [emZ_1]; rfl) (fun H locs hP hD hS => ?_)
  refine lv_iload_n C.1.1 C.1.2.1 dX10_count_5 rfl (lv_at hl 1 rfl) ?_
  rcases Classical.em (p1 = 0) with hk2 | hk2
  · replace hf := zIf_t hf hk2
    refine lv_tableIn (off := 38) (tgt := 44) C.1.1 C.1.2.1 dX10_count_6 (by rw [hk2] <;> decide +kernel) (by rw [hk2] <;> decide +kernel) (by rw [hk2] <;> decide +kernel) (by decide) ?_
    refine lv_aload_n C.1.1 C.1.2.1 dX10_count_44 rfl (lv_at hl 0 rfl) ?_
    refine zGet (.int (mY 4 0)) C.1 wuX10 hK hP 0 rfl rfl 4 (by decide) wfX10_13 rfl rfl dX10_count_45 ?_
    cases hf
    rw [← hQ]
    exact zRi C hK hP hD hS dX10_count_48
  · replace hf := zIf_f hf hk2
    rcases Classical.em (p1 = 1) with hk3 | hk3
    · replace hf := zIf_t hf hk3
      refine lv_tableIn (off := 43) (tgt := 49) C.1.1 C.1.2.1 dX10_count_6 (by rw [hk3] <;> decide +kernel) (by rw [hk3] <;> decide +kernel) (by rw [hk3] <;> decide +kernel) (by decide) ?_
      refine lv_aload_n C.1.1 C.1.2.1 dX10_count_49 rfl (lv_at hl 0 rfl) ?_
      refine zGet (.int (mY 5 0)) C.1 wuX10 hK hP 0 rfl rfl 5 (by decide) wfX10_16 rfl rfl dX10_count_50 ?_
      cases hf
      rw [← hQ]
      exact zRi C hK hP hD hS dX10_count_53
    · replace hf := zIf_f hf hk3
      rcases Classical.em (p1 = 2) with hk4 | hk4
      · replace hf := zIf_t hf hk4
        refine lv_tableIn (off := 48) (tgt := 54) C.1.1 C.1.2.1 dX10_count_6 (by rw [hk4] <;> decide +kernel) (by rw [hk4] <;> decide +kernel) (by rw [hk4] <;> decide +kernel) (by decide) ?_
        refine lv_aload_n C.1.1 C.1.2.1 dX10_count_54 rfl (lv_at hl 0 rfl) ?_
        refine zGet (.int (mY 6 0)) C.1 wuX10 hK hP 0 rfl rfl 6 (by decide) wfX10_19 rfl rfl dX10_count_55 ?_
        cases hf
        rw [← hQ]
        exact zRi C hK hP hD hS dX10_count_58
      · replace hf := zIf_f hf hk4
        rcases Classical.em (p1 = 3) with hk5 | hk5
        · replace hf := zIf_t hf hk5
          refine lv_tableIn (off := 53) (tgt := 59) C.1.1 C.1.2.1 dX10_count_6 (by rw [hk5] <;> decide +kernel) (by rw [hk5] <;> decide +kernel) (by rw [hk5] <;> decide +kernel) (by decide) ?_
          refine lv_aload_n C.1.1 C.1.2.1 dX10_count_59 rfl (lv_at hl 0 rfl) ?_
          refine zGet (.int (mY 9 0)) C.1 wuX10 hK hP 0 rfl rfl 9 (by decide) wfX10_230 rfl rfl dX10_count_60 ?_
          refine lv_if_eq (tgt := 76) C.1.1 C.1.2.1 dX10_count_63 (by decide) (fun hc => ?_) (fun hc => ?_)
          · replace hf := zIf_t hf hc
            refine lv_iconst (v := 0) C.1.1 C.1.2.1 dX10_count_76 (by decide) ?_
            cases hf
            rw [← hQ]
            exact zRi C hK hP hD hS dX10_count_77
          · replace hf := zIf_f hf hc
            refine lv_aload_n C.1.1 C.1.2.1 dX10_count_66 rfl (lv_at hl 0 rfl) ?_
            refine zGet (.ref (bP 0)) C.1 wuX10 hK hP 0 rfl rfl 7 (by decide) wfX10_25 rfl rfl dX10_count_67 ?_
            refine zGetN (.int (mP 0 0)) C.1 wuX8 hK hP 14 rfl rfl 0 (by decide) nfX10_146 rfl rfl dX10_count_70 ?_
            refine lv_goto (tgt := 77) C.1.1 C.1.2.1 dX10_count_73 (by decide) ?_
            cases hf
            rw [← hQ]
            exact zRi C hK hP hD hS dX10_count_77
        · replace hf := zIf_f hf hk5
          rcases Classical.em (p1 = 4) with hk6 | hk6
          · replace hf := zIf_t hf hk6
            refine lv_tableIn (off := 72) (tgt := 78) C.1.1 C.1.2.1 dX10_count_6 (by rw [hk6] <;> decide +kernel) (by rw [hk6] <;> decide +kernel) (by rw [hk6] <;> decide +kernel) (by decide) ?_
            refine lv_aload_n C.1.1 C.1.2.1 dX10_count_78 rfl (lv_at hl 0 rfl) ?_
            refine zGet (.int (mB 12 0)) C.1 wuX10 hK hP 0 rfl rfl 12 (by decide) wfX10_218 rfl rfl dX10_count_79 ?_
            cases hf
            rw [← hQ]
            exact zRi C hK hP hD hS dX10_count_82
          · replace hf := zIf_f hf hk6
            rcases Classical.em (p1 = 5) with hk7 | hk7
            · replace hf := zIf_t hf hk7
              refine lv_tableIn (off := 77) (tgt := 83) C.1.1 C.1.2.1 dX10_count_6 (by rw [hk7] <;> decide +kernel) (by rw [hk7] <;> decide +kernel) (by rw [hk7] <;> decide +kernel) (by decide) ?_
              refine lv_aload_n C.1.1 C.1.2.1 dX10_count_83 rfl (lv_at hl 0 rfl) ?_
              refine zGet (.int (mY 9 0)) C.1 wuX10 hK hP 0 rfl rfl 9 (by decide) wfX10_230 rfl rfl dX10_count_84 ?_
              refine lv_if_eq (tgt := 100) C.1.1 C.1.2.1 dX10_count_87 (by decide) (fun hc => ?_) (fun hc => ?_)
              · replace hf := zIf_t hf hc
                refine lv_iconst (v := 0) C.1.1 C.1.2.1 dX10_count_100 (by decide) ?_
                cases hf
                rw [← hQ]
                exact zRi C hK hP hD hS dX10_count_101
              · replace hf := zIf_f hf hc
                refine lv_aload_n C.1.1 C.1.2.1 dX10_count_90 rfl (lv_at hl 0 rfl) ?_
                refine zGet (.ref (bP 0)) C.1 wuX10 hK hP 0 rfl rfl 7 (by decide) wfX10_25 rfl rfl dX10_count_91 ?_
                refine zGetN (.int (mP 2 0)) C.1 wuX8 hK hP 14 rfl rfl 2 (by decide) nfX10_143 rfl rfl dX10_count_94 ?_
                refine lv_goto (tgt := 101) C.1.1 C.1.2.1 dX10_count_97 (by decide) ?_
                cases hf
                rw [← hQ]
                exact zRi C hK hP hD hS dX10_count_101
            · replace hf := zIf_f hf hk7
              have nhk2 := lv_neT hk2 (a := 0) (by decide)
              have nhk3 := lv_neT hk3 (a := 1) (by decide)
              have nhk4 := lv_neT hk4 (a := 2) (by decide)
              have nhk5 := lv_neT hk5 (a := 3) (by decide)
              have nhk6 := lv_neT hk6 (a := 4) (by decide)
              have nhk7 := lv_neT hk7 (a := 5) (by decide)
              refine lv_tableOut (tgt := 102) C.1.1 C.1.2.1 dX10_count_6 (by omega) (by decide) ?_
              refine lv_iconst (v := (-1)) C.1.1 C.1.2.1 dX10_count_102 (by decide) ?_
              cases hf
              rw [← hQ]
              exact zRi C hK hP hD hS dX10_count_103
def fX10_trouble (mZ : Rc) : Option (Int32 × Rc) :=
  zLet (rs mZ 0 (fun _ => (0 : Int32))) fun mZ_1 =>
  some ((mZ_1 1 0), mZ_1)
abbrev rX10_trouble : Room := { frames := 0, cells := 0, slots := 0, locals := 0 }
set_option maxHeartbeats 4000000 in
set_option maxRecDepth 100000 in
theorem mtX10_trouble (l : Launch) (dC : Nat → ClassId) (dI : Nat → Nat → Nat) (cI cB : ClassId) (bV bP bS bW bN bO : Nat → Nat) (sz : Nat) (mZ : Rc) (mY : Rc) (mB : Rc) (mL : Rc) (mU : Rc) (mJ : Rc) (mK : Rc) (mG : Rc) (mA : Rc) {ov : Int32} {mZ' : Rc} (hf : fX10_trouble mZ = some (ov, mZ')) : zMi l yX10_trouble (Cond.code yX10_trouble cX10_trouble 1 (some .int) :: lw_g) rX10_trouble (dC, dI) [(cI, .int), (cB, .byte)] [.ref (bV 0)] sz (kX10 cI cB bV (bP 0) (bS 0) (bW 0) (bN 0) (bO 0) mZ mY mB mL mU mJ mK mG mA) ov (kX10 cI cB bV (bP 0) (bS 0) (bW 0) (bN 0) (bO 0) mZ' mY mB mL mU mJ mK mG mA) := by
  refine zSt (cc := cX10_trouble) (maxL := 1) (ret := (some .int)) (own := RX10) (fun A => zQi (dC, dI) [(cI, .int), (cB, .byte)] A ov (kX10 cI cB bV (bP 0) (bS 0) (bW 0) (bN 0) (bO 0) mZ' mY mB mL mU mJ mK mG mA)) (by decide) rfl rfl (Nat.le_of_ble_eq_true rfl) ?_
  intro p e s m below meth c ls A H locs C hK hA hP hD hS hl
  generalize hQ : MQ below (zQi (dC, dI) [(cI, .int), (cB, .byte)] A ov (kX10 cI cB bV (bP 0) (bS 0) (bW 0) (bN 0) (bO 0) mZ' mY mB mL mU mJ mK mG mA)) _ s 0 0 A = QQ
  generalize ([.ref (bV 0)] : List Value).toArray = args at C hQ ⊢
  have hl : lv_has ls 1 [(0, .ref (bV 0))] := hl
  unfold fX10_trouble at hf
  refine lv_aload_n C.1.1 C.1.2.1 dX10_trouble_0 rfl (lv_at hl 0 rfl) ?_
  refine lv_iconst (v := 0) C.1.1 C.1.2.1 dX10_trouble_1 (by decide) ?_
  obtain ⟨mZ_1, emZ_1, hf⟩ := zLet_el hf
  refine zPut (ty := .int) (kX10 cI cB bV (bP 0) (bS 0) (bW 0) (bN 0) (bO 0) mZ_1 mY mB mL mU mJ mK mG mA) C.1 wuX10 tyX10 tyX10_ok nmX10 hK hP hD hS 0 rfl rfl 0 (by decide) wfX10_86 rfl rfl (by decide +kernel) rfl rfl (Nat.le_of_ble_eq_true rfl) dX10_trouble_2 (by rw [emZ_1]; rfl) (fun H locs hP hD hS => ?_)
  refine lv_aload_n C.1.1 C.1.2.1 dX10_trouble_5 rfl (lv_at hl 0 rfl) ?_
  refine zGet (.int (mZ_1 1 0)) C.1 wuX10 hK hP 0 rfl rfl 1 (by decide) wfX10_89 rfl rfl dX10_trouble_6 ?_
  cases hf
  rw [← hQ]
  exact zRi C hK hP hD hS dX10_trouble_9
